section
-- ===== PART A: goes FIRST, ahead of the names: the tables' words, and 'selects' of the private methods out of them =====
/-- a private method of a class that the tables say can be made, by its rows of tables_1 -/
def lw_okq (q : MethodName × Nat) : Prop := (q.1.cls ≠ "java/lang/invoke/MethodHandle" ∧ q.1.cls ≠ "java/lang/invoke/VarHandle") ∧ Cond.instantiable q.1.cls q.2 ∈ tables_1 ∧ Cond.privateMethod q.1 ∈ tables_1 ∧ Cond.instanceMethod q.1 ∈ tables_1
theorem lw_p0 : lw_okq (⟨"BenchComposer$Reader", "step", "()V"⟩, 9) := ⟨⟨by decide +kernel, by decide +kernel⟩, List.mem_of_getElem? (i := 48) (by decide +kernel), List.mem_of_getElem? (i := 327) (by decide +kernel), List.mem_of_getElem? (i := 328) (by decide +kernel)⟩
theorem lw_p1 : lw_okq (⟨"BenchComposer$Reader", "readLine", "()V"⟩, 9) := ⟨⟨by decide +kernel, by decide +kernel⟩, List.mem_of_getElem? (i := 48) (by decide +kernel), List.mem_of_getElem? (i := 340) (by decide +kernel), List.mem_of_getElem? (i := 341) (by decide +kernel)⟩
theorem lw_p2 : lw_okq (⟨"BenchComposer$Reader", "readCourt", "()V"⟩, 9) := ⟨⟨by decide +kernel, by decide +kernel⟩, List.mem_of_getElem? (i := 48) (by decide +kernel), List.mem_of_getElem? (i := 344) (by decide +kernel), List.mem_of_getElem? (i := 345) (by decide +kernel)⟩
theorem lw_p3 : lw_okq (⟨"BenchComposer$Reader", "isWord", "(Ljava/lang/String;)Z"⟩, 9) := ⟨⟨by decide +kernel, by decide +kernel⟩, List.mem_of_getElem? (i := 48) (by decide +kernel), List.mem_of_getElem? (i := 349) (by decide +kernel), List.mem_of_getElem? (i := 350) (by decide +kernel)⟩
theorem lw_p4 : lw_okq (⟨"BenchComposer$Reader", "takeNumber", "(II)I"⟩, 9) := ⟨⟨by decide +kernel, by decide +kernel⟩, List.mem_of_getElem? (i := 48) (by decide +kernel), List.mem_of_getElem? (i := 401) (by decide +kernel), List.mem_of_getElem? (i := 402) (by decide +kernel)⟩
theorem lw_p5 : lw_okq (⟨"BenchComposer$Reader", "readJudge", "()V"⟩, 9) := ⟨⟨by decide +kernel, by decide +kernel⟩, List.mem_of_getElem? (i := 48) (by decide +kernel), List.mem_of_getElem? (i := 406) (by decide +kernel), List.mem_of_getElem? (i := 407) (by decide +kernel)⟩
theorem lw_p6 : lw_okq (⟨"BenchComposer$Reader", "readSenior", "()V"⟩, 9) := ⟨⟨by decide +kernel, by decide +kernel⟩, List.mem_of_getElem? (i := 48) (by decide +kernel), List.mem_of_getElem? (i := 411) (by decide +kernel), List.mem_of_getElem? (i := 412) (by decide +kernel)⟩
theorem lw_p7 : lw_okq (⟨"BenchComposer$Reader", "readCase", "()V"⟩, 9) := ⟨⟨by decide +kernel, by decide +kernel⟩, List.mem_of_getElem? (i := 48) (by decide +kernel), List.mem_of_getElem? (i := 416) (by decide +kernel), List.mem_of_getElem? (i := 417) (by decide +kernel)⟩
theorem lw_p8 : lw_okq (⟨"BenchComposer$Reader", "takeBarred", "()I"⟩, 9) := ⟨⟨by decide +kernel, by decide +kernel⟩, List.mem_of_getElem? (i := 48) (by decide +kernel), List.mem_of_getElem? (i := 421) (by decide +kernel), List.mem_of_getElem? (i := 422) (by decide +kernel)⟩
theorem lw_p9 : lw_okq (⟨"BenchComposer$Reader", "takeSign", "()V"⟩, 9) := ⟨⟨by decide +kernel, by decide +kernel⟩, List.mem_of_getElem? (i := 48) (by decide +kernel), List.mem_of_getElem? (i := 432) (by decide +kernel), List.mem_of_getElem? (i := 433) (by decide +kernel)⟩
theorem lw_p10 : lw_okq (⟨"BenchComposer$Told", "markSeniors", "()V"⟩, 12) := ⟨⟨by decide +kernel, by decide +kernel⟩, List.mem_of_getElem? (i := 54) (by decide +kernel), List.mem_of_getElem? (i := 443) (by decide +kernel), List.mem_of_getElem? (i := 444) (by decide +kernel)⟩
theorem lw_p11 : lw_okq (⟨"BenchComposer$Court", "listThirds", "(III)V"⟩, 10) := ⟨⟨by decide +kernel, by decide +kernel⟩, List.mem_of_getElem? (i := 157) (by decide +kernel), List.mem_of_getElem? (i := 479) (by decide +kernel), List.mem_of_getElem? (i := 480) (by decide +kernel)⟩
theorem lw_p12 : lw_okq (⟨"BenchComposer$Court", "isLawful", "(II)Z"⟩, 10) := ⟨⟨by decide +kernel, by decide +kernel⟩, List.mem_of_getElem? (i := 157) (by decide +kernel), List.mem_of_getElem? (i := 483) (by decide +kernel), List.mem_of_getElem? (i := 484) (by decide +kernel)⟩
theorem lw_p13 : lw_okq (⟨"BenchComposer$Court", "countBench", "(III)V"⟩, 10) := ⟨⟨by decide +kernel, by decide +kernel⟩, List.mem_of_getElem? (i := 157) (by decide +kernel), List.mem_of_getElem? (i := 497) (by decide +kernel), List.mem_of_getElem? (i := 498) (by decide +kernel)⟩
theorem lw_p14 : lw_okq (⟨"BenchComposer$Court", "pairsBehind", "(II)I"⟩, 10) := ⟨⟨by decide +kernel, by decide +kernel⟩, List.mem_of_getElem? (i := 157) (by decide +kernel), List.mem_of_getElem? (i := 509) (by decide +kernel), List.mem_of_getElem? (i := 510) (by decide +kernel)⟩
theorem lw_p15 : lw_okq (⟨"BenchComposer$Court", "leastTensionAbove", "(I)I"⟩, 10) := ⟨⟨by decide +kernel, by decide +kernel⟩, List.mem_of_getElem? (i := 157) (by decide +kernel), List.mem_of_getElem? (i := 513) (by decide +kernel), List.mem_of_getElem? (i := 514) (by decide +kernel)⟩
def lw_privs_1 : List (MethodName × Nat) := [(⟨"BenchComposer$Reader", "step", "()V"⟩, 9), (⟨"BenchComposer$Reader", "readLine", "()V"⟩, 9), (⟨"BenchComposer$Reader", "readCourt", "()V"⟩, 9), (⟨"BenchComposer$Reader", "isWord", "(Ljava/lang/String;)Z"⟩, 9), (⟨"BenchComposer$Reader", "takeNumber", "(II)I"⟩, 9), (⟨"BenchComposer$Reader", "readJudge", "()V"⟩, 9), (⟨"BenchComposer$Reader", "readSenior", "()V"⟩, 9), (⟨"BenchComposer$Reader", "readCase", "()V"⟩, 9), (⟨"BenchComposer$Reader", "takeBarred", "()I"⟩, 9), (⟨"BenchComposer$Reader", "takeSign", "()V"⟩, 9), (⟨"BenchComposer$Told", "markSeniors", "()V"⟩, 12), (⟨"BenchComposer$Court", "listThirds", "(III)V"⟩, 10), (⟨"BenchComposer$Court", "isLawful", "(II)Z"⟩, 10), (⟨"BenchComposer$Court", "countBench", "(III)V"⟩, 10), (⟨"BenchComposer$Court", "pairsBehind", "(II)I"⟩, 10), (⟨"BenchComposer$Court", "leastTensionAbove", "(I)I"⟩, 10)]
theorem lw_r1 : ∀ q ∈ lw_privs_1, lw_okq q := List.forall_mem_cons.mpr ⟨lw_p0, List.forall_mem_cons.mpr ⟨lw_p1, List.forall_mem_cons.mpr ⟨lw_p2, List.forall_mem_cons.mpr ⟨lw_p3, List.forall_mem_cons.mpr ⟨lw_p4, List.forall_mem_cons.mpr ⟨lw_p5, List.forall_mem_cons.mpr ⟨lw_p6, List.forall_mem_cons.mpr ⟨lw_p7, List.forall_mem_cons.mpr ⟨lw_p8, List.forall_mem_cons.mpr ⟨lw_p9, List.forall_mem_cons.mpr ⟨lw_p10, List.forall_mem_cons.mpr ⟨lw_p11, List.forall_mem_cons.mpr ⟨lw_p12, List.forall_mem_cons.mpr ⟨lw_p13, List.forall_mem_cons.mpr ⟨lw_p14, List.forall_mem_cons.mpr ⟨lw_p15, fun _ h => absurd h List.not_mem_nil⟩⟩⟩⟩⟩⟩⟩⟩⟩⟩⟩⟩⟩⟩⟩⟩
theorem lw_p16 : lw_okq (⟨"BenchComposer$Court", "countListedAt", "(I)I"⟩, 10) := ⟨⟨by decide +kernel, by decide +kernel⟩, List.mem_of_getElem? (i := 157) (by decide +kernel), List.mem_of_getElem? (i := 519) (by decide +kernel), List.mem_of_getElem? (i := 520) (by decide +kernel)⟩
theorem lw_p17 : lw_okq (⟨"BenchComposer$Court", "pooledAt", "(I)I"⟩, 10) := ⟨⟨by decide +kernel, by decide +kernel⟩, List.mem_of_getElem? (i := 157) (by decide +kernel), List.mem_of_getElem? (i := 524) (by decide +kernel), List.mem_of_getElem? (i := 525) (by decide +kernel)⟩
theorem lw_p18 : lw_okq (⟨"BenchComposer$Court", "findBetterFor", "(II)Z"⟩, 10) := ⟨⟨by decide +kernel, by decide +kernel⟩, List.mem_of_getElem? (i := 157) (by decide +kernel), List.mem_of_getElem? (i := 685) (by decide +kernel), List.mem_of_getElem? (i := 686) (by decide +kernel)⟩
theorem lw_p19 : lw_okq (⟨"BenchComposer$Court", "gainOf", "(IIII)I"⟩, 10) := ⟨⟨by decide +kernel, by decide +kernel⟩, List.mem_of_getElem? (i := 157) (by decide +kernel), List.mem_of_getElem? (i := 698) (by decide +kernel), List.mem_of_getElem? (i := 699) (by decide +kernel)⟩
theorem lw_p20 : lw_okq (⟨"BenchComposer$Court", "movePairs", "(III)I"⟩, 10) := ⟨⟨by decide +kernel, by decide +kernel⟩, List.mem_of_getElem? (i := 157) (by decide +kernel), List.mem_of_getElem? (i := 702) (by decide +kernel), List.mem_of_getElem? (i := 703) (by decide +kernel)⟩
theorem lw_p21 : lw_okq (⟨"BenchComposer$Court", "keepFound", "(IIIII)V"⟩, 10) := ⟨⟨by decide +kernel, by decide +kernel⟩, List.mem_of_getElem? (i := 157) (by decide +kernel), List.mem_of_getElem? (i := 706) (by decide +kernel), List.mem_of_getElem? (i := 707) (by decide +kernel)⟩
theorem lw_p22 : lw_okq (⟨"java/lang/Throwable", "fillInStackTrace", "(I)Ljava/lang/Throwable;"⟩, 6) := ⟨⟨by decide +kernel, by decide +kernel⟩, List.mem_of_getElem? (i := 783) (by decide +kernel), List.mem_of_getElem? (i := 781) (by decide +kernel), List.mem_of_getElem? (i := 782) (by decide +kernel)⟩
theorem lw_p23 : lw_okq (⟨"BenchComposerModel", "lays", "(I)V"⟩, 28) := ⟨⟨by decide +kernel, by decide +kernel⟩, List.mem_of_getElem? (i := 845) (by decide +kernel), List.mem_of_getElem? (i := 843) (by decide +kernel), List.mem_of_getElem? (i := 844) (by decide +kernel)⟩
theorem lw_p24 : lw_okq (⟨"BenchComposerModel", "go", "()V"⟩, 28) := ⟨⟨by decide +kernel, by decide +kernel⟩, List.mem_of_getElem? (i := 845) (by decide +kernel), List.mem_of_getElem? (i := 946) (by decide +kernel), List.mem_of_getElem? (i := 947) (by decide +kernel)⟩
theorem lw_p25 : lw_okq (⟨"BenchComposerModel", "tapeAt", "(I)I"⟩, 28) := ⟨⟨by decide +kernel, by decide +kernel⟩, List.mem_of_getElem? (i := 845) (by decide +kernel), List.mem_of_getElem? (i := 956) (by decide +kernel), List.mem_of_getElem? (i := 957) (by decide +kernel)⟩
theorem lw_p26 : lw_okq (⟨"BenchComposerModel", "readLine", "()Z"⟩, 28) := ⟨⟨by decide +kernel, by decide +kernel⟩, List.mem_of_getElem? (i := 845) (by decide +kernel), List.mem_of_getElem? (i := 962) (by decide +kernel), List.mem_of_getElem? (i := 963) (by decide +kernel)⟩
theorem lw_p27 : lw_okq (⟨"BenchComposerModel", "is", "(IIIIII)Z"⟩, 28) := ⟨⟨by decide +kernel, by decide +kernel⟩, List.mem_of_getElem? (i := 845) (by decide +kernel), List.mem_of_getElem? (i := 966) (by decide +kernel), List.mem_of_getElem? (i := 967) (by decide +kernel)⟩
theorem lw_p28 : lw_okq (⟨"BenchComposerModel", "readCourt", "()Z"⟩, 28) := ⟨⟨by decide +kernel, by decide +kernel⟩, List.mem_of_getElem? (i := 845) (by decide +kernel), List.mem_of_getElem? (i := 970) (by decide +kernel), List.mem_of_getElem? (i := 971) (by decide +kernel)⟩
theorem lw_p29 : lw_okq (⟨"BenchComposerModel", "told", "(III)Z"⟩, 28) := ⟨⟨by decide +kernel, by decide +kernel⟩, List.mem_of_getElem? (i := 845) (by decide +kernel), List.mem_of_getElem? (i := 974) (by decide +kernel), List.mem_of_getElem? (i := 975) (by decide +kernel)⟩
theorem lw_p30 : lw_okq (⟨"BenchComposerModel", "bad", "(I)Z"⟩, 28) := ⟨⟨by decide +kernel, by decide +kernel⟩, List.mem_of_getElem? (i := 845) (by decide +kernel), List.mem_of_getElem? (i := 978) (by decide +kernel), List.mem_of_getElem? (i := 979) (by decide +kernel)⟩
theorem lw_p31 : lw_okq (⟨"BenchComposerModel", "readJudge", "()Z"⟩, 28) := ⟨⟨by decide +kernel, by decide +kernel⟩, List.mem_of_getElem? (i := 845) (by decide +kernel), List.mem_of_getElem? (i := 985) (by decide +kernel), List.mem_of_getElem? (i := 986) (by decide +kernel)⟩
def lw_privs_2 : List (MethodName × Nat) := [(⟨"BenchComposer$Court", "countListedAt", "(I)I"⟩, 10), (⟨"BenchComposer$Court", "pooledAt", "(I)I"⟩, 10), (⟨"BenchComposer$Court", "findBetterFor", "(II)Z"⟩, 10), (⟨"BenchComposer$Court", "gainOf", "(IIII)I"⟩, 10), (⟨"BenchComposer$Court", "movePairs", "(III)I"⟩, 10), (⟨"BenchComposer$Court", "keepFound", "(IIIII)V"⟩, 10), (⟨"java/lang/Throwable", "fillInStackTrace", "(I)Ljava/lang/Throwable;"⟩, 6), (⟨"BenchComposerModel", "lays", "(I)V"⟩, 28), (⟨"BenchComposerModel", "go", "()V"⟩, 28), (⟨"BenchComposerModel", "tapeAt", "(I)I"⟩, 28), (⟨"BenchComposerModel", "readLine", "()Z"⟩, 28), (⟨"BenchComposerModel", "is", "(IIIIII)Z"⟩, 28), (⟨"BenchComposerModel", "readCourt", "()Z"⟩, 28), (⟨"BenchComposerModel", "told", "(III)Z"⟩, 28), (⟨"BenchComposerModel", "bad", "(I)Z"⟩, 28), (⟨"BenchComposerModel", "readJudge", "()Z"⟩, 28)]
theorem lw_r2 : ∀ q ∈ lw_privs_2, lw_okq q := List.forall_mem_cons.mpr ⟨lw_p16, List.forall_mem_cons.mpr ⟨lw_p17, List.forall_mem_cons.mpr ⟨lw_p18, List.forall_mem_cons.mpr ⟨lw_p19, List.forall_mem_cons.mpr ⟨lw_p20, List.forall_mem_cons.mpr ⟨lw_p21, List.forall_mem_cons.mpr ⟨lw_p22, List.forall_mem_cons.mpr ⟨lw_p23, List.forall_mem_cons.mpr ⟨lw_p24, List.forall_mem_cons.mpr ⟨lw_p25, List.forall_mem_cons.mpr ⟨lw_p26, List.forall_mem_cons.mpr ⟨lw_p27, List.forall_mem_cons.mpr ⟨lw_p28, List.forall_mem_cons.mpr ⟨lw_p29, List.forall_mem_cons.mpr ⟨lw_p30, List.forall_mem_cons.mpr ⟨lw_p31, fun _ h => absurd h List.not_mem_nil⟩⟩⟩⟩⟩⟩⟩⟩⟩⟩⟩⟩⟩⟩⟩⟩
theorem lw_p32 : lw_okq (⟨"BenchComposerModel", "readCase", "()Z"⟩, 28) := ⟨⟨by decide +kernel, by decide +kernel⟩, List.mem_of_getElem? (i := 845) (by decide +kernel), List.mem_of_getElem? (i := 989) (by decide +kernel), List.mem_of_getElem? (i := 990) (by decide +kernel)⟩
theorem lw_p33 : lw_okq (⟨"BenchComposerModel", "readEnd", "()Z"⟩, 28) := ⟨⟨by decide +kernel, by decide +kernel⟩, List.mem_of_getElem? (i := 845) (by decide +kernel), List.mem_of_getElem? (i := 996) (by decide +kernel), List.mem_of_getElem? (i := 997) (by decide +kernel)⟩
theorem lw_p34 : lw_okq (⟨"BenchComposerModel", "judges", "()I"⟩, 28) := ⟨⟨by decide +kernel, by decide +kernel⟩, List.mem_of_getElem? (i := 845) (by decide +kernel), List.mem_of_getElem? (i := 1011) (by decide +kernel), List.mem_of_getElem? (i := 1012) (by decide +kernel)⟩
theorem lw_p35 : lw_okq (⟨"BenchComposerModel", "cases", "()I"⟩, 28) := ⟨⟨by decide +kernel, by decide +kernel⟩, List.mem_of_getElem? (i := 845) (by decide +kernel), List.mem_of_getElem? (i := 1015) (by decide +kernel), List.mem_of_getElem? (i := 1016) (by decide +kernel)⟩
theorem lw_p36 : lw_okq (⟨"BenchComposerModel", "having", "(I)I"⟩, 28) := ⟨⟨by decide +kernel, by decide +kernel⟩, List.mem_of_getElem? (i := 845) (by decide +kernel), List.mem_of_getElem? (i := 1019) (by decide +kernel), List.mem_of_getElem? (i := 1020) (by decide +kernel)⟩
theorem lw_p37 : lw_okq (⟨"BenchComposerModel", "isJudge", "(I)Z"⟩, 28) := ⟨⟨by decide +kernel, by decide +kernel⟩, List.mem_of_getElem? (i := 845) (by decide +kernel), List.mem_of_getElem? (i := 1027) (by decide +kernel), List.mem_of_getElem? (i := 1028) (by decide +kernel)⟩
theorem lw_p38 : lw_okq (⟨"BenchComposerModel", "refuse", "()I"⟩, 28) := ⟨⟨by decide +kernel, by decide +kernel⟩, List.mem_of_getElem? (i := 845) (by decide +kernel), List.mem_of_getElem? (i := 1031) (by decide +kernel), List.mem_of_getElem? (i := 1032) (by decide +kernel)⟩
theorem lw_p39 : lw_okq (⟨"BenchComposerModel", "countsOf", "(II)I"⟩, 28) := ⟨⟨by decide +kernel, by decide +kernel⟩, List.mem_of_getElem? (i := 845) (by decide +kernel), List.mem_of_getElem? (i := 1041) (by decide +kernel), List.mem_of_getElem? (i := 1042) (by decide +kernel)⟩
theorem lw_p40 : lw_okq (⟨"BenchComposerModel", "isCase", "(I)Z"⟩, 28) := ⟨⟨by decide +kernel, by decide +kernel⟩, List.mem_of_getElem? (i := 845) (by decide +kernel), List.mem_of_getElem? (i := 1049) (by decide +kernel), List.mem_of_getElem? (i := 1050) (by decide +kernel)⟩
theorem lw_p41 : lw_okq (⟨"BenchComposerModel", "laysBenches", "([II)V"⟩, 28) := ⟨⟨by decide +kernel, by decide +kernel⟩, List.mem_of_getElem? (i := 845) (by decide +kernel), List.mem_of_getElem? (i := 1068) (by decide +kernel), List.mem_of_getElem? (i := 1069) (by decide +kernel)⟩
theorem lw_p42 : lw_okq (⟨"BenchComposerModel", "laysPool", "([II)V"⟩, 28) := ⟨⟨by decide +kernel, by decide +kernel⟩, List.mem_of_getElem? (i := 845) (by decide +kernel), List.mem_of_getElem? (i := 1097) (by decide +kernel), List.mem_of_getElem? (i := 1098) (by decide +kernel)⟩
theorem lw_p43 : lw_okq (⟨"BenchComposerModel", "draws", "([II)Z"⟩, 28) := ⟨⟨by decide +kernel, by decide +kernel⟩, List.mem_of_getElem? (i := 845) (by decide +kernel), List.mem_of_getElem? (i := 1113) (by decide +kernel), List.mem_of_getElem? (i := 1114) (by decide +kernel)⟩
theorem lw_p44 : lw_okq (⟨"BenchComposerModel", "stay", "()V"⟩, 28) := ⟨⟨by decide +kernel, by decide +kernel⟩, List.mem_of_getElem? (i := 845) (by decide +kernel), List.mem_of_getElem? (i := 1118) (by decide +kernel), List.mem_of_getElem? (i := 1119) (by decide +kernel)⟩
theorem lw_p45 : lw_okq (⟨"BenchComposerModel", "snap", "()V"⟩, 28) := ⟨⟨by decide +kernel, by decide +kernel⟩, List.mem_of_getElem? (i := 845) (by decide +kernel), List.mem_of_getElem? (i := 1122) (by decide +kernel), List.mem_of_getElem? (i := 1123) (by decide +kernel)⟩
theorem lw_p46 : lw_okq (⟨"BenchComposerModel", "drawsAll", "([I)I"⟩, 28) := ⟨⟨by decide +kernel, by decide +kernel⟩, List.mem_of_getElem? (i := 845) (by decide +kernel), List.mem_of_getElem? (i := 1130) (by decide +kernel), List.mem_of_getElem? (i := 1131) (by decide +kernel)⟩
theorem lw_p47 : lw_okq (⟨"BenchComposerModel", "repairs", "(II)I"⟩, 28) := ⟨⟨by decide +kernel, by decide +kernel⟩, List.mem_of_getElem? (i := 845) (by decide +kernel), List.mem_of_getElem? (i := 1138) (by decide +kernel), List.mem_of_getElem? (i := 1139) (by decide +kernel)⟩
def lw_privs_3 : List (MethodName × Nat) := [(⟨"BenchComposerModel", "readCase", "()Z"⟩, 28), (⟨"BenchComposerModel", "readEnd", "()Z"⟩, 28), (⟨"BenchComposerModel", "judges", "()I"⟩, 28), (⟨"BenchComposerModel", "cases", "()I"⟩, 28), (⟨"BenchComposerModel", "having", "(I)I"⟩, 28), (⟨"BenchComposerModel", "isJudge", "(I)Z"⟩, 28), (⟨"BenchComposerModel", "refuse", "()I"⟩, 28), (⟨"BenchComposerModel", "countsOf", "(II)I"⟩, 28), (⟨"BenchComposerModel", "isCase", "(I)Z"⟩, 28), (⟨"BenchComposerModel", "laysBenches", "([II)V"⟩, 28), (⟨"BenchComposerModel", "laysPool", "([II)V"⟩, 28), (⟨"BenchComposerModel", "draws", "([II)Z"⟩, 28), (⟨"BenchComposerModel", "stay", "()V"⟩, 28), (⟨"BenchComposerModel", "snap", "()V"⟩, 28), (⟨"BenchComposerModel", "drawsAll", "([I)I"⟩, 28), (⟨"BenchComposerModel", "repairs", "(II)I"⟩, 28)]
theorem lw_r3 : ∀ q ∈ lw_privs_3, lw_okq q := List.forall_mem_cons.mpr ⟨lw_p32, List.forall_mem_cons.mpr ⟨lw_p33, List.forall_mem_cons.mpr ⟨lw_p34, List.forall_mem_cons.mpr ⟨lw_p35, List.forall_mem_cons.mpr ⟨lw_p36, List.forall_mem_cons.mpr ⟨lw_p37, List.forall_mem_cons.mpr ⟨lw_p38, List.forall_mem_cons.mpr ⟨lw_p39, List.forall_mem_cons.mpr ⟨lw_p40, List.forall_mem_cons.mpr ⟨lw_p41, List.forall_mem_cons.mpr ⟨lw_p42, List.forall_mem_cons.mpr ⟨lw_p43, List.forall_mem_cons.mpr ⟨lw_p44, List.forall_mem_cons.mpr ⟨lw_p45, List.forall_mem_cons.mpr ⟨lw_p46, List.forall_mem_cons.mpr ⟨lw_p47, fun _ h => absurd h List.not_mem_nil⟩⟩⟩⟩⟩⟩⟩⟩⟩⟩⟩⟩⟩⟩⟩⟩
theorem lw_p48 : lw_okq (⟨"BenchComposerModel", "evennessNow", "()I"⟩, 28) := ⟨⟨by decide +kernel, by decide +kernel⟩, List.mem_of_getElem? (i := 845) (by decide +kernel), List.mem_of_getElem? (i := 1158) (by decide +kernel), List.mem_of_getElem? (i := 1159) (by decide +kernel)⟩
theorem lw_p49 : lw_okq (⟨"BenchComposerModel", "laysBetter", "()Z"⟩, 28) := ⟨⟨by decide +kernel, by decide +kernel⟩, List.mem_of_getElem? (i := 845) (by decide +kernel), List.mem_of_getElem? (i := 1166) (by decide +kernel), List.mem_of_getElem? (i := 1167) (by decide +kernel)⟩
theorem lw_p50 : lw_okq (⟨"BenchComposerModel", "exchanges", "(IIII)Z"⟩, 28) := ⟨⟨by decide +kernel, by decide +kernel⟩, List.mem_of_getElem? (i := 845) (by decide +kernel), List.mem_of_getElem? (i := 1170) (by decide +kernel), List.mem_of_getElem? (i := 1171) (by decide +kernel)⟩
theorem lw_p51 : lw_okq (⟨"BenchComposerModel", "changes", "(III)V"⟩, 28) := ⟨⟨by decide +kernel, by decide +kernel⟩, List.mem_of_getElem? (i := 845) (by decide +kernel), List.mem_of_getElem? (i := 1174) (by decide +kernel), List.mem_of_getElem? (i := 1175) (by decide +kernel)⟩
theorem lw_p52 : lw_okq (⟨"BenchComposerModel", "laysAnew", "()V"⟩, 28) := ⟨⟨by decide +kernel, by decide +kernel⟩, List.mem_of_getElem? (i := 845) (by decide +kernel), List.mem_of_getElem? (i := 1190) (by decide +kernel), List.mem_of_getElem? (i := 1191) (by decide +kernel)⟩
def lw_privs_4 : List (MethodName × Nat) := [(⟨"BenchComposerModel", "evennessNow", "()I"⟩, 28), (⟨"BenchComposerModel", "laysBetter", "()Z"⟩, 28), (⟨"BenchComposerModel", "exchanges", "(IIII)Z"⟩, 28), (⟨"BenchComposerModel", "changes", "(III)V"⟩, 28), (⟨"BenchComposerModel", "laysAnew", "()V"⟩, 28)]
theorem lw_r4 : ∀ q ∈ lw_privs_4, lw_okq q := List.forall_mem_cons.mpr ⟨lw_p48, List.forall_mem_cons.mpr ⟨lw_p49, List.forall_mem_cons.mpr ⟨lw_p50, List.forall_mem_cons.mpr ⟨lw_p51, List.forall_mem_cons.mpr ⟨lw_p52, fun _ h => absurd h List.not_mem_nil⟩⟩⟩⟩⟩
def lw_privs : List (MethodName × Nat) := lw_privs_1 ++ (lw_privs_2 ++ (lw_privs_3 ++ (lw_privs_4)))
def lw_tbl : List Cond := k2_sels lw_privs ++ tables_1
theorem lw_privs_ok : ∀ q ∈ lw_privs, lw_okq q := by
  show ∀ q ∈ lw_privs_1 ++ (lw_privs_2 ++ (lw_privs_3 ++ (lw_privs_4))), lw_okq q
  exact List.forall_mem_append.mpr ⟨lw_r1, List.forall_mem_append.mpr ⟨lw_r2, List.forall_mem_append.mpr ⟨lw_r3, lw_r4⟩⟩⟩
end
section
/-! ===== BEGIN words of one list among another's, by their places ===== -/
theorem goodIn_r {big : List Cond} (ws : List Cond) (ps : List Nat) (hp : ws = ps.filterMap (fun i => big[i]?)) (h : ws.all goodWord = true) : GoodIn big ws := by
  intro w hw
  have h1 := List.all_eq_true.mp h w hw
  rw [hp] at hw
  obtain ⟨i, -, hi⟩ := List.mem_filterMap.mp hw
  have hm : w ∈ big := by first | exact List.mem_of_getElem? hi | exact List.getElem?_mem hi
  exact ⟨hm, good_of_word h1⟩
theorem goodIn_app {big a b : List Cond} (ha : GoodIn big a) (hb : GoodIn big b) : GoodIn big (a ++ b) := fun w h => (List.mem_append.mp h).elim (ha w) (hb w)
theorem goodIn_ca {big a b : List Cond} {c : Cond} (ha : GoodIn big (c :: a)) (hb : GoodIn big b) : GoodIn big (c :: (a ++ b)) := fun w h => (List.mem_cons.mp h).elim (fun e => ha w (List.mem_cons.mpr (Or.inl e))) (fun h => (List.mem_append.mp h).elim (fun h => ha w (List.mem_cons.mpr (Or.inr h))) (hb w))
theorem goodIn_sub {big ws : List Cond} (hm : ∀ w ∈ ws, w ∈ big) (h : ws.all goodWord = true) : GoodIn big ws := fun w hw => ⟨hm w hw, good_of_word (List.all_eq_true.mp h w hw)⟩
/-! ===== END ===== -/

/-! ===== BEGIN exceptions that leave a method, and their catching by the caller (launches without stack traces) ===== -/
section VXA
/-! The laws vx_back, vx_callV, vx_callS, vx_callSW, vx_throw0, vx_throwS follow proofs of the library, with one case more: JvmDerived/Free/Laws.lean (Back.of_free), Shelf42/LK1.lean (callV, callS), Shelf/KitTraced.lean (throwNew0V, throwNewS). -/
/-- where a method has thrown q: the class by its name, the cell, what was written, the world -/
def vx_T (XC : String → State → State → Prop) (st : State) (q : Addr) (t : State) (mc ms : Nat) (free : Addr → Prop) : Prop :=
  ∃ (E : String) (ce : Cell) (L : List Loc), XC E st t ∧ t.heap[q]? = some ce ∧ ce.vm = .none ∧ st.vm.findClass E = some ce.cls ∧ st.WarmedH t.vm ∧ st.sameButNew ({ t with vm := st.vm } : State) L mc ms ∧ ∀ z ∈ L, free z.base
def vx_Q (Qc : Array Value → State → Outcome → State → Prop) (XC : String → State → State → Prop) (mc ms : Nat) (free : Addr → Prop) : Array Value → State → Outcome → State → Prop := fun a st o t =>
  (Qc a st o t ∧ ∃ L, FrameEnd st o t L mc ms ∧ ∀ q ∈ L, free q.base) ∨ ∃ q, o = .threw q ∧ vx_T XC st q t mc ms free
/-- a callee that returns or throws -/
def vx_Met (l : Launch) (y : MethodName) (ws : List Cond) (rm : Room) (Pc : Array Value → State → Prop) (Qc : Array Value → State → Outcome → State → Prop) (XC : String → State → State → Prop) (mc ms : Nat) (free : Addr → Prop) : Prop :=
  MetFree l y (headSpec ws rm) Pc (fun _ _ _ _ _ => True) (vx_Q Qc XC mc ms free)
def vx_Post (XC : String → State → State → Prop) (mc ms : Nat) (free : Addr → Prop) : Pt → Array Value → Addr → Pt → Prop := fun A a q B =>
  ∃ (g : JFrame) (mk : MethodId) (t : State) (L : List Loc) (E : String) (ce : Cell), B.U.heap = t.heap ∧ B.U.vm = t.vm ∧ XC E (A.U.calling g mk a) t ∧ t.heap[q]? = some ce ∧ ce.vm = .none ∧ A.U.vm.findClass E = some ce.cls ∧ B.locs = A.locs ++ L ∧ (∀ z ∈ L, free z.base) ∧ B.cells = A.cells + mc ∧ B.slots = A.slots + ms
def vx_Back (l : Launch) (R : Room) (p : Program) (e : Env) (below : List Frame) (s : State) (sargs : Array Value) (y : MethodName) (len W9 : Nat)
    (Pre : Pt → Array Value → Prop) (Post : Pt → Array Value → Option Value → Pt → Prop) (PostX : Pt → Array Value → Addr → Pt → Prop) : Prop :=
  ∀ (m : MethodId) (meth : Method) (c : Code) (A : Pt) (g : JFrame) (ig : Instr) (mk : MethodId) (a : Array Value),
    Stand p l e R s m sargs below meth c A.U A.locs A.cells A.slots → g.method = m → g.locals.size = c.maxLocals → decode c.code g.pc = .ok (ig, len) →
    2 * g.monitorRoom + (g.stack.map fun v => v.category).sum ≤ W9 → A.U.methodNamed? y = some mk → Pre A a →
    (∃ (v : Option Value) (B : Pt), Stand p l e R s m sargs below meth c B.U B.locs B.cells B.slots ∧ Post A a v B ∧
      Steps p.tables e below (doInvoke e (A.U.setTop g) [] mk a).1 (B.U.setTop { g with pc := g.pc + len, stack := v.toList ++ g.stack })) ∨
    (∃ (q : Addr) (B : Pt), Stand p l e R s m sargs below meth c B.U B.locs B.cells B.slots ∧ PostX A a q B ∧
      Steps p.tables e below (doInvoke e (A.U.setTop g) [] mk a).1 ((B.U.setTop g).pushFrame (.throwing q)))
section Payer
variable {l : Launch} {R : Room} {p : Program} {e : Env} {below : List Frame} {s : State} {sargs : Array Value} {y : MethodName} {len W9 : Nat}
theorem vx_back {ws : List Cond} {rm : Room} {Pc : Array Value → State → Prop} {Qc : Array Value → State → Outcome → State → Prop} {XC : String → State → State → Prop} {mc ms : Nat} {free : Addr → Prop} {bytes : ByteArray} {maxL : Nat} {ret : Option FieldType}
    (hM : vx_Met l y ws rm Pc Qc XC mc ms free) (hblind : FrameBlind Pc) (hrc : rm.cells = mc) (hrs : rm.slots = ms)
    (hframes : rm.frames + 1 ≤ R.frames) (hlocals : W9 + (maxL + 11) + rm.locals ≤ R.locals)
    (hws : ∀ w ∈ ws, ∀ a' U, s.WarmedH U.vm → w.before a' U = true) (hcode : Cond.code y bytes maxL ret ∈ ws) (hinit : ∀ a' U, s.WarmedH U.vm → (Cond.initialized y.cls).before a' U = true) :
    vx_Back l R p e below s sargs y len W9 (PreOf R mc ms Pc) (PostOf Qc mc ms free) (vx_Post XC mc ms free) := by
  intro m meth c A g ig mk a X hg hsize hdg hW hn hp
  have h1 : (headSpec ws rm).pre.before a A.U = true := atoms_intro fun w hw => hws w hw _ _ X.warmed
  have h2 : (Cond.code y bytes maxL ret).before a A.U = true := hws _ hcode _ _ X.warmed
  have h3 : (Cond.initialized y.cls).before a A.U = true := hinit _ _ X.warmed
  have h4 : A.cells + (headSpec ws rm).room.cells ≤ R.cells := by rw [show (headSpec ws rm).room.cells = mc from hrc]; exact hp.1
  have h5 : A.slots + (headSpec ws rm).room.slots ≤ R.slots := by rw [show (headSpec ws rm).room.slots = ms from hrs]; exact hp.2.1
  have hPc : Pc a (A.U.calling g mk a) := hblind _ _ _ _ hp.2.2
  obtain ⟨U, Ls, c0, s0⟩ := A
  dsimp only [Pt.U, Pt.locs, Pt.cells, Pt.slots] at h1 h2 h3 h4 h5 X hn hPc ⊢
  obtain ⟨methY, cY, hmY, hcY, -, hlY, -, -, -, -⟩ := Cond.code_spec hn h2
  obtain ⟨kY, hkY, -⟩ := className_of_methodNamed hn
  have hinitY : kY.init = .initialized := Cond.initialized_spec (findClass_of_methodNamed hn) hkY h3
  have h : At U g.method c below := by rw [hg]; exact X.here
  have hlocals9 : W9 + (maxL + 11) + (headSpec ws rm).room.locals ≤ R.locals := hlocals
  have happ : (headSpec ws rm).appliesLoose y e.platform (U.calling g mk a) = true :=
    Spec.appliesLoose_calling (g := g) h hdg hn hkY hinitY
      (X.room_calling (g := g) (R' := (headSpec ws rm).room) hsize hmY hcY hframes (by rw [hlY]; omega) h4 h5) h1
  obtain ⟨mid, hmid⟩ := h.above
  have hfr : (U.setTop g).frames = (.java g :: mid) ++ below := by rw [State.frames_setTop' g h.top, hmid]; rfl
  obtain ⟨o, s₂, hsteps, -, hend, hq⟩ := Steps.callFree hM p X.admits X.cas X.clock (acts := []) hfr happ hPc trivial
  have hq' : vx_Q Qc XC mc ms free a (U.calling g mk a) o s₂ := hq
  rw [State.frames_setTop' g h.top] at hend
  obtain ⟨g₀, hg0⟩ := Option.isSome_iff_exists.mp h.top
  obtain ⟨r, hr⟩ := State.topJava?_eq_some.mp hg0
  have hr' : (({ U with heap := s₂.heap, slotsUsed := s₂.slotsUsed } : State).setVm s₂.vm).frames = .java g₀ :: r := hr
  rcases hq' with ⟨hqc, L, hfe, hL⟩ | ⟨q, rfl, E, ce, L, hx, hce, hcv, hcl, hW₂, hsm, hL⟩
  · obtain ⟨⟨v, rfl⟩, hW₂, e2, q2, q3, q4, q5, q6⟩ := id hfe
    have e3 : s₂ = ({ (U.calling g mk a).setFrames s₂.frames with heap := s₂.heap, slotsUsed := s₂.slotsUsed } : State).setVm s₂.vm := by
      have : s₂ = ({ s₂ with vm := (U.calling g mk a).vm } : State).setVm s₂.vm := rfl
      rw [e2] at this
      exact this
    obtain ⟨c₂, i₂, len₂, hc₂, hd₂, hf₂⟩ := hend
    have hW' : U.WarmedH s₂.vm := hW₂
    have hcc : c₂ = c := by
      have h1 : s₂.code? g.method = U.code? g.method := by
        rw [State.code?_eq, State.code?_eq, hW'.alike.method?]
      exact Option.some.inj (hc₂.symm.trans (h1.trans h.code))
    subst hcc
    have hlen : len₂ = len := by rw [hdg] at hd₂; cases hd₂; rfl
    subst hlen
    have hs₂ : s₂ = (({ U with heap := s₂.heap, slotsUsed := s₂.slotsUsed } : State).setVm s₂.vm).setTop { g with pc := g.pc + len₂, stack := v.toList ++ g.stack } := by
      refine e3.trans ?_
      rw [hf₂, State.calling_eq h.top, State.setFrames_setFrames, State.setTop_of_frames _ hr', hr]
      rfl
    have hsame : U.sameButNew ({ U with heap := s₂.heap, slotsUsed := s₂.slotsUsed } : State) L mc ms := by
      refine ⟨?_, q2, q3, q4, q5, q6⟩
      obtain ⟨t, ht, -⟩ := State.frames_cons hr
      show ({ U with heap := s₂.heap, slotsUsed := s₂.slotsUsed } : State) = { U.setFrames U.frames with heap := s₂.heap, slotsUsed := s₂.slotsUsed }
      rw [State.setFrames_self ht]
    subst hg
    refine Or.inl ⟨v, ⟨(({ U with heap := s₂.heap, slotsUsed := s₂.slotsUsed } : State).setVm s₂.vm), Ls ++ L, c0 + mc, s0 + ms⟩,
      ⟨X.admits, X.cas, X.clock, X.frames, X.room, X.hears, X.method, X.code, (X.here.setHeapUsed s₂.heap s₂.slotsUsed).setVm hW'.alike, X.tail, State.WarmedH.trans X.warmed hW', X.limits, X.bytes, X.same.trans (hsame.setVm s.vm)⟩,
      ⟨g, mk, s₂, L, rfl, rfl, hqc, rfl, hL, rfl, rfl⟩, ?_⟩
    show Steps p.tables e below _ ((({ U with heap := s₂.heap, slotsUsed := s₂.slotsUsed } : State).setVm s₂.vm).setTop { g with pc := g.pc + len₂, stack := v.toList ++ g.stack })
    rw [← hs₂]
    exact hsteps
  · obtain ⟨e2, q2, q3, q4, q5, q6⟩ := id hsm
    have e3 : s₂ = ({ (U.calling g mk a).setFrames s₂.frames with heap := s₂.heap, slotsUsed := s₂.slotsUsed } : State).setVm s₂.vm := by
      have : s₂ = ({ s₂ with vm := (U.calling g mk a).vm } : State).setVm s₂.vm := rfl
      rw [e2] at this
      exact this
    have hf₂ : s₂.frames = .throwing q :: .java g :: U.frames.tail := hend
    have hW' : U.WarmedH s₂.vm := hW₂
    have hs₂ : s₂ = ((({ U with heap := s₂.heap, slotsUsed := s₂.slotsUsed } : State).setVm s₂.vm).setTop g).pushFrame (.throwing q) := by
      refine e3.trans ?_
      rw [hf₂, State.calling_eq h.top, State.setFrames_setFrames, State.pushFrame, State.frames_setTop _ hr', State.setTop_of_frames _ hr', State.setFrames_setFrames, hr]
      rfl
    have hsame : U.sameButNew ({ U with heap := s₂.heap, slotsUsed := s₂.slotsUsed } : State) L mc ms := by
      refine ⟨?_, q2, q3, q4, q5, q6⟩
      obtain ⟨t, ht, -⟩ := State.frames_cons hr
      show ({ U with heap := s₂.heap, slotsUsed := s₂.slotsUsed } : State) = { U.setFrames U.frames with heap := s₂.heap, slotsUsed := s₂.slotsUsed }
      rw [State.setFrames_self ht]
    subst hg
    refine Or.inr ⟨q, ⟨(({ U with heap := s₂.heap, slotsUsed := s₂.slotsUsed } : State).setVm s₂.vm), Ls ++ L, c0 + mc, s0 + ms⟩,
      ⟨X.admits, X.cas, X.clock, X.frames, X.room, X.hears, X.method, X.code, (X.here.setHeapUsed s₂.heap s₂.slotsUsed).setVm hW'.alike, X.tail, State.WarmedH.trans X.warmed hW', X.limits, X.bytes, X.same.trans (hsame.setVm s.vm)⟩,
      ⟨g, mk, s₂, L, E, ce, rfl, rfl, hx, hce, hcv, hcl, rfl, hL, rfl, rfl⟩, ?_⟩
    show Steps p.tables e below _ (((({ U with heap := s₂.heap, slotsUsed := s₂.slotsUsed } : State).setVm s₂.vm).setTop g).pushFrame (.throwing q))
    rw [← hs₂]
    exact hsteps
end Payer
section Calls
variable {p : Program} {l : Launch} {e : Env} {R : Room} {s : State} {m : MethodId} {args : Array Value} {below : List Frame} {meth : Method} {c : Code} {T : State} {locs : List Loc} {cells slots : Nat}
theorem vx_callV (X : Stand p l e R s m args below meth c T locs cells slots) (hexec : p.tables.exec = Jvm.exec) {own C : String} {index : Nat} {y : MethodName} {bytes : ByteArray} {maxL : Nat} {ret : Option FieldType}
    (hown : s.vm.findClass own = some m.cls) (hlink : (Cond.methodLink own index y).before args s = true) (hinst : (Cond.instanceMethod y).before args s = true) (hsel : (Cond.selects C y y).before args s = true)
    (hcode : (Cond.code y bytes maxL ret).before args s = true) (hy : y.cls ≠ "java/lang/invoke/MethodHandle" ∧ y.cls ≠ "java/lang/invoke/VarHandle")
    {W9 : Nat} {Pre : Pt → Array Value → Prop} {Post : Pt → Array Value → Option Value → Pt → Prop} {PostX : Pt → Array Value → Addr → Pt → Prop} (hK : vx_Back l R p e below s args y 3 W9 Pre Post PostX)
    {b : Addr} {cellB : Cell} (hcell : T.heap[b]? = some cellB) (hobj : cellB.vm.isStatics = false) (hcls : s.vm.findClass C = some cellB.cls)
    {g : JFrame} (hg : g.method = m) (hsize : g.locals.size = c.maxLocals) {argsL rest : List Value} (hlen : ∀ sig, parseMethodDescriptor y.desc = some sig → argsL.length = sig.parameters.length)
    (hstack : g.stack = argsL.reverse ++ .ref b :: rest) (hW : 2 * g.monitorRoom + (rest.map fun v => v.category).sum ≤ W9) (hdg : decode c.code g.pc = .ok (.invokevirtual index, 3))
    (hpre : ∀ vm₁, s.WarmedH vm₁ → Pre ⟨T.setVm vm₁, locs, cells, slots⟩ (Value.ref b :: argsL).toArray) :
    (∃ (v : Option Value) (vm₁ : Vm) (B : Pt), s.WarmedH vm₁ ∧ Stand p l e R s m args below meth c B.U B.locs B.cells B.slots ∧ Post ⟨T.setVm vm₁, locs, cells, slots⟩ (Value.ref b :: argsL).toArray v B ∧
      ∀ target, Steps p.tables e below (B.U.setTop { g with pc := g.pc + 3, stack := v.toList ++ rest }) target → Steps p.tables e below (T.setTop g) target) ∨
    (∃ (q : Addr) (vm₁ : Vm) (B : Pt), s.WarmedH vm₁ ∧ Stand p l e R s m args below meth c B.U B.locs B.cells B.slots ∧ PostX ⟨T.setVm vm₁, locs, cells, slots⟩ (Value.ref b :: argsL).toArray q B ∧
      Steps p.tables e below (T.setTop g) ((B.U.setTop { g with stack := rest }).pushFrame (.throwing q))) := by
  obtain ⟨mk, methM, hnamed, hmethM, hstM, habM⟩ := Cond.instanceMethod_spec hinst
  obtain ⟨methM', cM, hmethM', -, -, -, -, -, -, hsigM⟩ := Cond.code_spec hnamed hcode
  cases hmethM.symm.trans hmethM'
  obtain ⟨c2, r2, m2, q1, q2, q3, q4, kP, hkP, hkPi⟩ := Cond.selects_spec hsel
  cases hcls.symm.trans q1
  cases (State.methodFound?_of_named hnamed hy).symm.trans q2
  cases hnamed.symm.trans q3
  have hselP : selectMethod e.platform s.vm cellB.cls mk = .method mk := by rw [Launch.admits_selectMethod X.admits]; exact q4
  obtain ⟨vm₁, X₁, hstep₁⟩ := X.invokevirtual hexec hown hlink hnamed hmethM hstM hkP hkPi hy (a := b) (cell := cellB) hcell
    (fun z h => by rw [h] at hobj; cases hobj) hselP hmethM habM hkP hkPi (g := g) hg (argsL := argsL) (rest := rest) (hlen _ hsigM) hstack hdg
  rcases hK m meth c ⟨T.setVm vm₁, locs, cells, slots⟩ { g with stack := rest } (.invokevirtual index) mk (Value.ref b :: argsL).toArray X₁ hg hsize hdg hW (X₁.named hnamed) (hpre vm₁ X₁.warmed) with ⟨v, B, X', hpost, hsteps⟩ | ⟨q, B, X', hpost, hsteps⟩
  · exact Or.inl ⟨v, vm₁, B, X₁.warmed, X', hpost, fun target h => hstep₁ _ fun acts => by rw [doInvoke_state]; exact hsteps.trans h⟩
  · exact Or.inr ⟨q, vm₁, B, X₁.warmed, X', hpost, hstep₁ _ fun acts => by rw [doInvoke_state]; exact hsteps⟩
theorem vx_callS (X : Stand p l e R s m args below meth c T locs cells slots) (hexec : p.tables.exec = Jvm.exec) {own : String} {index : Nat} {y : MethodName} {bytes : ByteArray} {maxL : Nat} {ret : Option FieldType}
    (hown : s.vm.findClass own = some m.cls) (hlink : (Cond.methodLink own index y).before args s = true) (hstat : (Cond.static y).before args s = true) (hinit : (Cond.initialized y.cls).before args s = true)
    (hcode : (Cond.code y bytes maxL ret).before args s = true) (hy : y.cls ≠ "java/lang/invoke/MethodHandle" ∧ y.cls ≠ "java/lang/invoke/VarHandle")
    {W9 : Nat} {Pre : Pt → Array Value → Prop} {Post : Pt → Array Value → Option Value → Pt → Prop} {PostX : Pt → Array Value → Addr → Pt → Prop} (hK : vx_Back l R p e below s args y 3 W9 Pre Post PostX)
    {g : JFrame} (hg : g.method = m) (hsize : g.locals.size = c.maxLocals) {argsL rest : List Value} (hlen : ∀ sig, parseMethodDescriptor y.desc = some sig → argsL.length = sig.parameters.length)
    (hstack : g.stack = argsL.reverse ++ rest) (hW : 2 * g.monitorRoom + (rest.map fun v => v.category).sum ≤ W9) (hdg : decode c.code g.pc = .ok (.invokestatic index, 3))
    (hpre : ∀ vm₁, s.WarmedH vm₁ → Pre ⟨T.setVm vm₁, locs, cells, slots⟩ argsL.toArray) :
    (∃ (v : Option Value) (vm₁ : Vm) (B : Pt), s.WarmedH vm₁ ∧ Stand p l e R s m args below meth c B.U B.locs B.cells B.slots ∧ Post ⟨T.setVm vm₁, locs, cells, slots⟩ argsL.toArray v B ∧
      ∀ target, Steps p.tables e below (B.U.setTop { g with pc := g.pc + 3, stack := v.toList ++ rest }) target → Steps p.tables e below (T.setTop g) target) ∨
    (∃ (q : Addr) (vm₁ : Vm) (B : Pt), s.WarmedH vm₁ ∧ Stand p l e R s m args below meth c B.U B.locs B.cells B.slots ∧ PostX ⟨T.setVm vm₁, locs, cells, slots⟩ argsL.toArray q B ∧
      Steps p.tables e below (T.setTop g) ((B.U.setTop { g with stack := rest }).pushFrame (.throwing q))) := by
  obtain ⟨mk, hnamed⟩ := Cond.code_named hcode
  obtain ⟨methM, cM, hmethM, -, -, -, -, -, -, hsigM⟩ := Cond.code_spec hnamed hcode
  have hstatic : methM.isStatic = true := Cond.static_spec hnamed hmethM hstat
  obtain ⟨kP, hkP, -⟩ := className_of_methodNamed hnamed
  have hinitP : kP.init = .initialized := Cond.initialized_spec (findClass_of_methodNamed hnamed) hkP hinit
  obtain ⟨vm₁, X₁, hstep₁⟩ := X.invokestatic hexec hown hlink hnamed hmethM hstatic hkP hinitP hy (g := g) hg (argsL := argsL) (rest := rest) (hlen _ hsigM) hstack hdg
  rcases hK m meth c ⟨T.setVm vm₁, locs, cells, slots⟩ { g with stack := rest } (.invokestatic index) mk argsL.toArray X₁ hg hsize hdg hW (X₁.named hnamed) (hpre vm₁ X₁.warmed) with ⟨v, B, X', hpost, hsteps⟩ | ⟨q, B, X', hpost, hsteps⟩
  · exact Or.inl ⟨v, vm₁, B, X₁.warmed, X', hpost, fun target h => hstep₁ _ fun acts => by rw [doInvoke_state]; exact hsteps.trans h⟩
  · exact Or.inr ⟨q, vm₁, B, X₁.warmed, X', hpost, hstep₁ _ fun acts => by rw [doInvoke_state]; exact hsteps⟩
end Calls
theorem vx_cls {s : State} {T : State} {vm₁ : Vm} {E : String} {k : ClassId} (hW : s.WarmedH vm₁) (h : (T.setVm vm₁).vm.findClass E = some k) : s.vm.findClass E = some k := by
  have h1 : vm₁.findClass E = some k := h
  rw [hW.alike.findClass] at h1
  exact h1
/-- the method's frame g, with q thrown over it -/
def vx_W (p : Program) (l : Launch) (e : Env) (R : Room) (s : State) (m : MethodId) (args : Array Value) (below : List Frame) (meth : Method) (c : Code) (H : Heap) (locs : List Loc) (cells slots : Nat) (Q : State → Prop) (g : JFrame) (q : Addr) : Prop :=
  ∀ T : State, T.heap = H → Stand p l e R s m args below meth c T locs cells slots → ∃ t, Steps p.tables e below ((T.setTop g).pushFrame (.throwing q)) t ∧ Q t
def vx_Run (p : Program) (l : Launch) (e : Env) (R : Room) (s : State) (m : MethodId) (args : Array Value) (below : List Frame) (meth : Method) (c : Code) (H : Heap) (locs : List Loc) (cells slots mc ms : Nat) (g : JFrame) (rest : List Value) (Qa : State → Outcome → State → Prop) (XC : String → State → State → Prop) (free : Addr → Prop) : Prop :=
  ∀ T : State, T.heap = H → Stand p l e R s m args below meth c T locs cells slots →
    (∃ (v : Option Value) (st₀ t T' : State) (L : List Loc), st₀.heap = H ∧ Stand p l e R s m args below meth c T' (locs ++ L) (cells + mc) (slots + ms) ∧ (∀ q ∈ L, free q.base) ∧ T'.heap = t.heap ∧ T'.vm = t.vm ∧ Qa st₀ (.returned v) t ∧
      Goes p e below T g T' { g with pc := g.pc + 3, stack := v.toList ++ rest }) ∨
    (∃ (q : Addr) (st₀ t T' : State) (L : List Loc) (E : String) (ce : Cell), st₀.heap = H ∧ Stand p l e R s m args below meth c T' (locs ++ L) (cells + mc) (slots + ms) ∧ (∀ z ∈ L, free z.base) ∧ T'.heap = t.heap ∧ T'.vm = t.vm ∧ XC E st₀ t ∧ t.heap[q]? = some ce ∧ ce.vm = .none ∧ s.vm.findClass E = some ce.cls ∧
      Steps p.tables e below (T.setTop g) ((T'.setTop { g with stack := rest }).pushFrame (.throwing q)))
def vx_X {S : Type} (px : S → Prop) (B : String → S → State → Prop) (A : Nat → Prop) : String → State → State → Prop := fun E st t => ∃ u : S, px u ∧ B E u t ∧ va_F A st t
section Runs
variable {p : Program} {l : Launch} {e : Env} {R : Room} {s : State} {m : MethodId} {args : Array Value} {below : List Frame} {meth : Method} {c : Code} {H : Heap} {locs : List Loc} {cells slots : Nat}
variable {y : MethodName} {bytes cc : ByteArray} {maxL nL mc ms n index : Nat} {ret : Option FieldType} {ws : List Cond} {rm : Room} {Pc : Array Value → State → Prop} {Qc : Array Value → State → Outcome → State → Prop} {XC : String → State → State → Prop} {free : Addr → Prop} {Ts : List Cond} {own C : String} {b : Addr} {As rest : List Value} {g : JFrame}
theorem vx_callBack (cb : CallB R s args own index y bytes maxL ret ws rm mc ms n) (hM : vx_Met l y ws rm Pc Qc XC mc ms free) (hbl : FrameBlind Pc) : vx_Back l R p e below s args y 3 8 (PreOf R mc ms Pc) (PostOf Qc mc ms free) (vx_Post XC mc ms free) := by
  obtain ⟨hrc, hrs, hfr, hlo, hws, hcw, -, hini, -⟩ := cb
  exact vx_back (bytes := bytes) (maxL := maxL) (ret := ret) hM hbl hrc hrs hfr hlo hws hcw (fun a' U hW => word_at hW (Or.inl (by first | rfl | simp [Cond.onTables, Cond.keeps, Cond.steady])) hini)
theorem vx_runV (S : CallFix p m c cc nL s args Ts own) (hM : vx_Met l y ws rm Pc Qc XC mc ms free) (cw : CallW R s args own C index y bytes maxL ret ws rm mc ms n) (hp : PreV s H C b Pc As)
    (hg : g.method = m) (hn : As.length = n) (hsize : g.locals.size = nL) (hstack : g.stack = As.reverse ++ .ref b :: rest) (hW : 2 * g.monitorRoom + (rest.map fun v => v.category).sum ≤ 8) (hdg : decode cc g.pc = .ok (.invokevirtual index, 3)) (hf : cells + mc ≤ R.cells ∧ slots + ms ≤ R.slots) :
    vx_Run p l e R s m args below meth c H locs cells slots mc ms g rest (Qc (Value.ref b :: As).toArray) XC free := by
  have hK : vx_Back l R p e below s args y 3 8 (PreOf R mc ms Pc) (PostOf Qc mc ms free) (vx_Post XC mc ms free) := vx_callBack cw.1 hM hp.1
  obtain ⟨⟨-, -, -, -, -, -, hcode, -, hy, hlen, hl⟩, hin, hse⟩ := cw
  obtain ⟨hx, hb, hml, ho, -⟩ := S
  obtain ⟨-, ⟨cellB, hcB, hoB, hclB⟩, hPc⟩ := hp
  intro T hT X
  rcases vx_callV X hx (C := C) (bytes := bytes) (maxL := maxL) (ret := ret) ho hl hin hse hcode hy hK (by rw [hT]; exact hcB) hoB hclB hg (hsize.trans hml.symm) (argsL := As) (rest := rest) (fun sig h => hn.trans (hlen sig h)) hstack hW (by rw [hb]; exact hdg)
    (fun vm₁ hW₁ => ⟨hf.1, hf.2, hPc (T.setVm vm₁) hT hW₁⟩) with ⟨v, vm₁, ⟨U', l2, c2, s2⟩, hW₁, X', ⟨g', mk, t, L, e1, e2, hq, h1, hL, h2, h3⟩, st⟩ | ⟨q, vm₁, ⟨U', l2, c2, s2⟩, hW₁, X', ⟨g', mk, t, L, E, ce, e1, e2, hq, hce, hcv, hcl, h1, hL, h2, h3⟩, st⟩
  · dsimp only [Pt.U, Pt.locs, Pt.cells, Pt.slots] at X' e1 e2 h1 h2 h3 st
    subst h1; subst h2; subst h3
    exact Or.inl ⟨v, (T.setVm vm₁).calling g' mk (Value.ref b :: As).toArray, t, U', L, hT, X', hL, e1, e2, hq, st⟩
  · dsimp only [Pt.U, Pt.locs, Pt.cells, Pt.slots] at X' e1 e2 h1 h2 h3 st hcl
    subst h1; subst h2; subst h3
    exact Or.inr ⟨q, (T.setVm vm₁).calling g' mk (Value.ref b :: As).toArray, t, U', L, E, ce, hT, X', hL, e1, e2, hq, hce, hcv, vx_cls hW₁ hcl, st⟩
theorem vx_runS (S : CallFix p m c cc nL s args Ts own) (hM : vx_Met l y ws rm Pc Qc XC mc ms free) (cw : CallB R s args own index y bytes maxL ret ws rm mc ms n ∧ (Cond.static y).before args s = true) (hp : PreS s H Pc As)
    (hg : g.method = m) (hn : As.length = n) (hsize : g.locals.size = nL) (hstack : g.stack = As.reverse ++ rest) (hW : 2 * g.monitorRoom + (rest.map fun v => v.category).sum ≤ 8) (hdg : decode cc g.pc = .ok (.invokestatic index, 3)) (hf : cells + mc ≤ R.cells ∧ slots + ms ≤ R.slots) :
    vx_Run p l e R s m args below meth c H locs cells slots mc ms g rest (Qc As.toArray) XC free := by
  have hK : vx_Back l R p e below s args y 3 8 (PreOf R mc ms Pc) (PostOf Qc mc ms free) (vx_Post XC mc ms free) := vx_callBack cw.1 hM hp.1
  obtain ⟨⟨-, -, -, -, -, -, hcode, hini, hy, hlen, hl⟩, hstt⟩ := cw
  obtain ⟨hx, hb, hml, ho, -⟩ := S
  intro T hT X
  rcases vx_callS X hx (bytes := bytes) (maxL := maxL) (ret := ret) ho hl hstt hini hcode hy hK hg (hsize.trans hml.symm) (argsL := As) (rest := rest) (fun sig h => hn.trans (hlen sig h)) hstack hW (by rw [hb]; exact hdg)
    (fun vm₁ hW₁ => ⟨hf.1, hf.2, hp.2 (T.setVm vm₁) hT hW₁⟩) with ⟨v, vm₁, ⟨U', l2, c2, s2⟩, hW₁, X', ⟨g', mk, t, L, e1, e2, hq, h1, hL, h2, h3⟩, st⟩ | ⟨q, vm₁, ⟨U', l2, c2, s2⟩, hW₁, X', ⟨g', mk, t, L, E, ce, e1, e2, hq, hce, hcv, hcl, h1, hL, h2, h3⟩, st⟩
  · dsimp only [Pt.U, Pt.locs, Pt.cells, Pt.slots] at X' e1 e2 h1 h2 h3 st
    subst h1; subst h2; subst h3
    exact Or.inl ⟨v, (T.setVm vm₁).calling g' mk As.toArray, t, U', L, hT, X', hL, e1, e2, hq, st⟩
  · dsimp only [Pt.U, Pt.locs, Pt.cells, Pt.slots] at X' e1 e2 h1 h2 h3 st hcl
    subst h1; subst h2; subst h3
    exact Or.inr ⟨q, (T.setVm vm₁).calling g' mk As.toArray, t, U', L, E, ce, hT, X', hL, e1, e2, hq, hce, hcv, vx_cls hW₁ hcl, st⟩
end Runs
section Rows
variable {p : Program} {l : Launch} {e : Env} {R : Room} {s : State} {m : MethodId} {args : Array Value} {below : List Frame} {meth : Method} {c : Code} {H : Heap} {locs : List Loc} {cells slots : Nat} {Q : State → Prop}
variable {mc ms : Nat} {free : Addr → Prop} {A0 A1 : Nat → Prop} {H0 : Heap} {a : Array Value} {pc : Nat} {ls : Array Slot} {st0 rest : List Value}
theorem vx_keep {st₀ t T' : State} {L : List Loc} (h0 : st₀.heap = H) (e1 : T'.heap = t.heap) (hS : va_S A0 H0 H locs) (hA : ∀ q, q < H.size → A1 q → A0 q) (hf : ∀ q, free q → A0 q) (hL : ∀ q ∈ L, free q.base) (hF : va_F A1 st₀ t) :
    H.size ≤ T'.heap.size ∧ (∀ q : Nat, q < H.size → ¬ A1 q → T'.heap[q]? = H[q]?) ∧ va_S A0 H0 T'.heap (locs ++ L) := by
  obtain ⟨hz, hk⟩ := hF
  rw [h0] at hz hk
  exact ⟨by rw [e1]; exact hz, fun q h1 h2 => by rw [e1]; exact hk q h1 h2,
    ⟨Nat.le_trans hS.1 (by rw [e1]; exact hz), fun q h1 h2 => by rw [e1, hk q (Nat.lt_of_lt_of_le h1 hS.1) (fun z => h2 (hA q (Nat.lt_of_lt_of_le h1 hS.1) z))]; exact hS.2.1 q h1 h2, fun q hq => by
      rcases List.mem_append.mp hq with h | h
      · exact hS.2.2 q h
      · exact hf _ (hL q h)⟩⟩
theorem vx_calli {S SX : Type} {post : Int32 → S → Prop} {px : SX → Prop} {B : S → State → Prop} {BX : String → SX → State → Prop} {AX : Nat → Prop} (hr : vx_Run p l e R s m args below meth c H locs cells slots mc ms (F0 m pc ls st0) rest (va_Qi post B A1 a) (vx_X px BX AX) free) (hS : va_S A0 H0 H locs) (hA : ∀ q, q < H.size → A1 q → A0 q) (hf : ∀ q, free q → A0 q) (hAX : ∀ q, q < H.size → AX q → A0 q)
    (kx : ∀ (E : String) (ce : Cell) (q9 : Addr) (u : SX) (t : State) (H1 : Heap) (locs1 : List Loc), t.heap = H1 → s.vm.Alike t.vm → px u → BX E u t → H.size ≤ H1.size → (∀ q : Nat, q < H.size → ¬ AX q → H1[q]? = H[q]?) → va_S A0 H0 H1 locs1 → H1[q9]? = some ce → ce.vm = .none → s.vm.findClass E = some ce.cls → vx_W p l e R s m args below meth c H1 locs1 (cells + mc) (slots + ms) Q (F0 m pc ls rest) q9)
    (kk : ∀ (r : Int32) (u : S) (t : State) (H1 : Heap) (locs1 : List Loc), t.heap = H1 → s.vm.Alike t.vm → post r u → B u t → H.size ≤ H1.size → (∀ q : Nat, q < H.size → ¬ A1 q → H1[q]? = H[q]?) → va_S A0 H0 H1 locs1 → W p l e R s m args below meth c H1 locs1 (cells + mc) (slots + ms) Q (F0 m (pc + 3) ls (.int r :: rest))) : W p l e R s m args below meth c H locs cells slots Q (F0 m pc ls st0) := by
  intro T hT X
  rcases hr T hT X with ⟨v, st₀, t, T', L, h0, X', hL, e1, e2, ⟨⟨r, u, hv, hp, hb⟩, hF⟩, st⟩ | ⟨q, st₀, t, T', L, E, ce, h0, X', hL, e1, e2, ⟨u, hp, hb, hF⟩, hce, hcv, hcl, st⟩
  · cases hv
    obtain ⟨k1, k2, k3⟩ := vx_keep h0 e1 hS hA hf hL hF
    obtain ⟨t2, a1, b1⟩ := kk r u t T'.heap (locs ++ L) e1.symm (by rw [← e2]; exact X'.warmed.alike) hp hb k1 k2 k3 T' rfl X'
    exact ⟨t2, st t2 a1, b1⟩
  · obtain ⟨k1, k2, k3⟩ := vx_keep h0 e1 hS hAX hf hL hF
    obtain ⟨t2, a1, b1⟩ := kx E ce q u t T'.heap (locs ++ L) e1.symm (by rw [← e2]; exact X'.warmed.alike) hp hb k1 k2 k3 (by rw [e1]; exact hce) hcv hcl T' rfl X'
    exact ⟨t2, st.trans a1, b1⟩
theorem vx_calll {S SX : Type} {post : Int64 → S → Prop} {px : SX → Prop} {B : S → State → Prop} {BX : String → SX → State → Prop} {AX : Nat → Prop} (hr : vx_Run p l e R s m args below meth c H locs cells slots mc ms (F0 m pc ls st0) rest (va_Ql post B A1 a) (vx_X px BX AX) free) (hS : va_S A0 H0 H locs) (hA : ∀ q, q < H.size → A1 q → A0 q) (hf : ∀ q, free q → A0 q) (hAX : ∀ q, q < H.size → AX q → A0 q)
    (kx : ∀ (E : String) (ce : Cell) (q9 : Addr) (u : SX) (t : State) (H1 : Heap) (locs1 : List Loc), t.heap = H1 → s.vm.Alike t.vm → px u → BX E u t → H.size ≤ H1.size → (∀ q : Nat, q < H.size → ¬ AX q → H1[q]? = H[q]?) → va_S A0 H0 H1 locs1 → H1[q9]? = some ce → ce.vm = .none → s.vm.findClass E = some ce.cls → vx_W p l e R s m args below meth c H1 locs1 (cells + mc) (slots + ms) Q (F0 m pc ls rest) q9)
    (kk : ∀ (r : Int64) (u : S) (t : State) (H1 : Heap) (locs1 : List Loc), t.heap = H1 → s.vm.Alike t.vm → post r u → B u t → H.size ≤ H1.size → (∀ q : Nat, q < H.size → ¬ A1 q → H1[q]? = H[q]?) → va_S A0 H0 H1 locs1 → W p l e R s m args below meth c H1 locs1 (cells + mc) (slots + ms) Q (F0 m (pc + 3) ls (.long r :: rest))) : W p l e R s m args below meth c H locs cells slots Q (F0 m pc ls st0) := by
  intro T hT X
  rcases hr T hT X with ⟨v, st₀, t, T', L, h0, X', hL, e1, e2, ⟨⟨r, u, hv, hp, hb⟩, hF⟩, st⟩ | ⟨q, st₀, t, T', L, E, ce, h0, X', hL, e1, e2, ⟨u, hp, hb, hF⟩, hce, hcv, hcl, st⟩
  · cases hv
    obtain ⟨k1, k2, k3⟩ := vx_keep h0 e1 hS hA hf hL hF
    obtain ⟨t2, a1, b1⟩ := kk r u t T'.heap (locs ++ L) e1.symm (by rw [← e2]; exact X'.warmed.alike) hp hb k1 k2 k3 T' rfl X'
    exact ⟨t2, st t2 a1, b1⟩
  · obtain ⟨k1, k2, k3⟩ := vx_keep h0 e1 hS hAX hf hL hF
    obtain ⟨t2, a1, b1⟩ := kx E ce q u t T'.heap (locs ++ L) e1.symm (by rw [← e2]; exact X'.warmed.alike) hp hb k1 k2 k3 (by rw [e1]; exact hce) hcv hcl T' rfl X'
    exact ⟨t2, st.trans a1, b1⟩
theorem vx_callf {S SX : Type} {post : UInt32 → S → Prop} {px : SX → Prop} {B : S → State → Prop} {BX : String → SX → State → Prop} {AX : Nat → Prop} (hr : vx_Run p l e R s m args below meth c H locs cells slots mc ms (F0 m pc ls st0) rest (va_Qf post B A1 a) (vx_X px BX AX) free) (hS : va_S A0 H0 H locs) (hA : ∀ q, q < H.size → A1 q → A0 q) (hf : ∀ q, free q → A0 q) (hAX : ∀ q, q < H.size → AX q → A0 q)
    (kx : ∀ (E : String) (ce : Cell) (q9 : Addr) (u : SX) (t : State) (H1 : Heap) (locs1 : List Loc), t.heap = H1 → s.vm.Alike t.vm → px u → BX E u t → H.size ≤ H1.size → (∀ q : Nat, q < H.size → ¬ AX q → H1[q]? = H[q]?) → va_S A0 H0 H1 locs1 → H1[q9]? = some ce → ce.vm = .none → s.vm.findClass E = some ce.cls → vx_W p l e R s m args below meth c H1 locs1 (cells + mc) (slots + ms) Q (F0 m pc ls rest) q9)
    (kk : ∀ (r : UInt32) (u : S) (t : State) (H1 : Heap) (locs1 : List Loc), t.heap = H1 → s.vm.Alike t.vm → post r u → B u t → H.size ≤ H1.size → (∀ q : Nat, q < H.size → ¬ A1 q → H1[q]? = H[q]?) → va_S A0 H0 H1 locs1 → W p l e R s m args below meth c H1 locs1 (cells + mc) (slots + ms) Q (F0 m (pc + 3) ls (.float r :: rest))) : W p l e R s m args below meth c H locs cells slots Q (F0 m pc ls st0) := by
  intro T hT X
  rcases hr T hT X with ⟨v, st₀, t, T', L, h0, X', hL, e1, e2, ⟨⟨r, u, hv, hp, hb⟩, hF⟩, st⟩ | ⟨q, st₀, t, T', L, E, ce, h0, X', hL, e1, e2, ⟨u, hp, hb, hF⟩, hce, hcv, hcl, st⟩
  · cases hv
    obtain ⟨k1, k2, k3⟩ := vx_keep h0 e1 hS hA hf hL hF
    obtain ⟨t2, a1, b1⟩ := kk r u t T'.heap (locs ++ L) e1.symm (by rw [← e2]; exact X'.warmed.alike) hp hb k1 k2 k3 T' rfl X'
    exact ⟨t2, st t2 a1, b1⟩
  · obtain ⟨k1, k2, k3⟩ := vx_keep h0 e1 hS hAX hf hL hF
    obtain ⟨t2, a1, b1⟩ := kx E ce q u t T'.heap (locs ++ L) e1.symm (by rw [← e2]; exact X'.warmed.alike) hp hb k1 k2 k3 (by rw [e1]; exact hce) hcv hcl T' rfl X'
    exact ⟨t2, st.trans a1, b1⟩
theorem vx_calld {S SX : Type} {post : UInt64 → S → Prop} {px : SX → Prop} {B : S → State → Prop} {BX : String → SX → State → Prop} {AX : Nat → Prop} (hr : vx_Run p l e R s m args below meth c H locs cells slots mc ms (F0 m pc ls st0) rest (va_Qd post B A1 a) (vx_X px BX AX) free) (hS : va_S A0 H0 H locs) (hA : ∀ q, q < H.size → A1 q → A0 q) (hf : ∀ q, free q → A0 q) (hAX : ∀ q, q < H.size → AX q → A0 q)
    (kx : ∀ (E : String) (ce : Cell) (q9 : Addr) (u : SX) (t : State) (H1 : Heap) (locs1 : List Loc), t.heap = H1 → s.vm.Alike t.vm → px u → BX E u t → H.size ≤ H1.size → (∀ q : Nat, q < H.size → ¬ AX q → H1[q]? = H[q]?) → va_S A0 H0 H1 locs1 → H1[q9]? = some ce → ce.vm = .none → s.vm.findClass E = some ce.cls → vx_W p l e R s m args below meth c H1 locs1 (cells + mc) (slots + ms) Q (F0 m pc ls rest) q9)
    (kk : ∀ (r : UInt64) (u : S) (t : State) (H1 : Heap) (locs1 : List Loc), t.heap = H1 → s.vm.Alike t.vm → post r u → B u t → H.size ≤ H1.size → (∀ q : Nat, q < H.size → ¬ A1 q → H1[q]? = H[q]?) → va_S A0 H0 H1 locs1 → W p l e R s m args below meth c H1 locs1 (cells + mc) (slots + ms) Q (F0 m (pc + 3) ls (.double r :: rest))) : W p l e R s m args below meth c H locs cells slots Q (F0 m pc ls st0) := by
  intro T hT X
  rcases hr T hT X with ⟨v, st₀, t, T', L, h0, X', hL, e1, e2, ⟨⟨r, u, hv, hp, hb⟩, hF⟩, st⟩ | ⟨q, st₀, t, T', L, E, ce, h0, X', hL, e1, e2, ⟨u, hp, hb, hF⟩, hce, hcv, hcl, st⟩
  · cases hv
    obtain ⟨k1, k2, k3⟩ := vx_keep h0 e1 hS hA hf hL hF
    obtain ⟨t2, a1, b1⟩ := kk r u t T'.heap (locs ++ L) e1.symm (by rw [← e2]; exact X'.warmed.alike) hp hb k1 k2 k3 T' rfl X'
    exact ⟨t2, st t2 a1, b1⟩
  · obtain ⟨k1, k2, k3⟩ := vx_keep h0 e1 hS hAX hf hL hF
    obtain ⟨t2, a1, b1⟩ := kx E ce q u t T'.heap (locs ++ L) e1.symm (by rw [← e2]; exact X'.warmed.alike) hp hb k1 k2 k3 (by rw [e1]; exact hce) hcv hcl T' rfl X'
    exact ⟨t2, st.trans a1, b1⟩
theorem vx_callv {S SX : Type} {post : S → Prop} {px : SX → Prop} {B : S → State → Prop} {BX : String → SX → State → Prop} {AX : Nat → Prop} (hr : vx_Run p l e R s m args below meth c H locs cells slots mc ms (F0 m pc ls st0) rest (va_Qv post B A1 a) (vx_X px BX AX) free) (hS : va_S A0 H0 H locs) (hA : ∀ q, q < H.size → A1 q → A0 q) (hf : ∀ q, free q → A0 q) (hAX : ∀ q, q < H.size → AX q → A0 q)
    (kx : ∀ (E : String) (ce : Cell) (q9 : Addr) (u : SX) (t : State) (H1 : Heap) (locs1 : List Loc), t.heap = H1 → s.vm.Alike t.vm → px u → BX E u t → H.size ≤ H1.size → (∀ q : Nat, q < H.size → ¬ AX q → H1[q]? = H[q]?) → va_S A0 H0 H1 locs1 → H1[q9]? = some ce → ce.vm = .none → s.vm.findClass E = some ce.cls → vx_W p l e R s m args below meth c H1 locs1 (cells + mc) (slots + ms) Q (F0 m pc ls rest) q9)
    (kk : ∀ (u : S) (t : State) (H1 : Heap) (locs1 : List Loc), t.heap = H1 → s.vm.Alike t.vm → post u → B u t → H.size ≤ H1.size → (∀ q : Nat, q < H.size → ¬ A1 q → H1[q]? = H[q]?) → va_S A0 H0 H1 locs1 → W p l e R s m args below meth c H1 locs1 (cells + mc) (slots + ms) Q (F0 m (pc + 3) ls (rest))) : W p l e R s m args below meth c H locs cells slots Q (F0 m pc ls st0) := by
  intro T hT X
  rcases hr T hT X with ⟨v, st₀, t, T', L, h0, X', hL, e1, e2, ⟨⟨u, hv, hp, hb⟩, hF⟩, st⟩ | ⟨q, st₀, t, T', L, E, ce, h0, X', hL, e1, e2, ⟨u, hp, hb, hF⟩, hce, hcv, hcl, st⟩
  · cases hv
    obtain ⟨k1, k2, k3⟩ := vx_keep h0 e1 hS hA hf hL hF
    obtain ⟨t2, a1, b1⟩ := kk u t T'.heap (locs ++ L) e1.symm (by rw [← e2]; exact X'.warmed.alike) hp hb k1 k2 k3 T' rfl X'
    exact ⟨t2, st t2 a1, b1⟩
  · obtain ⟨k1, k2, k3⟩ := vx_keep h0 e1 hS hAX hf hL hF
    obtain ⟨t2, a1, b1⟩ := kx E ce q u t T'.heap (locs ++ L) e1.symm (by rw [← e2]; exact X'.warmed.alike) hp hb k1 k2 k3 (by rw [e1]; exact hce) hcv hcl T' rfl X'
    exact ⟨t2, st.trans a1, b1⟩
/-- caught by the row x of this method's table; the rows ahead don't take it -/
theorem vx_catch {own name : String} {E : String} {ce : Cell} {q : Addr} (hown : s.vm.findClass own = some m.cls) (pre : List ExceptionTableEntry) (x : ExceptionTableEntry) (suf : List ExceptionTableEntry) (hsplit : c.exceptionTable.toList = pre ++ x :: suf)
    (hpass : ∀ z ∈ pre, covers z pc = false ∨ (z.catchType ≠ 0 ∧ ∃ nm : String, (Cond.classLink own z.catchType nm).before args s = true ∧ va_Nc E nm s)) (hx : covers x pc = true) (h0 : x.catchType ≠ 0)
    (hlink : (Cond.classLink own x.catchType name).before args s = true) (hcast : (Cond.castable E name).before args s = true) (hcell : H[q]? = some ce) (hv : ce.vm = .none) (hcl : s.vm.findClass E = some ce.cls)
    (kk : W p l e R s m args below meth c H locs cells slots Q (F0 m x.handlerPc ls [.ref q])) : vx_W p l e R s m args below meth c H locs cells slots Q (F0 m pc ls rest) q := by
  intro T hT X
  have hpl : e.platform.magicAccessors = ({} : Platform).magicAccessors := by rw [X.admits.platform]
  obtain ⟨c3, c4, hc3, hc4, hasg⟩ := Cond.castable_spec hcast
  cases Option.some.inj (hc3.symm.trans hcl)
  obtain ⟨c5, hc5, hcl5⟩ := Cond.classLink_spec hown hlink e.platform hpl
  cases Option.some.inj (hc4.symm.trans hc5)
  obtain ⟨vm', X', st⟩ := X.thenCaughtThrough q (g := F0 m pc ls rest) rfl (Steps.refl _) (by rw [hT]; exact hcell) (by rw [hv]; rfl) (by obtain ⟨k9, h9, -⟩ := Vm.findClass_spec hcl; exact ⟨k9, h9⟩) pre x suf hsplit
    (fun z hz => by
      rcases hpass z hz with h | ⟨hz0, nm, hl1, hn1⟩
      · exact Or.inl h
      · obtain ⟨c6, hc6, hcl6⟩ := Cond.classLink_spec hown hl1 e.platform hpl
        obtain ⟨a8, b8, h1, h2, h3⟩ := hn1
        cases Option.some.inj (h1.symm.trans hcl)
        cases Option.some.inj (h2.symm.trans hc6)
        exact Or.inr ⟨hz0, _, hcl6, h3⟩) hx (Or.inr ⟨h0, c4, hcl5, hasg⟩)
  obtain ⟨t, a1, b1⟩ := kk (T.setVm vm') hT X'
  exact ⟨t, st.trans a1, b1⟩
end Rows
section Ends
variable {p : Program} {l : Launch} {e : Env} {R : Room} {s : State} {m : MethodId} {args : Array Value} {below : List Frame} {meth : Method} {c : Code} {H : Heap} {locs : List Loc} {cells slots : Nat} {Q : State → Prop}
variable {mc ms : Nat} {free : Addr → Prop} {A0 A1 : Nat → Prop} {H0 : Heap} {a : Array Value} {ls : Array Slot} {st0 rest : List Value}
variable {Qc : Array Value → State → Outcome → State → Prop} {XC : String → State → State → Prop}
/-- what a body that may throw owes at its end -/
def vx_MQ (below : List Frame) (Qc : Array Value → State → Outcome → State → Prop) (XC : String → State → State → Prop) (a : Array Value) (s : State) (mc ms : Nat) (free : Addr → Prop) : State → Prop := fun t =>
  ∃ o, t.status = .running ∧ Ended t below o ∧ vx_Q Qc XC mc ms free a s o t
theorem vx_ret {g : JFrame} {mc ms : Nat} (k : W p l e R s m args below meth c H locs cells slots (MQ below Qc args s mc ms free) g) : W p l e R s m args below meth c H locs cells slots (vx_MQ below Qc XC args s mc ms free) g := by
  intro T hT X
  obtain ⟨t, a1, o, b1, b2, b3, b4⟩ := k T hT X
  exact ⟨t, a1, o, b1, b2, Or.inl ⟨b3, b4⟩⟩
/-- not caught here: it goes on to the caller -/
theorem vx_widen {g : JFrame} {q : Addr} {k n : Nat} (h1 : cells ≤ k) (h2 : slots ≤ n) (kk : vx_W p l e R s m args below meth c H locs k n Q g q) : vx_W p l e R s m args below meth c H locs cells slots Q g q := fun T hT X => kk T hT (stand_widen X h1 h2)
theorem vx_out {pc : Nat} {E : String} {ce : Cell} {q : Addr} {mc ms : Nat} (hout : ∀ x ∈ c.exceptionTable.toList, covers x pc = false) (hlocks : meth.locks = false) (hcell : H[q]? = some ce) (hv : ce.vm = .none) (hcl : s.vm.findClass E = some ce.cls)
    (hx : ∀ t : State, t.heap = H → s.vm.Alike t.vm → XC E s t) (hf : ∀ z ∈ locs, free z.base) (hc : cells ≤ mc) (hs : slots ≤ ms) :
    vx_W p l e R s m args below meth c H locs cells slots (vx_MQ below Qc XC args s mc ms free) (F0 m pc ls rest) q := by
  intro T hT X
  obtain ⟨st1, hrun, hend, hW, hsm⟩ := X.leaveThrown q (g := F0 m pc ls rest) rfl rfl rfl hout hlocks
  have hcell9 : (T.setFrames (.throwing q :: below)).heap[q]? = some ce := by
    show T.heap[q]? = some ce
    rw [hT]; exact hcell
  exact ⟨_, st1, .threw q, hrun, hend, Or.inr ⟨q, rfl, E, ce, locs, hx _ hT hW.alike, hcell9, hv, hcl, hW, hsm.mono hc hs, hf⟩⟩
theorem vx_frame {U : State} {k n : Nat} (h : s.sameButNew ({ U with vm := s.vm } : State) locs k n) : s.heap.size ≤ U.heap.size ∧ ∀ q : Nat, q < s.heap.size → (∀ z ∈ locs, z.base ≠ q) → U.heap[q]? = s.heap[q]? := by
  obtain ⟨-, h2, -, -, -, h6⟩ := h
  refine ⟨h2, fun q hq hz => ?_⟩
  obtain ⟨c9, e1, e2, e3, e4⟩ := h6 q _ (Array.getElem?_eq_getElem hq)
  have hs : c9.slots = (s.heap[q]).slots := Array.ext_getElem? fun i => e4 i fun hm => hz _ hm rfl
  have h9 : c9 = s.heap[q] := by
    rw [hs] at e2
    exact e2
  have e5 : U.heap[q]? = some c9 := e1
  rw [e5, h9, Array.getElem?_eq_getElem hq]
/-- the words of a throw but the four that speak of the heap -/
def vx_no (w : Cond) : Bool := decide (w ≠ .isRef (.static Bundle.tN "UNASSIGNED_STACK" Bundle.steD)) && decide (w ≠ .isRef (.static Bundle.tN "SUPPRESSED_SENTINEL" Bundle.listD)) && decide (w ≠ .laysStatic Bundle.tN "UNASSIGNED_STACK" Bundle.steD) && decide (w ≠ .laysStatic Bundle.tN "SUPPRESSED_SENTINEL" Bundle.listD)
def vx_at0 (own : String) (ic : Nat) (X : String) (names : List String) : List Cond := (Bundle.ownAtoms0 own ic X names).filter vx_no
def vx_atS (own : String) (ic : Nat) (X : String) (names : List String) : List Cond := (Bundle.ownAtoms own ic X names).filter vx_no
/-- a word that the tables alone decide, or a good one -/
def vx_ot (w : Cond) : Bool := w.onTables || goodWord w
theorem vx_ot_at {args a' : Array Value} {s U : State} {w : Cond} (hW : s.WarmedH U.vm) (hvm : s.vm = U.vm) (hg : vx_ot w = true) (h : w.before args s = true) : w.before a' U = true := by
  simp only [vx_ot, Bool.or_eq_true] at hg
  rcases hg with hg | hg
  · exact va_tabs hg hvm h
  · exact word_at hW (good_of_word hg) h
/-- a list's words: the good ones out of the method's own list, the others by premises of their own -/
theorem vx_hat {args : Array Value} {s : State} {L B : List Cond} (h1 : ∀ w ∈ L.filter goodWord, w.before args s = true) (h2 : ∀ w ∈ L.filter (fun w => !goodWord w), w ∈ B) (h3 : ∀ w ∈ B, w.before args s = true) : ∀ w ∈ L, w.before args s = true := by
  intro w hw
  by_cases g : goodWord w = true
  · exact h1 w (List.mem_filter.mpr ⟨hw, g⟩)
  · refine h3 w (h2 w (List.mem_filter.mpr ⟨hw, ?_⟩))
    show (!goodWord w) = true
    cases hgw : goodWord w
    · rfl
    · exact absurd hgw g
theorem vx_c {args : Array Value} {s : State} {w : Cond} {B : List Cond} (h : w.before args s = true) (t : ∀ w ∈ B, w.before args s = true) : ∀ w' ∈ w :: B, w'.before args s = true := fun w' h' => (List.mem_cons.mp h').elim (fun e => by rw [e]; exact h) (t w')
theorem vx_n {args : Array Value} {s : State} : ∀ w ∈ ([] : List Cond), w.before args s = true := fun _ h => nomatch h
theorem vx_own {args : Array Value} {s : State} {L : List Cond} (h1 : ∀ w ∈ L.filter vx_no, w.before args s = true)
    (hU : (Cond.isRef (.static Bundle.tN "UNASSIGNED_STACK" Bundle.steD)).before args s = true) (hN : (Cond.isRef (.static Bundle.tN "SUPPRESSED_SENTINEL" Bundle.listD)).before args s = true)
    (lU : (Cond.laysStatic Bundle.tN "UNASSIGNED_STACK" Bundle.steD).before args s = true) (lN : (Cond.laysStatic Bundle.tN "SUPPRESSED_SENTINEL" Bundle.listD).before args s = true) : ∀ w ∈ L, w.before args s = true := by
  intro w hw
  by_cases e1 : w = .isRef (.static Bundle.tN "UNASSIGNED_STACK" Bundle.steD)
  · rw [e1]; exact hU
  · by_cases e2 : w = .isRef (.static Bundle.tN "SUPPRESSED_SENTINEL" Bundle.listD)
    · rw [e2]; exact hN
    · by_cases e3 : w = .laysStatic Bundle.tN "UNASSIGNED_STACK" Bundle.steD
      · rw [e3]; exact lU
      · by_cases e4 : w = .laysStatic Bundle.tN "SUPPRESSED_SENTINEL" Bundle.listD
        · rw [e4]; exact lN
        · exact h1 w (List.mem_filter.mpr ⟨hw, by unfold vx_no; rw [decide_eq_true e1, decide_eq_true e2, decide_eq_true e3, decide_eq_true e4]; rfl⟩)
/-- where a static field lies, its class's statics cell in H -/
def vx_L (C n d : String) (A : Nat → Prop) (U : State) (H : Heap) : Prop := ∃ (c : ClassId) (k : Class) (i : Nat) (f : Field) (a : Nat) (cell : Cell), U.vm.findClass C = some c ∧ U.fieldFound? C n d = some (c, k, i, f) ∧ f.isStatic = true ∧ k.statics = some a ∧ H[a]? = some cell ∧ cell.vm.isStatics = true ∧ cell.cls = c ∧ f.slot < cell.slots.size ∧ k.staticTypes[f.slot]? = some f.type ∧ ¬ A a
theorem vx_L.moved {C n d : String} {A : Nat → Prop} {u U : State} {H : Heap} (hvm : u.vm.Alike U.vm) (h : vx_L C n d A u H) : vx_L C n d A U H := by
  obtain ⟨c, k, i, f, a, cell, h1, h2, h3, h4, h5, h6, h7, h8, h9, h10⟩ := h
  obtain ⟨k', hi', he⟩ := State.fieldFound?_setVm hvm h2
  exact ⟨c, k', i, f, a, cell, by rw [hvm.findClass]; exact h1, hi', h3, by rw [he]; exact h4, h5, h6, h7, h8, by rw [he]; exact h9, h10⟩
theorem vx_L.kept {C n d : String} {A : Nat → Prop} {U : State} {H H1 : Heap} (h : vx_L C n d A U H) (hq : ∀ a : Nat, a < H.size → ¬ A a → H1[a]? = H[a]?) : vx_L C n d A U H1 := by
  obtain ⟨c, k, i, f, a, cell, h1, h2, h3, h4, h5, h6, h7, h8, h9, h10⟩ := h
  exact ⟨c, k, i, f, a, cell, h1, h2, h3, h4, by rw [hq a (Array.getElem?_eq_some_iff.mp h5).1 h10]; exact h5, h6, h7, h8, h9, h10⟩
theorem vx_L.narrow {C n d : String} {A B : Nat → Prop} {U : State} {H : Heap} (h : vx_L C n d A U H) (hAB : ∀ q, B q → A q) : vx_L C n d B U H := by
  obtain ⟨c, k, i, f, a, cell, h1, h2, h3, h4, h5, h6, h7, h8, h9, h10⟩ := h
  exact ⟨c, k, i, f, a, cell, h1, h2, h3, h4, h5, h6, h7, h8, h9, fun z => h10 (hAB _ z)⟩
theorem vx_L.word {C n d : String} {A : Nat → Prop} {s : State} {args : Array Value} (h : vx_L C n d A s s.heap) : (Cond.laysStatic C n d).before args s = true := by
  obtain ⟨c, k, i, f, a, cell, h1, h2, h3, h4, h5, h6, h7, h8, h9, -⟩ := h
  show (Cond.laysStatic C n d).holds args s none s [] = true
  exact Cond.laysStatic_of h1 h2 h3 h4 h5 h6 h7 h8 h9
/-- .. and what it holds: null or some reference -/
def vx_Zq (C n d : String) (A : Nat → Prop) (U : State) (H : Heap) : Prop := va_Zq C n d A U H ∧ vx_L C n d A U H
theorem vx_Zq.moved {C n d : String} {A : Nat → Prop} {u U : State} {H : Heap} (hvm : u.vm.Alike U.vm) (h : vx_Zq C n d A u H) : vx_Zq C n d A U H := ⟨va_Zq.moved hvm h.1, vx_L.moved hvm h.2⟩
theorem vx_Zq.kept {C n d : String} {A : Nat → Prop} {U : State} {H H1 : Heap} (h : vx_Zq C n d A U H) (hq : ∀ a : Nat, a < H.size → ¬ A a → H1[a]? = H[a]?) : vx_Zq C n d A U H1 := ⟨va_Zq.kept h.1 hq, vx_L.kept h.2 hq⟩
theorem vx_Zq.narrow {C n d : String} {A B : Nat → Prop} {U : State} {H : Heap} (h : vx_Zq C n d A U H) (hAB : ∀ q, B q → A q) : vx_Zq C n d B U H := ⟨va_Zq.narrow h.1 hAB, vx_L.narrow h.2 hAB⟩
theorem vx_Zqof {args : Array Value} {s : State} {C n d : String} {A : Nat → Prop} (hl : (Cond.laysStatic C n d).before args s = true) (hini : (Cond.initialized C).before args s = true) (h : (Cond.isRef (.static C n d)).before args s = true) (hA : ∀ a : Nat, a < s.heap.size → ¬ A a) : vx_Zq C n d A s s.heap := by
  refine ⟨va_Zqof hl hini h hA, ?_⟩
  obtain ⟨c, k, i, f, a, cell, h1, h2, h3, h4, h5, h6, h7, h8, h9⟩ := Cond.laysStatic_spec hl
  exact ⟨c, k, i, f, a, cell, h1, h2, h3, h4, h5, h6, h7, h8, h9, hA a (Array.getElem?_eq_some_iff.mp h5).1⟩
theorem vx_isRef {C n d : String} {v : Value} {A : Nat → Prop} {s : State} {args : Array Value} (h : va_Z C n d v A s s.heap) (hv : v.isRef = true) : (Cond.isRef (.static C n d)).before args s = true := by
  obtain ⟨cf, kf, fi, f, a, cell, h1, h2, h3, h4, h5, h6, h7, -⟩ := h
  have he : (Term.static C n d).eval args s none [] s = some v := by
    simp [Term.eval, State.fieldNamed?, h1, h2, h4, h5, h6, h7]
  simp only [Cond.before, Cond.holds, Cond.value, he]
  cases v <;> simp_all [Value.isRef]
theorem vx_isRefq {C n d : String} {A : Nat → Prop} {s : State} {args : Array Value} (h : va_Zq C n d A s s.heap) : (Cond.isRef (.static C n d)).before args s = true := by
  rcases h with h | ⟨t, h⟩
  · exact vx_isRef h rfl
  · exact vx_isRef h rfl
/-- the same frame, seen from here: as if the method were called anew in this heap -/
theorem vx_rebase {T : State} (X : Stand p l e R s m args below meth c T locs cells slots) {R' : Room} (hf : R'.frames ≤ R.frames) (hl : R'.locals ≤ R.locals) (hc : cells + R'.cells ≤ R.cells) (hs : slots + R'.slots ≤ R.slots) :
    Stand p l e R' ((T.setVm s.vm).setFrames (.invoking m args :: below)) m args below meth c T [] 0 0 := by
  have htop : (T.setVm s.vm).topJava?.isSome := X.here.top
  have hF : ((T.setVm s.vm).setFrames (.invoking m args :: below)).frames = .invoking m args :: below := State.frames_setFrames _ (State.cur_lt_of_top htop)
  obtain ⟨g₀, hg0⟩ := Option.isSome_iff_exists.mp htop
  obtain ⟨r, hr⟩ := State.topJava?_eq_some.mp hg0
  have hl9 : e.platform.stackLimits (T.setVm s.vm).me = e.platform.stackLimits s.me := X.limits
  have hb9 : (T.setVm s.vm).me.stackBytes = s.me.stackBytes := X.bytes
  refine ⟨X.admits, X.cas, X.clock, hF, ?_, X.hears, X.method, X.code, X.here, X.tail, X.warmed, ?_, ?_, ?_⟩
  · have h := X.room
    have hU : ((T.setVm s.vm).setFrames (.invoking m args :: below)).localsInUse = s.localsInUse := by
      rw [State.localsInUse_invoking hF (meth := meth) (c := c) X.method X.code, State.localsInUse_invoking X.frames X.method X.code]
    simp only [State.hasRoom, Bool.and_eq_true, decide_eq_true_eq] at h ⊢
    obtain ⟨⟨⟨⟨h1, h2, h3, h4, h5, h6⟩, h7⟩, h8⟩, h9⟩ := h
    rw [X.frames, List.length_cons] at h2 h3
    have q1 := X.heapSize
    have q2 := X.used
    simp only [hF, hU, List.length_cons, State.stackLimits_setFrames, State.stackBytes_setFrames, hl9, hb9]
    refine ⟨⟨⟨⟨by omega, by omega, by omega, by omega, by omega, h6⟩, ?_⟩, ?_⟩, X.book⟩
    · show T.heap.size + R'.cells ≤ e.platform.maxCells
      omega
    · show T.slotsUsed + R'.slots ≤ e.platform.maxSlots
      omega
  · rw [State.stackLimits_setFrames]; rfl
  · rw [State.stackBytes_setFrames]; rfl
  · refine ⟨?_, Nat.le_refl _, Nat.le_refl _, ?_, ?_, fun a c9 h9 => ⟨c9, h9, rfl, rfl, fun _ _ => rfl⟩⟩
    · obtain ⟨t, ht, -⟩ := State.frames_cons hr
      show T.setVm s.vm = { ((T.setVm s.vm).setFrames (.invoking m args :: below)).setFrames (T.setVm s.vm).frames with heap := T.heap, slotsUsed := T.slotsUsed }
      rw [State.setFrames_setFrames, State.setFrames_self ht]
      rfl
    · show T.slotsUsed = T.slotsUsed + ((T.heap.toList.drop T.heap.size).map (·.slots.size)).sum
      rw [List.drop_eq_nil_of_le (Nat.le_of_eq Array.length_toList)]
      rfl
    · show ((T.heap.toList.drop T.heap.size).map (·.slots.size)).sum ≤ 0
      rw [List.drop_eq_nil_of_le (Nat.le_of_eq Array.length_toList)]
      exact Nat.le_refl _
/-- 'throw new E()': new; dup; invokespecial; athrow -/
theorem vx_throw0 {cc : ByteArray} {pc : Nat} (hexec : p.tables.exec = Jvm.exec) (hb : c.code = cc) (hl : l.stackTraces = false) {own cls : String} {names : List String} {ik ic mc ms : Nat} {A : Nat → Prop}
    (hown : s.vm.findClass own = some m.cls) (hcls : Bundle.fit cls = true) (hnames : ∀ n ∈ names, Bundle.fit n = true)
    (hk : (Cond.classLink own ik cls).before args s = true) (hini : (Cond.initialized cls).before args s = true) (hat : ∀ w ∈ vx_at0 own ic cls names, w.before args s = true)
    (hgood : ∀ w ∈ Cond.classLink own ik cls :: Cond.initialized cls :: vx_at0 own ic cls names, vx_ot w = true)
    (hU : vx_Zq Bundle.tN "UNASSIGNED_STACK" Bundle.steD A s s.heap) (hN : vx_Zq Bundle.tN "SUPPRESSED_SENTINEL" Bundle.listD A s s.heap) (hS : va_S A s.heap H locs) (hsize : ls.size = c.maxLocals)
    (d0 : decode cc pc = .ok (.new ik, 3)) (d3 : decode cc (pc + 3) = .ok (.dup, 1)) (d4 : decode cc (pc + 4) = .ok (.invokespecial ic, 3)) (d7 : decode cc (pc + 7) = .ok (.athrow, 1))
    (hout : ∀ x ∈ c.exceptionTable.toList, covers x (pc + 7) = false)
    (hRframes : names.length + 3 < R.frames) (hRlocals : (rest.map fun v => v.category).sum + (13 * (names.length + 1) + 42) ≤ R.locals) (hRcells : cells + 1 ≤ R.cells) (hRslots : slots + 6 ≤ R.slots) (hlocks : meth.locks = false)
    (hx : ∀ t : State, s.vm.Alike t.vm → H.size ≤ t.heap.size → (∀ q : Nat, q < H.size → t.heap[q]? = H[q]?) → XC cls s t)
    (hf : ∀ z ∈ locs, free z.base) (hc : cells + 1 ≤ mc) (hs : slots + 6 ≤ ms) :
    W p l e R s m args below meth c H locs cells slots (vx_MQ below Qc XC args s mc ms free) (F0 m pc ls rest) := by
  intro T hT X
  have htr : e.platform.stackTraces = false := (show e.platform.stackTraces = l.stackTraces by rw [X.admits.platform]).trans hl
  have Y := vx_rebase X (R' := { frames := R.frames, locals := R.locals, cells := 1, slots := 6 }) (Nat.le_refl _) (Nat.le_refl _) hRcells hRslots
  obtain ⟨s', hA⟩ : ∃ z, z = (T.setVm s.vm).setFrames (.invoking m args :: below) := ⟨_, rfl⟩
  rw [← hA] at Y
  have hvm : s'.vm = s.vm := by rw [hA]; rfl
  have hhp : s'.heap = H := by rw [hA]; exact hT
  have hW0 : s.WarmedH s'.vm := by rw [hvm]; exact State.WarmedH.refl s
  have hat' : ∀ w ∈ vx_at0 own ic cls names, w.before args s' = true := fun w hw => vx_ot_at hW0 hvm.symm (hgood w (List.mem_cons_of_mem _ (List.mem_cons_of_mem _ hw))) (hat w hw)
  have hk' : (Cond.classLink own ik cls).before args s' = true := vx_ot_at hW0 hvm.symm (hgood _ List.mem_cons_self) hk
  have hini' : (Cond.initialized cls).before args s' = true := vx_ot_at hW0 hvm.symm (hgood _ (List.mem_cons_of_mem _ List.mem_cons_self)) hini
  have hU' : vx_Zq Bundle.tN "UNASSIGNED_STACK" Bundle.steD A s' s'.heap := by rw [hhp]; exact vx_Zq.moved hW0.alike (hU.kept hS.2.1)
  have hN' : vx_Zq Bundle.tN "SUPPRESSED_SENTINEL" Bundle.listD A s' s'.heap := by rw [hhp]; exact vx_Zq.moved hW0.alike (hN.kept hS.2.1)
  have h : ∀ w ∈ Bundle.ownAtoms0 own ic cls names, w.before args s' = true := vx_own hat' (vx_isRefq hU'.1) (vx_isRefq hN'.1) hU'.2.word hN'.2.word
  have hown' : s'.vm.findClass own = some m.cls := by rw [hvm]; exact hown
  have hins : (Cond.instantiable cls 6).before args s' = true := h _ (by simp [Bundle.ownAtoms0])
  obtain ⟨vm₁, cX, kX, hfX, hkX, -, -, X₁, st1⟩ := Y.newCold hexec (own := own) (C := cls) (index := ik) (n := 6) hown' hk' hins hini'
    (g := F0 m pc ls rest) rfl (by rw [hb]; exact d0) (Nat.le_refl _) (Nat.le_refl _)
  generalize hT1 : (T.setVm vm₁).pushCell { cls := cX, slots := kX.instanceTypes.map defaultValue, vm := .none } = T1 at X₁ st1
  have hcat : (Value.ref T.heap.size).category = 1 := rfl
  have hcellA : T1.heap[T.heap.size]? = some (freshCell cX kX) := by rw [← hT1]; exact State.heap_pushCell_size _ _
  have d3' : decode c.code (pc + 3) = .ok (.dup, 1) := by rw [hb]; exact d3
  obtain ⟨U, hsteps, hrun, hend, hW, hsame, ce, hce, hO⟩ := X₁.ctorThrow0 hexec htr (own := own) (cls := cls) (names := names) (ic := ic) hown' hcls hnames h (fun x hx => nomatch hx) hfX hkX hcellA (by rw [hhp, hT]; exact Nat.le_refl _)
    (g := { method := m, pc := pc + 4, locals := ls, stack := .ref T.heap.size :: .ref T.heap.size :: rest, locked := none }) rfl hsize rfl rfl (rest := rest) rfl
    (by rw [hb]; exact d4) (by rw [hb]; exact d7) hout hRframes (by simp only [List.map_cons, List.sum_cons, hcat]; omega) hlocks
  obtain ⟨f1, f2⟩ := vx_frame hsame
  rw [hhp] at f1 f2
  have hWs : s.WarmedH U.vm := State.WarmedH.trans hW0 hW
  have hcl : s.vm.findClass cls = some ce.cls := by
    have h9 := hO.cls
    rw [hvm] at h9
    exact h9
  have hall : s.sameButNew ({ U with vm := s.vm } : State) locs mc ms := by
    subst hA
    obtain ⟨e1, e2⟩ := hsame
    rw [State.setFrames_setFrames] at e1
    have h2 : (T.setVm s.vm).sameButNew ({ U with vm := s.vm } : State) [] (0 + 1) (0 + 6) := ⟨e1, e2⟩
    have h3 := X.same.trans h2
    rw [List.append_nil] at h3
    exact h3.mono hc hs
  refine ⟨U, ?_, .threw T.heap.size, hrun, hend, Or.inr ⟨T.heap.size, rfl, cls, ce, locs, hx U hWs.alike f1 (fun q hq => f2 q hq (fun z hz => nomatch hz)), hce, hO.vm, hcl, hWs, hall, hf⟩⟩
  refine st1 _ ?_
  show Steps p.tables e below (T1.setTop { method := m, pc := pc + 3, locals := ls, stack := .ref T.heap.size :: rest, locked := none }) _
  jvm_step X₁.here [X₁.here.top, hexec, d3', Value.category]
  exact hsteps
/-- 'throw new E("text")': new; dup; ldc; invokespecial; athrow -/
theorem vx_throwS {cc : ByteArray} {pc : Nat} (hexec : p.tables.exec = Jvm.exec) (hb : c.code = cc) (hl : l.stackTraces = false) {own cls text : String} {names : List String} {ik is ic mc ms sa : Nat} {A : Nat → Prop}
    (hown : s.vm.findClass own = some m.cls) (hcls : Bundle.fit cls = true) (hnames : ∀ n ∈ names, Bundle.fit n = true)
    (hk : (Cond.classLink own ik cls).before args s = true) (hini : (Cond.initialized cls).before args s = true) (hstr : vk_R own is text sa s) (hat : ∀ w ∈ vx_atS own ic cls names, w.before args s = true)
    (hgood : ∀ w ∈ Cond.classLink own ik cls :: Cond.initialized cls :: vx_atS own ic cls names, vx_ot w = true)
    (hU : vx_Zq Bundle.tN "UNASSIGNED_STACK" Bundle.steD A s s.heap) (hN : vx_Zq Bundle.tN "SUPPRESSED_SENTINEL" Bundle.listD A s s.heap) (hS : va_S A s.heap H locs) (hsize : ls.size = c.maxLocals)
    (d0 : decode cc pc = .ok (.new ik, 3)) (d3 : decode cc (pc + 3) = .ok (.dup, 1)) (d4 : decode cc (pc + 4) = .ok (.ldc is, 2)) (d6 : decode cc (pc + 6) = .ok (.invokespecial ic, 3)) (d9 : decode cc (pc + 9) = .ok (.athrow, 1))
    (hout : ∀ x ∈ c.exceptionTable.toList, covers x (pc + 9) = false)
    (hRframes : names.length + 3 < R.frames) (hRlocals : (rest.map fun v => v.category).sum + (13 * (names.length + 1) + 43) ≤ R.locals) (hRcells : cells + 1 ≤ R.cells) (hRslots : slots + 6 ≤ R.slots) (hlocks : meth.locks = false)
    (hx : ∀ t : State, s.vm.Alike t.vm → H.size ≤ t.heap.size → (∀ q : Nat, q < H.size → t.heap[q]? = H[q]?) → XC cls s t)
    (hf : ∀ z ∈ locs, free z.base) (hc : cells + 1 ≤ mc) (hs : slots + 6 ≤ ms) :
    W p l e R s m args below meth c H locs cells slots (vx_MQ below Qc XC args s mc ms free) (F0 m pc ls rest) := by
  intro T hT X
  have htr : e.platform.stackTraces = false := (show e.platform.stackTraces = l.stackTraces by rw [X.admits.platform]).trans hl
  have Y := vx_rebase X (R' := { frames := R.frames, locals := R.locals, cells := 1, slots := 6 }) (Nat.le_refl _) (Nat.le_refl _) hRcells hRslots
  obtain ⟨s', hA⟩ : ∃ z, z = (T.setVm s.vm).setFrames (.invoking m args :: below) := ⟨_, rfl⟩
  rw [← hA] at Y
  have hvm : s'.vm = s.vm := by rw [hA]; rfl
  have hhp : s'.heap = H := by rw [hA]; exact hT
  have hW0 : s.WarmedH s'.vm := by rw [hvm]; exact State.WarmedH.refl s
  have hat' : ∀ w ∈ vx_atS own ic cls names, w.before args s' = true := fun w hw => vx_ot_at hW0 hvm.symm (hgood w (List.mem_cons_of_mem _ (List.mem_cons_of_mem _ hw))) (hat w hw)
  have hk' : (Cond.classLink own ik cls).before args s' = true := vx_ot_at hW0 hvm.symm (hgood _ List.mem_cons_self) hk
  have hini' : (Cond.initialized cls).before args s' = true := vx_ot_at hW0 hvm.symm (hgood _ (List.mem_cons_of_mem _ List.mem_cons_self)) hini
  have hU' : vx_Zq Bundle.tN "UNASSIGNED_STACK" Bundle.steD A s' s'.heap := by rw [hhp]; exact vx_Zq.moved hW0.alike (hU.kept hS.2.1)
  have hN' : vx_Zq Bundle.tN "SUPPRESSED_SENTINEL" Bundle.listD A s' s'.heap := by rw [hhp]; exact vx_Zq.moved hW0.alike (hN.kept hS.2.1)
  have h : ∀ w ∈ Bundle.ownAtoms own ic cls names, w.before args s' = true := vx_own hat' (vx_isRefq hU'.1) (vx_isRefq hN'.1) hU'.2.word hN'.2.word
  have hown' : s'.vm.findClass own = some m.cls := by rw [hvm]; exact hown
  have hins : (Cond.instantiable cls 6).before args s' = true := h _ (by simp [Bundle.ownAtoms])
  obtain ⟨vm₁, cX, kX, hfX, hkX, -, -, X₁, st1⟩ := Y.newCold hexec (own := own) (C := cls) (index := ik) (n := 6) hown' hk' hins hini'
    (g := F0 m pc ls rest) rfl (by rw [hb]; exact d0) (Nat.le_refl _) (Nat.le_refl _)
  generalize hT1 : (T.setVm vm₁).pushCell { cls := cX, slots := kX.instanceTypes.map defaultValue, vm := .none } = T1 at X₁ st1
  have hcat : (Value.ref T.heap.size).category = 1 := rfl
  have hcellA : T1.heap[T.heap.size]? = some (freshCell cX kX) := by rw [← hT1]; exact State.heap_pushCell_size _ _
  have d3' : decode c.code (pc + 3) = .ok (.dup, 1) := by rw [hb]; exact d3
  have d4' : decode c.code (pc + 4) = .ok (.ldc is, 2) := by rw [hb]; exact d4
  have hstr' : vk_R own is text sa s' := vk_R.warm hW0 hstr
  obtain ⟨U, hsteps, hrun, hend, hW, hsame, ce, hce, hO⟩ := X₁.ctorThrowS hexec htr (own := own) (cls := cls) (names := names) (ic := ic) hown' hcls hnames h (fun x hx => nomatch hx) hfX hkX hcellA (by rw [hhp, hT]; exact Nat.le_refl _) (msg := .ref sa) rfl
    (g := { method := m, pc := pc + 6, locals := ls, stack := .ref sa :: .ref T.heap.size :: .ref T.heap.size :: rest, locked := none }) rfl hsize rfl rfl (rest := rest) rfl
    (by rw [hb]; exact d6) (by rw [hb]; exact d9) hout hRframes (by simp only [List.map_cons, List.sum_cons, hcat]; omega) hlocks
  obtain ⟨f1, f2⟩ := vx_frame hsame
  rw [hhp] at f1 f2
  have hWs : s.WarmedH U.vm := State.WarmedH.trans hW0 hW
  have hcl : s.vm.findClass cls = some ce.cls := by
    have h9 := hO.cls
    rw [hvm] at h9
    exact h9
  have hall : s.sameButNew ({ U with vm := s.vm } : State) locs mc ms := by
    subst hA
    obtain ⟨e1, e2⟩ := hsame
    rw [State.setFrames_setFrames] at e1
    have h2 : (T.setVm s.vm).sameButNew ({ U with vm := s.vm } : State) [] (0 + 1) (0 + 6) := ⟨e1, e2⟩
    have h3 := X.same.trans h2
    rw [List.append_nil] at h3
    exact h3.mono hc hs
  refine ⟨U, ?_, .threw T.heap.size, hrun, hend, Or.inr ⟨T.heap.size, rfl, cls, ce, locs, hx U hWs.alike f1 (fun q hq => f2 q hq (fun z hz => nomatch hz)), hce, hO.vm, hcl, hWs, hall, hf⟩⟩
  refine st1 _ ?_
  show Steps p.tables e below (T1.setTop { method := m, pc := pc + 3, locals := ls, stack := .ref T.heap.size :: rest, locked := none }) _
  jvm_step X₁.here [X₁.here.top, hexec, d3', Value.category]
  exact X₁.ldcString hexec (own := own) (text := text) (index := is) (a := sa) hown' hstr'.1 hstr'.2
    (g := { method := m, pc := pc + 4, locals := ls, stack := .ref T.heap.size :: .ref T.heap.size :: rest, locked := none }) rfl d4' _ hsteps
/-- 'throw new E("text")', the text by a wide index -/
theorem vx_throwSW {cc : ByteArray} {pc : Nat} (hexec : p.tables.exec = Jvm.exec) (hb : c.code = cc) (hl : l.stackTraces = false) {own cls text : String} {names : List String} {ik is ic mc ms sa : Nat} {A : Nat → Prop}
    (hown : s.vm.findClass own = some m.cls) (hcls : Bundle.fit cls = true) (hnames : ∀ n ∈ names, Bundle.fit n = true)
    (hk : (Cond.classLink own ik cls).before args s = true) (hini : (Cond.initialized cls).before args s = true) (hstr : vk_R own is text sa s) (hat : ∀ w ∈ vx_atS own ic cls names, w.before args s = true)
    (hgood : ∀ w ∈ Cond.classLink own ik cls :: Cond.initialized cls :: vx_atS own ic cls names, vx_ot w = true)
    (hU : vx_Zq Bundle.tN "UNASSIGNED_STACK" Bundle.steD A s s.heap) (hN : vx_Zq Bundle.tN "SUPPRESSED_SENTINEL" Bundle.listD A s s.heap) (hS : va_S A s.heap H locs) (hsize : ls.size = c.maxLocals)
    (d0 : decode cc pc = .ok (.new ik, 3)) (d3 : decode cc (pc + 3) = .ok (.dup, 1)) (d4 : decode cc (pc + 4) = .ok (.ldc_w is, 3)) (d7 : decode cc (pc + 7) = .ok (.invokespecial ic, 3)) (d10 : decode cc (pc + 10) = .ok (.athrow, 1))
    (hout : ∀ x ∈ c.exceptionTable.toList, covers x (pc + 10) = false)
    (hRframes : names.length + 3 < R.frames) (hRlocals : (rest.map fun v => v.category).sum + (13 * (names.length + 1) + 43) ≤ R.locals) (hRcells : cells + 1 ≤ R.cells) (hRslots : slots + 6 ≤ R.slots) (hlocks : meth.locks = false)
    (hx : ∀ t : State, s.vm.Alike t.vm → H.size ≤ t.heap.size → (∀ q : Nat, q < H.size → t.heap[q]? = H[q]?) → XC cls s t)
    (hf : ∀ z ∈ locs, free z.base) (hc : cells + 1 ≤ mc) (hs : slots + 6 ≤ ms) :
    W p l e R s m args below meth c H locs cells slots (vx_MQ below Qc XC args s mc ms free) (F0 m pc ls rest) := by
  intro T hT X
  have htr : e.platform.stackTraces = false := (show e.platform.stackTraces = l.stackTraces by rw [X.admits.platform]).trans hl
  have Y := vx_rebase X (R' := { frames := R.frames, locals := R.locals, cells := 1, slots := 6 }) (Nat.le_refl _) (Nat.le_refl _) hRcells hRslots
  obtain ⟨s', hA⟩ : ∃ z, z = (T.setVm s.vm).setFrames (.invoking m args :: below) := ⟨_, rfl⟩
  rw [← hA] at Y
  have hvm : s'.vm = s.vm := by rw [hA]; rfl
  have hhp : s'.heap = H := by rw [hA]; exact hT
  have hW0 : s.WarmedH s'.vm := by rw [hvm]; exact State.WarmedH.refl s
  have hat' : ∀ w ∈ vx_atS own ic cls names, w.before args s' = true := fun w hw => vx_ot_at hW0 hvm.symm (hgood w (List.mem_cons_of_mem _ (List.mem_cons_of_mem _ hw))) (hat w hw)
  have hk' : (Cond.classLink own ik cls).before args s' = true := vx_ot_at hW0 hvm.symm (hgood _ List.mem_cons_self) hk
  have hini' : (Cond.initialized cls).before args s' = true := vx_ot_at hW0 hvm.symm (hgood _ (List.mem_cons_of_mem _ List.mem_cons_self)) hini
  have hU' : vx_Zq Bundle.tN "UNASSIGNED_STACK" Bundle.steD A s' s'.heap := by rw [hhp]; exact vx_Zq.moved hW0.alike (hU.kept hS.2.1)
  have hN' : vx_Zq Bundle.tN "SUPPRESSED_SENTINEL" Bundle.listD A s' s'.heap := by rw [hhp]; exact vx_Zq.moved hW0.alike (hN.kept hS.2.1)
  have h : ∀ w ∈ Bundle.ownAtoms own ic cls names, w.before args s' = true := vx_own hat' (vx_isRefq hU'.1) (vx_isRefq hN'.1) hU'.2.word hN'.2.word
  have hown' : s'.vm.findClass own = some m.cls := by rw [hvm]; exact hown
  have hins : (Cond.instantiable cls 6).before args s' = true := h _ (by simp [Bundle.ownAtoms])
  obtain ⟨vm₁, cX, kX, hfX, hkX, -, -, X₁, st1⟩ := Y.newCold hexec (own := own) (C := cls) (index := ik) (n := 6) hown' hk' hins hini'
    (g := F0 m pc ls rest) rfl (by rw [hb]; exact d0) (Nat.le_refl _) (Nat.le_refl _)
  generalize hT1 : (T.setVm vm₁).pushCell { cls := cX, slots := kX.instanceTypes.map defaultValue, vm := .none } = T1 at X₁ st1
  have hcat : (Value.ref T.heap.size).category = 1 := rfl
  have hcellA : T1.heap[T.heap.size]? = some (freshCell cX kX) := by rw [← hT1]; exact State.heap_pushCell_size _ _
  have d3' : decode c.code (pc + 3) = .ok (.dup, 1) := by rw [hb]; exact d3
  have d4' : decode c.code (pc + 4) = .ok (.ldc_w is, 3) := by rw [hb]; exact d4
  have hstr' : vk_R own is text sa s' := vk_R.warm hW0 hstr
  obtain ⟨U, hsteps, hrun, hend, hW, hsame, ce, hce, hO⟩ := X₁.ctorThrowS hexec htr (own := own) (cls := cls) (names := names) (ic := ic) hown' hcls hnames h (fun x hx => nomatch hx) hfX hkX hcellA (by rw [hhp, hT]; exact Nat.le_refl _) (msg := .ref sa) rfl
    (g := { method := m, pc := pc + 7, locals := ls, stack := .ref sa :: .ref T.heap.size :: .ref T.heap.size :: rest, locked := none }) rfl hsize rfl rfl (rest := rest) rfl
    (by rw [hb]; exact d7) (by rw [hb]; exact d10) hout hRframes (by simp only [List.map_cons, List.sum_cons, hcat]; omega) hlocks
  obtain ⟨f1, f2⟩ := vx_frame hsame
  rw [hhp] at f1 f2
  have hWs : s.WarmedH U.vm := State.WarmedH.trans hW0 hW
  have hcl : s.vm.findClass cls = some ce.cls := by
    have h9 := hO.cls
    rw [hvm] at h9
    exact h9
  have hall : s.sameButNew ({ U with vm := s.vm } : State) locs mc ms := by
    subst hA
    obtain ⟨e1, e2⟩ := hsame
    rw [State.setFrames_setFrames] at e1
    have h2 : (T.setVm s.vm).sameButNew ({ U with vm := s.vm } : State) [] (0 + 1) (0 + 6) := ⟨e1, e2⟩
    have h3 := X.same.trans h2
    rw [List.append_nil] at h3
    exact h3.mono hc hs
  refine ⟨U, ?_, .threw T.heap.size, hrun, hend, Or.inr ⟨T.heap.size, rfl, cls, ce, locs, hx U hWs.alike f1 (fun q hq => f2 q hq (fun z hz => nomatch hz)), hce, hO.vm, hcl, hWs, hall, hf⟩⟩
  refine st1 _ ?_
  show Steps p.tables e below (T1.setTop { method := m, pc := pc + 3, locals := ls, stack := .ref T.heap.size :: rest, locked := none }) _
  jvm_step X₁.here [X₁.here.top, hexec, d3', Value.category]
  exact X₁.ldcStringW hexec (own := own) (text := text) (index := is) (a := sa) hown' hstr'.1 hstr'.2
    (g := { method := m, pc := pc + 4, locals := ls, stack := .ref T.heap.size :: .ref T.heap.size :: rest, locked := none }) rfl d4' _ hsteps
end Ends
section Bodies
variable {l : Launch}
theorem vx_ofW {y : MethodName} {ws ws' : List Cond} {rm : Room} {Pc : Array Value → State → Prop} {Qc : Array Value → State → Outcome → State → Prop} {XC : String → State → State → Prop} {mc ms : Nat} {free : Addr → Prop} {cc : ByteArray} {maxL : Nat} {ret : Option FieldType}
    (hy : plainName y.cls = true) (hw : ws = Cond.code y cc maxL ret :: ws')
    (body : ∀ p e s m args below meth c s₁, BodyLoose p l y (headSpec ws rm) cc maxL ret e s m args below meth c s₁ → c.maxLocals = maxL → (∀ x ∈ c.exceptionTable.toList, False) → Pc args s →
      W p l e (headSpec ws rm).room s m args below meth c s.heap [] 0 0 (vx_MQ below Qc XC args s mc ms free) (entryFrame m args maxL)) : vx_Met l y ws rm Pc Qc XC mc ms free := by
  refine MetFree.of_bodyS (code := cc) (maxLocals := maxL) (ret := ret) hy ?_ ?_
  · intro args s m h hn
    obtain ⟨meth, c, h1, h2, h3, h4, h5, h6, -, -⟩ := Cond.code_spec hn (atoms_spec (ws := ws) h _ (by rw [hw]; exact List.mem_cons_self))
    exact ⟨meth, c, h1, h2, h3, h4, h5, h6⟩
  · intro p e s m args below meth c s₁ B hml hP _
    have hh0 : s₁.heap = s.heap := by rw [B.state]; rfl
    have ht : ∀ x ∈ c.exceptionTable.toList, False := by
      obtain ⟨meth9, c9, h1, h2, -, -, -, -, h7, -⟩ := Cond.code_spec B.named (atoms_spec (ws := ws) B.pre _ (by rw [hw]; exact List.mem_cons_self))
      cases Option.some.inj (h1.symm.trans B.method)
      cases Option.some.inj (h2.symm.trans (Stand.of_body B).code)
      intro x hx
      rw [Array.isEmpty_iff.mp h7] at hx
      cases hx
    obtain ⟨t, a1, o, b1, b2, b3⟩ := body p e s m args below meth c s₁ B hml ht hP s₁ hh0 (Stand.of_body B)
    exact ⟨t, o, a1, b1, b2, b3⟩
/-- the table of a body with handlers -/
theorem vx_table {p : Program} {x y : MethodName} {S : Spec} {cc bytes : ByteArray} {maxL maxL' : Nat} {ret ret' : Option FieldType} {e : Env} {s s₁ : State} {m : MethodId} {args : Array Value} {below : List Frame} {meth : Method} {c : Code} {hh : List (Nat × Nat × Nat × Nat)}
    (B : BodyLoose p l y S cc maxL ret e s m args below meth c s₁) (h : (Cond.codeWith y bytes maxL' ret' hh).before args s = true) : c.exceptionTable.toList = tableOf hh := by
  obtain ⟨m9, meth9, c9, hn9, h1, h2, -, -, h6, -⟩ := Cond.codeWith_spec h
  cases Option.some.inj (hn9.symm.trans B.named)
  cases Option.some.inj (h1.symm.trans B.method)
  cases Option.some.inj (h2.symm.trans (Stand.of_body B).code)
  rw [← h6, table_eq]
end Bodies
end VXA
/-! ===== END ===== -/
/-! ===== BEGIN a static call of a method with an exception table ===== -/
section VXS
variable {p : Program} {l : Launch} {e : Env} {R : Room} {s : State} {m : MethodId} {args : Array Value} {below : List Frame} {meth : Method} {c : Code} {T : State} {H : Heap} {locs : List Loc} {cells slots : Nat}
abbrev vx_CSW (R : Room) (s : State) (args : Array Value) (own : String) (index : Nat) (y : MethodName) (bytes : ByteArray) (maxL : Nat) (ret : Option FieldType) (hh : List (Nat × Nat × Nat × Nat)) (ws : List Cond) (rm : Room) (mc ms n : Nat) : Prop :=
  (rm.cells = mc ∧ rm.slots = ms ∧ rm.frames + 1 ≤ R.frames ∧ 8 + (maxL + 11) + rm.locals ≤ R.locals ∧ (∀ w ∈ ws, ∀ (a' : Array Value) (U : State), s.WarmedH U.vm → w.before a' U = true) ∧ Cond.codeWith y bytes maxL ret hh ∈ ws) ∧
  (Cond.codeWith y bytes maxL ret hh).before args s = true ∧ (Cond.initialized y.cls).before args s = true ∧ (y.cls ≠ "java/lang/invoke/MethodHandle" ∧ y.cls ≠ "java/lang/invoke/VarHandle") ∧
  (∀ sig, parseMethodDescriptor y.desc = some sig → n = sig.parameters.length) ∧ (Cond.methodLink own index y).before args s = true ∧ (Cond.static y).before args s = true
theorem vx_cwSW {own : String} {index maxL mc ms : Nat} {y : MethodName} {bytes : ByteArray} {ret : Option FieldType} {hh : List (Nat × Nat × Nat × Nat)} {Ts ws ws' : List Cond} {rm : Room} (n : Nat) (ht : ∀ w ∈ Ts, w.before args s = true) (hT : GoodIn Ts (va_wsS own index y ws)) (hw : ws = Cond.codeWith y bytes maxL ret hh :: ws') (hrc : rm.cells = mc) (hrs : rm.slots = ms)
    (hd : y.cls ≠ "java/lang/invoke/MethodHandle" ∧ y.cls ≠ "java/lang/invoke/VarHandle" ∧ (parseMethodDescriptor y.desc).map (fun d => d.parameters.length) = some n) (hR : rm.frames + 1 ≤ R.frames ∧ 8 + (maxL + 11) + rm.locals ≤ R.locals) :
    vx_CSW R s args own index y bytes maxL ret hh ws rm mc ms n := by
  have ok : ∀ w ∈ va_wsS own index y ws, w.before args s = true := fun w h => ht w (hT w h).1
  have hG : GoodIn Ts ws := fun w h => hT w (by unfold va_wsS; exact List.mem_append_right _ h)
  have hc : Cond.codeWith y bytes maxL ret hh ∈ ws := by rw [hw]; exact List.mem_cons_self
  refine ⟨⟨hrc, hrs, hR.1, hR.2, pay_in ht hG, hc⟩, ht _ (hG _ hc).1, ok _ (by simp [va_wsS]), ⟨hd.1, hd.2.1⟩, fun sig h => ?_, ok _ (by simp [va_wsS]), ok _ (by simp [va_wsS])⟩
  have h2 := hd.2.2
  rw [h] at h2
  exact (Option.some.inj h2).symm
theorem vx_callSW (X : Stand p l e R s m args below meth c T locs cells slots) (hexec : p.tables.exec = Jvm.exec) {own : String} {index : Nat} {y : MethodName} {bytes : ByteArray} {maxL : Nat} {ret : Option FieldType} {hh : List (Nat × Nat × Nat × Nat)}
    (hown : s.vm.findClass own = some m.cls) (hlink : (Cond.methodLink own index y).before args s = true) (hstat : (Cond.static y).before args s = true) (hinit : (Cond.initialized y.cls).before args s = true)
    (hcode : (Cond.codeWith y bytes maxL ret hh).before args s = true) (hy : y.cls ≠ "java/lang/invoke/MethodHandle" ∧ y.cls ≠ "java/lang/invoke/VarHandle")
    {W9 : Nat} {Pre : Pt → Array Value → Prop} {Post : Pt → Array Value → Option Value → Pt → Prop} (hK : Back l R p e below s args y 3 W9 Pre Post)
    {g : JFrame} (hg : g.method = m) (hsize : g.locals.size = c.maxLocals) {argsL rest : List Value} (hlen : ∀ sig, parseMethodDescriptor y.desc = some sig → argsL.length = sig.parameters.length)
    (hstack : g.stack = argsL.reverse ++ rest) (hW : 2 * g.monitorRoom + (rest.map fun v => v.category).sum ≤ W9) (hdg : decode c.code g.pc = .ok (.invokestatic index, 3))
    (hpre : ∀ vm₁, s.WarmedH vm₁ → Pre ⟨T.setVm vm₁, locs, cells, slots⟩ argsL.toArray) :
    ∃ (v : Option Value) (vm₁ : Vm) (B : Pt), s.WarmedH vm₁ ∧ Stand p l e R s m args below meth c B.U B.locs B.cells B.slots ∧ Post ⟨T.setVm vm₁, locs, cells, slots⟩ argsL.toArray v B ∧
      ∀ target, Steps p.tables e below (B.U.setTop { g with pc := g.pc + 3, stack := v.toList ++ rest }) target → Steps p.tables e below (T.setTop g) target := by
  obtain ⟨mk, methM, cM, hnamed, hmethM, -, -, -, -, -, -, hsigM⟩ := Cond.codeWith_spec hcode
  have hstatic : methM.isStatic = true := Cond.static_spec hnamed hmethM hstat
  obtain ⟨kP, hkP, -⟩ := className_of_methodNamed hnamed
  have hinitP : kP.init = .initialized := Cond.initialized_spec (findClass_of_methodNamed hnamed) hkP hinit
  obtain ⟨vm₁, X₁, hstep₁⟩ := X.invokestatic hexec hown hlink hnamed hmethM hstatic hkP hinitP hy (g := g) hg (argsL := argsL) (rest := rest) (hlen _ hsigM) hstack hdg
  obtain ⟨v, B, X', hpost, hsteps⟩ := hK m meth c ⟨T.setVm vm₁, locs, cells, slots⟩ { g with stack := rest } (.invokestatic index) mk argsL.toArray X₁ hg hsize hdg hW (X₁.named hnamed) (hpre vm₁ X₁.warmed)
  exact ⟨v, vm₁, B, X₁.warmed, X', hpost, fun target h => hstep₁ _ fun acts => by rw [doInvoke_state]; exact hsteps.trans h⟩
theorem vx_runSW {y : MethodName} {bytes cc : ByteArray} {maxL nL mc ms n index : Nat} {ret : Option FieldType} {hh : List (Nat × Nat × Nat × Nat)} {ws : List Cond} {rm : Room} {Pc : Array Value → State → Prop} {Qc : Array Value → State → Outcome → State → Prop} {free : Addr → Prop} {Ts : List Cond} {own : String} {As rest : List Value} {g : JFrame}
    (S : CallFix p m c cc nL s args Ts own) (hM : Met l y ws rm Pc Qc mc ms free) (cw : vx_CSW R s args own index y bytes maxL ret hh ws rm mc ms n) (hp : PreS s H Pc As)
    (hg : g.method = m) (hn : As.length = n) (hsize : g.locals.size = nL) (hstack : g.stack = As.reverse ++ rest) (hW : 2 * g.monitorRoom + (rest.map fun v => v.category).sum ≤ 8) (hdg : decode cc g.pc = .ok (.invokestatic index, 3)) (hf : cells + mc ≤ R.cells ∧ slots + ms ≤ R.slots) :
    va_Run p l e R s m args below meth c H locs cells slots mc ms g rest (Qc As.toArray) (free) := by
  obtain ⟨⟨hrc, hrs, hfr, hlo, hws, hcw⟩, hcode, hini, hy, hlen, hl, hstt⟩ := cw
  have hK : Back l R p e below s args y 3 8 (PreOf R mc ms Pc) (PostOf Qc mc ms free) := va_backW (hh := hh) (bytes := bytes) (maxL := maxL) (ret := ret) hM hp.1 hrc hrs hfr hlo hws hcw (fun a' U hW => word_at hW (Or.inl (by first | rfl | simp [Cond.onTables, Cond.keeps, Cond.steady])) hini)
  obtain ⟨hx, hb, hml, ho, -⟩ := S
  intro T hT X
  obtain ⟨v, vm₁, ⟨U', l2, c2, s2⟩, hW₁, X', ⟨g', mk, t, L, e1, e2, hq, h1, hL, h2, h3⟩, st⟩ := vx_callSW X hx (hh := hh) (bytes := bytes) (maxL := maxL) (ret := ret) ho hl hstt hini hcode hy hK hg (hsize.trans hml.symm) (argsL := As) (rest := rest) (fun sig h => hn.trans (hlen sig h)) hstack hW (by rw [hb]; exact hdg)
    (fun vm₁ hW₁ => ⟨hf.1, hf.2, hp.2 (T.setVm vm₁) hT hW₁⟩)
  dsimp only [Pt.U, Pt.locs, Pt.cells, Pt.slots] at X' e1 e2 h1 h2 h3 st
  subst h1; subst h2; subst h3
  exact ⟨v, (T.setVm vm₁).calling g' mk As.toArray, t, U', L, hT, X', hL, e1, e2, hq, st⟩
/-- not caught here, past rows that name other classes: it goes on to the caller -/
theorem vx_outP {p : Program} {l : Launch} {e : Env} {R : Room} {s : State} {m : MethodId} {args : Array Value} {below : List Frame} {meth : Method} {c : Code} {H : Heap} {locs : List Loc} {cells slots : Nat} {free : Addr → Prop} {ls : Array Slot} {rest : List Value} {Qc : Array Value → State → Outcome → State → Prop} {XC : String → State → State → Prop}
    {pc : Nat} {own E : String} {ce : Cell} {q : Addr} {mc ms : Nat} (hown : s.vm.findClass own = some m.cls) (hlocks : meth.locks = false)
    (hpass : ∀ z ∈ c.exceptionTable.toList, covers z pc = false ∨ (z.catchType ≠ 0 ∧ ∃ nm : String, (Cond.classLink own z.catchType nm).before args s = true ∧ va_Nc E nm s)) (hcell : H[q]? = some ce) (hv : ce.vm = .none) (hcl : s.vm.findClass E = some ce.cls)
    (hx : ∀ t : State, t.heap = H → s.vm.Alike t.vm → XC E s t) (hf : ∀ z ∈ locs, free z.base) (hc : cells ≤ mc) (hs : slots ≤ ms) :
    vx_W p l e R s m args below meth c H locs cells slots (vx_MQ below Qc XC args s mc ms free) (F0 m pc ls rest) q := by
  intro T hT X
  have hpl : e.platform.magicAccessors = ({} : Platform).magicAccessors := by rw [X.admits.platform]
  obtain ⟨vm', hW', X', st⟩ := X.outThrough hlocks q (g := F0 m pc ls rest) rfl rfl rfl (cell := ce) (by rw [hT]; exact hcell) (by rw [hv]; rfl)
    (by obtain ⟨k9, h9, -⟩ := Vm.findClass_spec hcl; exact ⟨k9, h9⟩) (fun z hz => by
      rcases hpass z hz with h | ⟨hz0, nm, hl1, hn1⟩
      · exact Or.inl h
      · obtain ⟨c6, hc6, hcl6⟩ := Cond.classLink_spec hown hl1 e.platform hpl
        obtain ⟨a8, b8, h1, h2, h3⟩ := hn1
        cases Option.some.inj (h1.symm.trans hcl)
        cases Option.some.inj (h2.symm.trans hc6)
        exact Or.inr ⟨hz0, _, hcl6, h3⟩)
  obtain ⟨g₀, hfr⟩ := X'.frames_eq
  have hcell9 : ((T.setVm vm').setFrames (.throwing q :: below)).heap[q]? = some ce := by
    show T.heap[q]? = some ce
    rw [hT]; exact hcell
  have hend : Ended ((T.setVm vm').setFrames (.throwing q :: below)) below (.threw q) := State.frames_setFrames _ (State.cur_lt_of_frames hfr)
  refine ⟨(T.setVm vm').setFrames (.throwing q :: below), ?_, .threw q, X'.here.running, hend, Or.inr ⟨q, rfl, E, ce, locs, hx _ hT (X'.ends _).1.alike, hcell9, hv, hcl, (X'.ends _).1, (X'.ends _).2.mono hc hs, hf⟩⟩
  rw [X.pushThrowing_eq]
  exact st
/-- a thing of a world lies in the heap -/
theorem vx_lt {D : va_G} {cl : List vw_C} {ws : va_W} {H1 : Heap} (h : va_P D cl ws H1) {k : Nat} {q : Nat × va_E} (hk : ws[k]? = some q) : q.1 < H1.size := (h k q hk).lt
end VXS
/-! ===== END ===== -/
/-! ===== BEGIN methods with a table of their own: called by a name, returning or throwing ===== -/
section VXH
/-! vx_backW, vx_callVX, vx_callSX, vx_callVW, vx_runVW, vx_runVX, vx_runSX, vx_ofWH follow the same proofs as their sisters above (Free/Laws.lean, Shelf42/LK1.lean); vx_outP calls Shelf42/NT130.lean (outThrough). -/
section
variable {l : Launch} {R : Room} {p : Program} {e : Env} {below : List Frame} {s : State} {sargs : Array Value} {y : MethodName} {len W9 : Nat}
theorem vx_backW {ws : List Cond} {rm : Room} {Pc : Array Value → State → Prop} {Qc : Array Value → State → Outcome → State → Prop} {XC : String → State → State → Prop} {mc ms : Nat} {free : Addr → Prop} {bytes : ByteArray} {maxL : Nat} {ret : Option FieldType} {hh : List (Nat × Nat × Nat × Nat)}
    (hM : vx_Met l y ws rm Pc Qc XC mc ms free) (hblind : FrameBlind Pc) (hrc : rm.cells = mc) (hrs : rm.slots = ms)
    (hframes : rm.frames + 1 ≤ R.frames) (hlocals : W9 + (maxL + 11) + rm.locals ≤ R.locals)
    (hws : ∀ w ∈ ws, ∀ a' U, s.WarmedH U.vm → w.before a' U = true) (hcode : Cond.codeWith y bytes maxL ret hh ∈ ws) (hinit : ∀ a' U, s.WarmedH U.vm → (Cond.initialized y.cls).before a' U = true) :
    vx_Back l R p e below s sargs y len W9 (PreOf R mc ms Pc) (PostOf Qc mc ms free) (vx_Post XC mc ms free) := by
  intro m meth c A g ig mk a X hg hsize hdg hW hn hp
  have h1 : (headSpec ws rm).pre.before a A.U = true := atoms_intro fun w hw => hws w hw _ _ X.warmed
  have h2 : (Cond.codeWith y bytes maxL ret hh).before a A.U = true := hws _ hcode _ _ X.warmed
  have h3 : (Cond.initialized y.cls).before a A.U = true := hinit _ _ X.warmed
  have h4 : A.cells + (headSpec ws rm).room.cells ≤ R.cells := by rw [show (headSpec ws rm).room.cells = mc from hrc]; exact hp.1
  have h5 : A.slots + (headSpec ws rm).room.slots ≤ R.slots := by rw [show (headSpec ws rm).room.slots = ms from hrs]; exact hp.2.1
  have hPc : Pc a (A.U.calling g mk a) := hblind _ _ _ _ hp.2.2
  obtain ⟨U, Ls, c0, s0⟩ := A
  dsimp only [Pt.U, Pt.locs, Pt.cells, Pt.slots] at h1 h2 h3 h4 h5 X hn hPc ⊢
  obtain ⟨m9, methY, cY, hn9, hmY, hcY, -, hlY, -⟩ := Cond.codeWith_spec h2
  cases Option.some.inj (hn9.symm.trans hn)
  obtain ⟨kY, hkY, -⟩ := className_of_methodNamed hn
  have hinitY : kY.init = .initialized := Cond.initialized_spec (findClass_of_methodNamed hn) hkY h3
  have h : At U g.method c below := by rw [hg]; exact X.here
  have hlocals9 : W9 + (maxL + 11) + (headSpec ws rm).room.locals ≤ R.locals := hlocals
  have happ : (headSpec ws rm).appliesLoose y e.platform (U.calling g mk a) = true :=
    Spec.appliesLoose_calling (g := g) h hdg hn hkY hinitY
      (X.room_calling (g := g) (R' := (headSpec ws rm).room) hsize hmY hcY hframes (by rw [hlY]; omega) h4 h5) h1
  obtain ⟨mid, hmid⟩ := h.above
  have hfr : (U.setTop g).frames = (.java g :: mid) ++ below := by rw [State.frames_setTop' g h.top, hmid]; rfl
  obtain ⟨o, s₂, hsteps, -, hend, hq⟩ := Steps.callFree hM p X.admits X.cas X.clock (acts := []) hfr happ hPc trivial
  have hq' : vx_Q Qc XC mc ms free a (U.calling g mk a) o s₂ := hq
  rw [State.frames_setTop' g h.top] at hend
  obtain ⟨g₀, hg0⟩ := Option.isSome_iff_exists.mp h.top
  obtain ⟨r, hr⟩ := State.topJava?_eq_some.mp hg0
  have hr' : (({ U with heap := s₂.heap, slotsUsed := s₂.slotsUsed } : State).setVm s₂.vm).frames = .java g₀ :: r := hr
  rcases hq' with ⟨hqc, L, hfe, hL⟩ | ⟨q, rfl, E, ce, L, hx, hce, hcv, hcl, hW₂, hsm, hL⟩
  · obtain ⟨⟨v, rfl⟩, hW₂, e2, q2, q3, q4, q5, q6⟩ := id hfe
    have e3 : s₂ = ({ (U.calling g mk a).setFrames s₂.frames with heap := s₂.heap, slotsUsed := s₂.slotsUsed } : State).setVm s₂.vm := by
      have : s₂ = ({ s₂ with vm := (U.calling g mk a).vm } : State).setVm s₂.vm := rfl
      rw [e2] at this
      exact this
    obtain ⟨c₂, i₂, len₂, hc₂, hd₂, hf₂⟩ := hend
    have hW' : U.WarmedH s₂.vm := hW₂
    have hcc : c₂ = c := by
      have h1 : s₂.code? g.method = U.code? g.method := by
        rw [State.code?_eq, State.code?_eq, hW'.alike.method?]
      exact Option.some.inj (hc₂.symm.trans (h1.trans h.code))
    subst hcc
    have hlen : len₂ = len := by rw [hdg] at hd₂; cases hd₂; rfl
    subst hlen
    have hs₂ : s₂ = (({ U with heap := s₂.heap, slotsUsed := s₂.slotsUsed } : State).setVm s₂.vm).setTop { g with pc := g.pc + len₂, stack := v.toList ++ g.stack } := by
      refine e3.trans ?_
      rw [hf₂, State.calling_eq h.top, State.setFrames_setFrames, State.setTop_of_frames _ hr', hr]
      rfl
    have hsame : U.sameButNew ({ U with heap := s₂.heap, slotsUsed := s₂.slotsUsed } : State) L mc ms := by
      refine ⟨?_, q2, q3, q4, q5, q6⟩
      obtain ⟨t, ht, -⟩ := State.frames_cons hr
      show ({ U with heap := s₂.heap, slotsUsed := s₂.slotsUsed } : State) = { U.setFrames U.frames with heap := s₂.heap, slotsUsed := s₂.slotsUsed }
      rw [State.setFrames_self ht]
    subst hg
    refine Or.inl ⟨v, ⟨(({ U with heap := s₂.heap, slotsUsed := s₂.slotsUsed } : State).setVm s₂.vm), Ls ++ L, c0 + mc, s0 + ms⟩,
      ⟨X.admits, X.cas, X.clock, X.frames, X.room, X.hears, X.method, X.code, (X.here.setHeapUsed s₂.heap s₂.slotsUsed).setVm hW'.alike, X.tail, State.WarmedH.trans X.warmed hW', X.limits, X.bytes, X.same.trans (hsame.setVm s.vm)⟩,
      ⟨g, mk, s₂, L, rfl, rfl, hqc, rfl, hL, rfl, rfl⟩, ?_⟩
    show Steps p.tables e below _ ((({ U with heap := s₂.heap, slotsUsed := s₂.slotsUsed } : State).setVm s₂.vm).setTop { g with pc := g.pc + len₂, stack := v.toList ++ g.stack })
    rw [← hs₂]
    exact hsteps
  · obtain ⟨e2, q2, q3, q4, q5, q6⟩ := id hsm
    have e3 : s₂ = ({ (U.calling g mk a).setFrames s₂.frames with heap := s₂.heap, slotsUsed := s₂.slotsUsed } : State).setVm s₂.vm := by
      have : s₂ = ({ s₂ with vm := (U.calling g mk a).vm } : State).setVm s₂.vm := rfl
      rw [e2] at this
      exact this
    have hf₂ : s₂.frames = .throwing q :: .java g :: U.frames.tail := hend
    have hW' : U.WarmedH s₂.vm := hW₂
    have hs₂ : s₂ = ((({ U with heap := s₂.heap, slotsUsed := s₂.slotsUsed } : State).setVm s₂.vm).setTop g).pushFrame (.throwing q) := by
      refine e3.trans ?_
      rw [hf₂, State.calling_eq h.top, State.setFrames_setFrames, State.pushFrame, State.frames_setTop _ hr', State.setTop_of_frames _ hr', State.setFrames_setFrames, hr]
      rfl
    have hsame : U.sameButNew ({ U with heap := s₂.heap, slotsUsed := s₂.slotsUsed } : State) L mc ms := by
      refine ⟨?_, q2, q3, q4, q5, q6⟩
      obtain ⟨t, ht, -⟩ := State.frames_cons hr
      show ({ U with heap := s₂.heap, slotsUsed := s₂.slotsUsed } : State) = { U.setFrames U.frames with heap := s₂.heap, slotsUsed := s₂.slotsUsed }
      rw [State.setFrames_self ht]
    subst hg
    refine Or.inr ⟨q, ⟨(({ U with heap := s₂.heap, slotsUsed := s₂.slotsUsed } : State).setVm s₂.vm), Ls ++ L, c0 + mc, s0 + ms⟩,
      ⟨X.admits, X.cas, X.clock, X.frames, X.room, X.hears, X.method, X.code, (X.here.setHeapUsed s₂.heap s₂.slotsUsed).setVm hW'.alike, X.tail, State.WarmedH.trans X.warmed hW', X.limits, X.bytes, X.same.trans (hsame.setVm s.vm)⟩,
      ⟨g, mk, s₂, L, E, ce, rfl, rfl, hx, hce, hcv, hcl, rfl, hL, rfl, rfl⟩, ?_⟩
    show Steps p.tables e below _ (((({ U with heap := s₂.heap, slotsUsed := s₂.slotsUsed } : State).setVm s₂.vm).setTop g).pushFrame (.throwing q))
    rw [← hs₂]
    exact hsteps
end
variable {p : Program} {l : Launch} {e : Env} {R : Room} {s : State} {m : MethodId} {args : Array Value} {below : List Frame} {meth : Method} {c : Code} {T : State} {H : Heap} {locs : List Loc} {cells slots : Nat}
theorem vx_callVX (X : Stand p l e R s m args below meth c T locs cells slots) (hexec : p.tables.exec = Jvm.exec) {own C : String} {index : Nat} {y : MethodName} {bytes : ByteArray} {maxL : Nat} {ret : Option FieldType} {hh : List (Nat × Nat × Nat × Nat)}
    (hown : s.vm.findClass own = some m.cls) (hlink : (Cond.methodLink own index y).before args s = true) (hinst : (Cond.instanceMethod y).before args s = true) (hsel : (Cond.selects C y y).before args s = true)
    (hcode : (Cond.codeWith y bytes maxL ret hh).before args s = true) (hy : y.cls ≠ "java/lang/invoke/MethodHandle" ∧ y.cls ≠ "java/lang/invoke/VarHandle")
    {W9 : Nat} {Pre : Pt → Array Value → Prop} {Post : Pt → Array Value → Option Value → Pt → Prop} {PostX : Pt → Array Value → Addr → Pt → Prop} (hK : vx_Back l R p e below s args y 3 W9 Pre Post PostX)
    {b : Addr} {cellB : Cell} (hcell : T.heap[b]? = some cellB) (hobj : cellB.vm.isStatics = false) (hcls : s.vm.findClass C = some cellB.cls)
    {g : JFrame} (hg : g.method = m) (hsize : g.locals.size = c.maxLocals) {argsL rest : List Value} (hlen : ∀ sig, parseMethodDescriptor y.desc = some sig → argsL.length = sig.parameters.length)
    (hstack : g.stack = argsL.reverse ++ .ref b :: rest) (hW : 2 * g.monitorRoom + (rest.map fun v => v.category).sum ≤ W9) (hdg : decode c.code g.pc = .ok (.invokevirtual index, 3))
    (hpre : ∀ vm₁, s.WarmedH vm₁ → Pre ⟨T.setVm vm₁, locs, cells, slots⟩ (Value.ref b :: argsL).toArray) :
    (∃ (v : Option Value) (vm₁ : Vm) (B : Pt), s.WarmedH vm₁ ∧ Stand p l e R s m args below meth c B.U B.locs B.cells B.slots ∧ Post ⟨T.setVm vm₁, locs, cells, slots⟩ (Value.ref b :: argsL).toArray v B ∧
      ∀ target, Steps p.tables e below (B.U.setTop { g with pc := g.pc + 3, stack := v.toList ++ rest }) target → Steps p.tables e below (T.setTop g) target) ∨
    (∃ (q : Addr) (vm₁ : Vm) (B : Pt), s.WarmedH vm₁ ∧ Stand p l e R s m args below meth c B.U B.locs B.cells B.slots ∧ PostX ⟨T.setVm vm₁, locs, cells, slots⟩ (Value.ref b :: argsL).toArray q B ∧
      Steps p.tables e below (T.setTop g) ((B.U.setTop { g with stack := rest }).pushFrame (.throwing q))) := by
  obtain ⟨mk, methM, hnamed, hmethM, hstM, habM⟩ := Cond.instanceMethod_spec hinst
  obtain ⟨m8, methM', cM, hn8, hmethM', -, -, -, -, -, -, hsigM⟩ := Cond.codeWith_spec hcode
  cases Option.some.inj (hn8.symm.trans hnamed)
  cases hmethM.symm.trans hmethM'
  obtain ⟨c2, r2, m2, q1, q2, q3, q4, kP, hkP, hkPi⟩ := Cond.selects_spec hsel
  cases hcls.symm.trans q1
  cases (State.methodFound?_of_named hnamed hy).symm.trans q2
  cases hnamed.symm.trans q3
  have hselP : selectMethod e.platform s.vm cellB.cls mk = .method mk := by rw [Launch.admits_selectMethod X.admits]; exact q4
  obtain ⟨vm₁, X₁, hstep₁⟩ := X.invokevirtual hexec hown hlink hnamed hmethM hstM hkP hkPi hy (a := b) (cell := cellB) hcell
    (fun z h => by rw [h] at hobj; cases hobj) hselP hmethM habM hkP hkPi (g := g) hg (argsL := argsL) (rest := rest) (hlen _ hsigM) hstack hdg
  rcases hK m meth c ⟨T.setVm vm₁, locs, cells, slots⟩ { g with stack := rest } (.invokevirtual index) mk (Value.ref b :: argsL).toArray X₁ hg hsize hdg hW (X₁.named hnamed) (hpre vm₁ X₁.warmed) with ⟨v, B, X', hpost, hsteps⟩ | ⟨q, B, X', hpost, hsteps⟩
  · exact Or.inl ⟨v, vm₁, B, X₁.warmed, X', hpost, fun target h => hstep₁ _ fun acts => by rw [doInvoke_state]; exact hsteps.trans h⟩
  · exact Or.inr ⟨q, vm₁, B, X₁.warmed, X', hpost, hstep₁ _ fun acts => by rw [doInvoke_state]; exact hsteps⟩
theorem vx_callSX (X : Stand p l e R s m args below meth c T locs cells slots) (hexec : p.tables.exec = Jvm.exec) {own : String} {index : Nat} {y : MethodName} {bytes : ByteArray} {maxL : Nat} {ret : Option FieldType} {hh : List (Nat × Nat × Nat × Nat)}
    (hown : s.vm.findClass own = some m.cls) (hlink : (Cond.methodLink own index y).before args s = true) (hstat : (Cond.static y).before args s = true) (hinit : (Cond.initialized y.cls).before args s = true)
    (hcode : (Cond.codeWith y bytes maxL ret hh).before args s = true) (hy : y.cls ≠ "java/lang/invoke/MethodHandle" ∧ y.cls ≠ "java/lang/invoke/VarHandle")
    {W9 : Nat} {Pre : Pt → Array Value → Prop} {Post : Pt → Array Value → Option Value → Pt → Prop} {PostX : Pt → Array Value → Addr → Pt → Prop} (hK : vx_Back l R p e below s args y 3 W9 Pre Post PostX)
    {g : JFrame} (hg : g.method = m) (hsize : g.locals.size = c.maxLocals) {argsL rest : List Value} (hlen : ∀ sig, parseMethodDescriptor y.desc = some sig → argsL.length = sig.parameters.length)
    (hstack : g.stack = argsL.reverse ++ rest) (hW : 2 * g.monitorRoom + (rest.map fun v => v.category).sum ≤ W9) (hdg : decode c.code g.pc = .ok (.invokestatic index, 3))
    (hpre : ∀ vm₁, s.WarmedH vm₁ → Pre ⟨T.setVm vm₁, locs, cells, slots⟩ argsL.toArray) :
    (∃ (v : Option Value) (vm₁ : Vm) (B : Pt), s.WarmedH vm₁ ∧ Stand p l e R s m args below meth c B.U B.locs B.cells B.slots ∧ Post ⟨T.setVm vm₁, locs, cells, slots⟩ argsL.toArray v B ∧
      ∀ target, Steps p.tables e below (B.U.setTop { g with pc := g.pc + 3, stack := v.toList ++ rest }) target → Steps p.tables e below (T.setTop g) target) ∨
    (∃ (q : Addr) (vm₁ : Vm) (B : Pt), s.WarmedH vm₁ ∧ Stand p l e R s m args below meth c B.U B.locs B.cells B.slots ∧ PostX ⟨T.setVm vm₁, locs, cells, slots⟩ argsL.toArray q B ∧
      Steps p.tables e below (T.setTop g) ((B.U.setTop { g with stack := rest }).pushFrame (.throwing q))) := by
  obtain ⟨mk, methM, cM, hnamed, hmethM, -, -, -, -, -, -, hsigM⟩ := Cond.codeWith_spec hcode
  have hstatic : methM.isStatic = true := Cond.static_spec hnamed hmethM hstat
  obtain ⟨kP, hkP, -⟩ := className_of_methodNamed hnamed
  have hinitP : kP.init = .initialized := Cond.initialized_spec (findClass_of_methodNamed hnamed) hkP hinit
  obtain ⟨vm₁, X₁, hstep₁⟩ := X.invokestatic hexec hown hlink hnamed hmethM hstatic hkP hinitP hy (g := g) hg (argsL := argsL) (rest := rest) (hlen _ hsigM) hstack hdg
  rcases hK m meth c ⟨T.setVm vm₁, locs, cells, slots⟩ { g with stack := rest } (.invokestatic index) mk argsL.toArray X₁ hg hsize hdg hW (X₁.named hnamed) (hpre vm₁ X₁.warmed) with ⟨v, B, X', hpost, hsteps⟩ | ⟨q, B, X', hpost, hsteps⟩
  · exact Or.inl ⟨v, vm₁, B, X₁.warmed, X', hpost, fun target h => hstep₁ _ fun acts => by rw [doInvoke_state]; exact hsteps.trans h⟩
  · exact Or.inr ⟨q, vm₁, B, X₁.warmed, X', hpost, hstep₁ _ fun acts => by rw [doInvoke_state]; exact hsteps⟩
theorem vx_callVW (X : Stand p l e R s m args below meth c T locs cells slots) (hexec : p.tables.exec = Jvm.exec) {own C : String} {index : Nat} {y : MethodName} {bytes : ByteArray} {maxL : Nat} {ret : Option FieldType} {hh : List (Nat × Nat × Nat × Nat)}
    (hown : s.vm.findClass own = some m.cls) (hlink : (Cond.methodLink own index y).before args s = true) (hinst : (Cond.instanceMethod y).before args s = true) (hsel : (Cond.selects C y y).before args s = true)
    (hcode : (Cond.codeWith y bytes maxL ret hh).before args s = true) (hy : y.cls ≠ "java/lang/invoke/MethodHandle" ∧ y.cls ≠ "java/lang/invoke/VarHandle")
    {W9 : Nat} {Pre : Pt → Array Value → Prop} {Post : Pt → Array Value → Option Value → Pt → Prop} (hK : Back l R p e below s args y 3 W9 Pre Post)
    {b : Addr} {cellB : Cell} (hcell : T.heap[b]? = some cellB) (hobj : cellB.vm.isStatics = false) (hcls : s.vm.findClass C = some cellB.cls)
    {g : JFrame} (hg : g.method = m) (hsize : g.locals.size = c.maxLocals) {argsL rest : List Value} (hlen : ∀ sig, parseMethodDescriptor y.desc = some sig → argsL.length = sig.parameters.length)
    (hstack : g.stack = argsL.reverse ++ .ref b :: rest) (hW : 2 * g.monitorRoom + (rest.map fun v => v.category).sum ≤ W9) (hdg : decode c.code g.pc = .ok (.invokevirtual index, 3))
    (hpre : ∀ vm₁, s.WarmedH vm₁ → Pre ⟨T.setVm vm₁, locs, cells, slots⟩ (Value.ref b :: argsL).toArray) :
    ∃ (v : Option Value) (vm₁ : Vm) (B : Pt), s.WarmedH vm₁ ∧ Stand p l e R s m args below meth c B.U B.locs B.cells B.slots ∧ Post ⟨T.setVm vm₁, locs, cells, slots⟩ (Value.ref b :: argsL).toArray v B ∧
      ∀ target, Steps p.tables e below (B.U.setTop { g with pc := g.pc + 3, stack := v.toList ++ rest }) target → Steps p.tables e below (T.setTop g) target := by
  obtain ⟨mk, methM, hnamed, hmethM, hstM, habM⟩ := Cond.instanceMethod_spec hinst
  obtain ⟨m8, methM', cM, hn8, hmethM', -, -, -, -, -, -, hsigM⟩ := Cond.codeWith_spec hcode
  cases Option.some.inj (hn8.symm.trans hnamed)
  cases hmethM.symm.trans hmethM'
  obtain ⟨c2, r2, m2, q1, q2, q3, q4, kP, hkP, hkPi⟩ := Cond.selects_spec hsel
  cases hcls.symm.trans q1
  cases (State.methodFound?_of_named hnamed hy).symm.trans q2
  cases hnamed.symm.trans q3
  have hselP : selectMethod e.platform s.vm cellB.cls mk = .method mk := by rw [Launch.admits_selectMethod X.admits]; exact q4
  obtain ⟨vm₁, X₁, hstep₁⟩ := X.invokevirtual hexec hown hlink hnamed hmethM hstM hkP hkPi hy (a := b) (cell := cellB) hcell
    (fun z h => by rw [h] at hobj; cases hobj) hselP hmethM habM hkP hkPi (g := g) hg (argsL := argsL) (rest := rest) (hlen _ hsigM) hstack hdg
  obtain ⟨v, B, X', hpost, hsteps⟩ := hK m meth c ⟨T.setVm vm₁, locs, cells, slots⟩ { g with stack := rest } (.invokevirtual index) mk (Value.ref b :: argsL).toArray X₁ hg hsize hdg hW (X₁.named hnamed) (hpre vm₁ X₁.warmed)
  exact ⟨v, vm₁, B, X₁.warmed, X', hpost, fun target h => hstep₁ _ fun acts => by rw [doInvoke_state]; exact hsteps.trans h⟩
abbrev vx_CVW (R : Room) (s : State) (args : Array Value) (own C : String) (index : Nat) (y : MethodName) (bytes : ByteArray) (maxL : Nat) (ret : Option FieldType) (hh : List (Nat × Nat × Nat × Nat)) (ws : List Cond) (rm : Room) (mc ms n : Nat) : Prop :=
  (rm.cells = mc ∧ rm.slots = ms ∧ rm.frames + 1 ≤ R.frames ∧ 8 + (maxL + 11) + rm.locals ≤ R.locals ∧ (∀ w ∈ ws, ∀ (a' : Array Value) (U : State), s.WarmedH U.vm → w.before a' U = true) ∧ Cond.codeWith y bytes maxL ret hh ∈ ws) ∧
  (Cond.codeWith y bytes maxL ret hh).before args s = true ∧ (Cond.initialized y.cls).before args s = true ∧ (y.cls ≠ "java/lang/invoke/MethodHandle" ∧ y.cls ≠ "java/lang/invoke/VarHandle") ∧
  (∀ sig, parseMethodDescriptor y.desc = some sig → n = sig.parameters.length) ∧ (Cond.methodLink own index y).before args s = true ∧ (Cond.instanceMethod y).before args s = true ∧ (Cond.selects C y y).before args s = true
theorem vx_cwVW {own C : String} {index maxL mc ms : Nat} {y : MethodName} {bytes : ByteArray} {ret : Option FieldType} {hh : List (Nat × Nat × Nat × Nat)} {Ts ws ws' : List Cond} {rm : Room} (n : Nat) (ht : ∀ w ∈ Ts, w.before args s = true) (hT : GoodIn Ts (wsV own index C y ws)) (hw : ws = Cond.codeWith y bytes maxL ret hh :: ws') (hrc : rm.cells = mc) (hrs : rm.slots = ms)
    (hd : y.cls = C ∧ y.cls ≠ "java/lang/invoke/MethodHandle" ∧ y.cls ≠ "java/lang/invoke/VarHandle" ∧ (parseMethodDescriptor y.desc).map (fun d => d.parameters.length) = some n) (hR : rm.frames + 1 ≤ R.frames ∧ 8 + (maxL + 11) + rm.locals ≤ R.locals) :
    vx_CVW R s args own C index y bytes maxL ret hh ws rm mc ms n := by
  obtain ⟨hC, hd⟩ := hd
  subst hC
  have ok : ∀ w ∈ wsV own index y.cls y ws, w.before args s = true := fun w h => ht w (hT w h).1
  have hG : GoodIn Ts ws := fun w h => hT w (by unfold wsV; exact List.mem_append_right _ h)
  have hc : Cond.codeWith y bytes maxL ret hh ∈ ws := by rw [hw]; exact List.mem_cons_self
  refine ⟨⟨hrc, hrs, hR.1, hR.2, pay_in ht hG, hc⟩, ht _ (hG _ hc).1, ok _ (by simp [wsV]), ⟨hd.1, hd.2.1⟩, fun sig h => ?_, ok _ (by simp [wsV]), ok _ (by simp [wsV]), ok _ (by simp [wsV])⟩
  have h2 := hd.2.2
  rw [h] at h2
  exact (Option.some.inj h2).symm
theorem vx_runVW {y : MethodName} {bytes cc : ByteArray} {maxL nL mc ms n index : Nat} {ret : Option FieldType} {hh : List (Nat × Nat × Nat × Nat)} {ws : List Cond} {rm : Room} {Pc : Array Value → State → Prop} {Qc : Array Value → State → Outcome → State → Prop} {free : Addr → Prop} {Ts : List Cond} {own C : String} {b : Addr} {As rest : List Value} {g : JFrame}
    (S : CallFix p m c cc nL s args Ts own) (hM : Met l y ws rm Pc Qc mc ms free) (cw : vx_CVW R s args own C index y bytes maxL ret hh ws rm mc ms n) (hp : PreV s H C b Pc As)
    (hg : g.method = m) (hn : As.length = n) (hsize : g.locals.size = nL) (hstack : g.stack = As.reverse ++ .ref b :: rest) (hW : 2 * g.monitorRoom + (rest.map fun v => v.category).sum ≤ 8) (hdg : decode cc g.pc = .ok (.invokevirtual index, 3)) (hf : cells + mc ≤ R.cells ∧ slots + ms ≤ R.slots) :
    va_Run p l e R s m args below meth c H locs cells slots mc ms g rest (Qc (Value.ref b :: As).toArray) free := by
  obtain ⟨⟨hrc, hrs, hfr, hlo, hws, hcw⟩, hcode, hini, hy, hlen, hl, hin, hse⟩ := cw
  have hK : Back l R p e below s args y 3 8 (PreOf R mc ms Pc) (PostOf Qc mc ms free) := va_backW (hh := hh) (bytes := bytes) (maxL := maxL) (ret := ret) hM hp.1 hrc hrs hfr hlo hws hcw (fun a' U hW => word_at hW (Or.inl (by first | rfl | simp [Cond.onTables, Cond.keeps, Cond.steady])) hini)
  obtain ⟨hx, hb, hml, ho, -⟩ := S
  obtain ⟨-, ⟨cellB, hcB, hoB, hclB⟩, hPc⟩ := hp
  intro T hT X
  obtain ⟨v, vm₁, ⟨U', l2, c2, s2⟩, hW₁, X', ⟨g', mk, t, L, e1, e2, hq, h1, hL, h2, h3⟩, st⟩ := vx_callVW X hx (C := C) (hh := hh) (bytes := bytes) (maxL := maxL) (ret := ret) ho hl hin hse hcode hy hK (by rw [hT]; exact hcB) hoB hclB hg (hsize.trans hml.symm) (argsL := As) (rest := rest) (fun sig h => hn.trans (hlen sig h)) hstack hW (by rw [hb]; exact hdg)
    (fun vm₁ hW₁ => ⟨hf.1, hf.2, hPc (T.setVm vm₁) hT hW₁⟩)
  dsimp only [Pt.U, Pt.locs, Pt.cells, Pt.slots] at X' e1 e2 h1 h2 h3 st
  subst h1; subst h2; subst h3
  exact ⟨v, (T.setVm vm₁).calling g' mk (Value.ref b :: As).toArray, t, U', L, hT, X', hL, e1, e2, hq, st⟩
section
variable {y : MethodName} {bytes cc : ByteArray} {maxL nL mc ms n index : Nat} {ret : Option FieldType} {ws : List Cond} {rm : Room} {Pc : Array Value → State → Prop} {Qc : Array Value → State → Outcome → State → Prop} {XC : String → State → State → Prop} {free : Addr → Prop} {Ts : List Cond} {own C : String} {b : Addr} {As rest : List Value} {g : JFrame}
theorem vx_runVX {hh : List (Nat × Nat × Nat × Nat)} (S : CallFix p m c cc nL s args Ts own) (hM : vx_Met l y ws rm Pc Qc XC mc ms free) (cw : vx_CVW R s args own C index y bytes maxL ret hh ws rm mc ms n) (hp : PreV s H C b Pc As)
    (hg : g.method = m) (hn : As.length = n) (hsize : g.locals.size = nL) (hstack : g.stack = As.reverse ++ .ref b :: rest) (hW : 2 * g.monitorRoom + (rest.map fun v => v.category).sum ≤ 8) (hdg : decode cc g.pc = .ok (.invokevirtual index, 3)) (hf : cells + mc ≤ R.cells ∧ slots + ms ≤ R.slots) :
    vx_Run p l e R s m args below meth c H locs cells slots mc ms g rest (Qc (Value.ref b :: As).toArray) XC free := by
  obtain ⟨⟨hrc, hrs, hfr, hlo, hws, hcw⟩, hcode, hini, hy, hlen, hl, hin, hse⟩ := cw
  have hK : vx_Back l R p e below s args y 3 8 (PreOf R mc ms Pc) (PostOf Qc mc ms free) (vx_Post XC mc ms free) := vx_backW (hh := hh) (bytes := bytes) (maxL := maxL) (ret := ret) hM hp.1 hrc hrs hfr hlo hws hcw (fun a' U hW => word_at hW (Or.inl (by first | rfl | simp [Cond.onTables, Cond.keeps, Cond.steady])) hini)
  obtain ⟨hx, hb, hml, ho, -⟩ := S
  obtain ⟨-, ⟨cellB, hcB, hoB, hclB⟩, hPc⟩ := hp
  intro T hT X
  rcases vx_callVX X hx (C := C) (hh := hh) (bytes := bytes) (maxL := maxL) (ret := ret) ho hl hin hse hcode hy hK (by rw [hT]; exact hcB) hoB hclB hg (hsize.trans hml.symm) (argsL := As) (rest := rest) (fun sig h => hn.trans (hlen sig h)) hstack hW (by rw [hb]; exact hdg)
    (fun vm₁ hW₁ => ⟨hf.1, hf.2, hPc (T.setVm vm₁) hT hW₁⟩) with ⟨v, vm₁, ⟨U', l2, c2, s2⟩, hW₁, X', ⟨g', mk, t, L, e1, e2, hq, h1, hL, h2, h3⟩, st⟩ | ⟨q, vm₁, ⟨U', l2, c2, s2⟩, hW₁, X', ⟨g', mk, t, L, E, ce, e1, e2, hq, hce, hcv, hcl, h1, hL, h2, h3⟩, st⟩
  · dsimp only [Pt.U, Pt.locs, Pt.cells, Pt.slots] at X' e1 e2 h1 h2 h3 st
    subst h1; subst h2; subst h3
    exact Or.inl ⟨v, (T.setVm vm₁).calling g' mk (Value.ref b :: As).toArray, t, U', L, hT, X', hL, e1, e2, hq, st⟩
  · dsimp only [Pt.U, Pt.locs, Pt.cells, Pt.slots] at X' e1 e2 h1 h2 h3 st hcl
    subst h1; subst h2; subst h3
    exact Or.inr ⟨q, (T.setVm vm₁).calling g' mk (Value.ref b :: As).toArray, t, U', L, E, ce, hT, X', hL, e1, e2, hq, hce, hcv, vx_cls hW₁ hcl, st⟩
theorem vx_runSX {hh : List (Nat × Nat × Nat × Nat)} (S : CallFix p m c cc nL s args Ts own) (hM : vx_Met l y ws rm Pc Qc XC mc ms free) (cw : vx_CSW R s args own index y bytes maxL ret hh ws rm mc ms n) (hp : PreS s H Pc As)
    (hg : g.method = m) (hn : As.length = n) (hsize : g.locals.size = nL) (hstack : g.stack = As.reverse ++ rest) (hW : 2 * g.monitorRoom + (rest.map fun v => v.category).sum ≤ 8) (hdg : decode cc g.pc = .ok (.invokestatic index, 3)) (hf : cells + mc ≤ R.cells ∧ slots + ms ≤ R.slots) :
    vx_Run p l e R s m args below meth c H locs cells slots mc ms g rest (Qc As.toArray) XC free := by
  obtain ⟨⟨hrc, hrs, hfr, hlo, hws, hcw⟩, hcode, hini, hy, hlen, hl, hstt⟩ := cw
  have hK : vx_Back l R p e below s args y 3 8 (PreOf R mc ms Pc) (PostOf Qc mc ms free) (vx_Post XC mc ms free) := vx_backW (hh := hh) (bytes := bytes) (maxL := maxL) (ret := ret) hM hp.1 hrc hrs hfr hlo hws hcw (fun a' U hW => word_at hW (Or.inl (by first | rfl | simp [Cond.onTables, Cond.keeps, Cond.steady])) hini)
  obtain ⟨hx, hb, hml, ho, -⟩ := S
  intro T hT X
  rcases vx_callSX X hx (hh := hh) (bytes := bytes) (maxL := maxL) (ret := ret) ho hl hstt hini hcode hy hK hg (hsize.trans hml.symm) (argsL := As) (rest := rest) (fun sig h => hn.trans (hlen sig h)) hstack hW (by rw [hb]; exact hdg)
    (fun vm₁ hW₁ => ⟨hf.1, hf.2, hp.2 (T.setVm vm₁) hT hW₁⟩) with ⟨v, vm₁, ⟨U', l2, c2, s2⟩, hW₁, X', ⟨g', mk, t, L, e1, e2, hq, h1, hL, h2, h3⟩, st⟩ | ⟨q, vm₁, ⟨U', l2, c2, s2⟩, hW₁, X', ⟨g', mk, t, L, E, ce, e1, e2, hq, hce, hcv, hcl, h1, hL, h2, h3⟩, st⟩
  · dsimp only [Pt.U, Pt.locs, Pt.cells, Pt.slots] at X' e1 e2 h1 h2 h3 st
    subst h1; subst h2; subst h3
    exact Or.inl ⟨v, (T.setVm vm₁).calling g' mk As.toArray, t, U', L, hT, X', hL, e1, e2, hq, st⟩
  · dsimp only [Pt.U, Pt.locs, Pt.cells, Pt.slots] at X' e1 e2 h1 h2 h3 st hcl
    subst h1; subst h2; subst h3
    exact Or.inr ⟨q, (T.setVm vm₁).calling g' mk As.toArray, t, U', L, E, ce, hT, X', hL, e1, e2, hq, hce, hcv, vx_cls hW₁ hcl, st⟩
end
end VXH
theorem vx_ofWH {l : Launch} {y : MethodName} {ws ws' : List Cond} {rm : Room} {Pc : Array Value → State → Prop} {Qc : Array Value → State → Outcome → State → Prop} {XC : String → State → State → Prop} {mc ms : Nat} {free : Addr → Prop} {cc : ByteArray} {maxL : Nat} {ret : Option FieldType} {hh : List (Nat × Nat × Nat × Nat)}
    (hy : plainName y.cls = true) (hw : ws = Cond.codeWith y cc maxL ret hh :: ws')
    (body : ∀ p e s m args below meth c s₁, BodyLoose p l y (headSpec ws rm) cc maxL ret e s m args below meth c s₁ → c.maxLocals = maxL → Pc args s →
      W p l e (headSpec ws rm).room s m args below meth c s.heap [] 0 0 (vx_MQ below Qc XC args s mc ms free) (entryFrame m args maxL)) : vx_Met l y ws rm Pc Qc XC mc ms free := by
  refine MetFree.of_bodyS (code := cc) (maxLocals := maxL) (ret := ret) hy ?_ ?_
  · intro args s m h hn
    obtain ⟨m9, meth, c, hn9, h1, h2, h3, h4, -, h5, h6, -⟩ := Cond.codeWith_spec (atoms_spec (ws := ws) h _ (by rw [hw]; exact List.mem_cons_self))
    cases hn.symm.trans hn9
    exact ⟨meth, c, h1, h2, h3, h4, h5, h6⟩
  · intro p e s m args below meth c s₁ B hml hP _
    have hh0 : s₁.heap = s.heap := by rw [B.state]; rfl
    obtain ⟨t, a1, o, b1, b2, b3⟩ := body p e s m args below meth c s₁ B hml hP s₁ hh0 (Stand.of_body B)
    exact ⟨t, o, a1, b1, b2, b3⟩
/-! ===== END ===== -/

def RX0 : String := "BenchComposer$Court"
def TX0 : u_T := fun k => match k with
  | 0 => ("BenchComposer$Court", "told", "LBenchComposer$Told;", true)
  | 1 => ("BenchComposer$Court", "docket", "LBenchComposer$Docket;", true)
  | 2 => ("BenchComposer$Court", "found", "LBenchComposer$Found;", true)
  | 3 => ("BenchComposer$Court", "pairs", "[I", true)
  | 4 => ("BenchComposer$Court", "loads", "[I", true)
  | 5 => ("BenchComposer$Court", "benches", "[I", true)
  | 6 => ("BenchComposer$Court", "tensions", "[I", true)
  | 7 => ("BenchComposer$Court", "listed", "I", false)
  | 8 => ("BenchComposer$Court", "pooled", "I", false)
  | _ => ("BenchComposer$Court", "poolWorst", "I", false)
def tyX0 : Nat → FieldType := fun k => match k with
  | 0 => .object "BenchComposer$Told"
  | 1 => .object "BenchComposer$Docket"
  | 2 => .object "BenchComposer$Found"
  | 3 => .array .int
  | 4 => .array .int
  | 5 => .array .int
  | 6 => .array .int
  | 7 => .int
  | 8 => .int
  | _ => .int
abbrev wsX00 : List Cond := u_ws RX0 TX0 10
theorem nmX0 : ∀ a, a < 10 → ∀ b, b < 10 → a ≠ b → (TX0 a).2.1 ≠ (TX0 b).2.1 := by decide +kernel
theorem tyX0_ok : ∀ k, k < 10 → parseFieldDescriptor (TX0 k).2.2.1 = some (tyX0 k) := by decide +kernel
abbrev cX0_init : ByteArray := prog_2_method_1_code
def yX0_init : MethodName := ⟨RX0, "<init>", "(LBenchComposer$Told;)V"⟩
abbrev cX0_begin : ByteArray := prog_2_method_2_code
def yX0_begin : MethodName := ⟨RX0, "begin", "()V"⟩
abbrev cX0_isSet : ByteArray := prog_2_method_3_code
def yX0_isSet : MethodName := ⟨RX0, "isSet", "(I)Z"⟩
abbrev cX0_casesAt : ByteArray := prog_2_method_4_code
def yX0_casesAt : MethodName := ⟨RX0, "casesAt", "(I)I"⟩
abbrev cX0_benchesOf : ByteArray := prog_2_method_5_code
def yX0_benchesOf : MethodName := ⟨RX0, "benchesOf", "(I)I"⟩
abbrev cX0_benchesLedBy : ByteArray := prog_2_method_6_code
def yX0_benchesLedBy : MethodName := ⟨RX0, "benchesLedBy", "(I)I"⟩
abbrev cX0_casesBarredTo : ByteArray := prog_2_method_7_code
def yX0_casesBarredTo : MethodName := ⟨RX0, "casesBarredTo", "(I)I"⟩
abbrev cX0_countBenches : ByteArray := prog_2_method_8_code
def yX0_countBenches : MethodName := ⟨RX0, "countBenches", "(I)V"⟩
abbrev cX0_countBench : ByteArray := prog_2_method_9_code
def yX0_countBench : MethodName := ⟨RX0, "countBench", "(III)V"⟩
abbrev cX0_tensionOf : ByteArray := prog_2_method_10_code
def yX0_tensionOf : MethodName := ⟨RX0, "tensionOf", "(I)I"⟩
abbrev cX0_pairsBehind : ByteArray := prog_2_method_11_code
def yX0_pairsBehind : MethodName := ⟨RX0, "pairsBehind", "(II)I"⟩
abbrev cX0_spreadOfPairs : ByteArray := prog_2_method_12_code
def yX0_spreadOfPairs : MethodName := ⟨RX0, "spreadOfPairs", "()I"⟩
abbrev cX0_spreadOfLoads : ByteArray := prog_2_method_13_code
def yX0_spreadOfLoads : MethodName := ⟨RX0, "spreadOfLoads", "()I"⟩
abbrev cX0_evennessCounted : ByteArray := prog_2_method_14_code
def yX0_evennessCounted : MethodName := ⟨RX0, "evennessCounted", "()I"⟩
abbrev cX0_isLawful : ByteArray := prog_2_method_15_code
def yX0_isLawful : MethodName := ⟨RX0, "isLawful", "(II)Z"⟩
abbrev cX0_listLawful : ByteArray := prog_2_method_16_code
def yX0_listLawful : MethodName := ⟨RX0, "listLawful", "(I)V"⟩
abbrev cX0_listThirds : ByteArray := prog_2_method_17_code
def yX0_listThirds : MethodName := ⟨RX0, "listThirds", "(III)V"⟩
abbrev cX0_placeListed : ByteArray := prog_2_method_18_code
def yX0_placeListed : MethodName := ⟨RX0, "placeListed", "(I)I"⟩
abbrev cX0_gatherPool : ByteArray := prog_2_method_19_code
def yX0_gatherPool : MethodName := ⟨RX0, "gatherPool", "(I)V"⟩
abbrev cX0_leastTensionAbove : ByteArray := prog_2_method_20_code
def yX0_leastTensionAbove : MethodName := ⟨RX0, "leastTensionAbove", "(I)I"⟩
abbrev cX0_countListedAt : ByteArray := prog_2_method_21_code
def yX0_countListedAt : MethodName := ⟨RX0, "countListedAt", "(I)I"⟩
abbrev cX0_pooledWith : ByteArray := prog_2_method_22_code
def yX0_pooledWith : MethodName := ⟨RX0, "pooledWith", "(I)I"⟩
abbrev cX0_pooledAt : ByteArray := prog_2_method_23_code
def yX0_pooledAt : MethodName := ⟨RX0, "pooledAt", "(I)I"⟩
abbrev cX0_drawOne : ByteArray := prog_2_method_24_code
def yX0_drawOne : MethodName := ⟨RX0, "drawOne", "(I)I"⟩
abbrev cX0_drawEveryOpen : ByteArray := prog_2_method_25_code
def yX0_drawEveryOpen : MethodName := ⟨RX0, "drawEveryOpen", "()I"⟩
abbrev cX0_repair : ByteArray := prog_2_method_26_code
def yX0_repair : MethodName := ⟨RX0, "repair", "(II)I"⟩
abbrev cX0_repairAllOf : ByteArray := prog_2_method_27_code
def yX0_repairAllOf : MethodName := ⟨RX0, "repairAllOf", "(I)I"⟩
abbrev cX0_mayExchange : ByteArray := prog_2_method_28_code
def yX0_mayExchange : MethodName := ⟨RX0, "mayExchange", "(IIII)Z"⟩
abbrev cX0_changePlaces : ByteArray := prog_2_method_29_code
def yX0_changePlaces : MethodName := ⟨RX0, "changePlaces", "(IIII)V"⟩
abbrev cX0_swapped : ByteArray := prog_2_method_30_code
def yX0_swapped : MethodName := ⟨RX0, "swapped", "(III)I"⟩
abbrev cX0_findBetter : ByteArray := prog_2_method_31_code
def yX0_findBetter : MethodName := ⟨RX0, "findBetter", "()Z"⟩
abbrev cX0_findBetterFor : ByteArray := prog_2_method_32_code
def yX0_findBetterFor : MethodName := ⟨RX0, "findBetterFor", "(II)Z"⟩
abbrev cX0_keepFound : ByteArray := prog_2_method_33_code
def yX0_keepFound : MethodName := ⟨RX0, "keepFound", "(IIIII)V"⟩
abbrev cX0_gainOf : ByteArray := prog_2_method_34_code
def yX0_gainOf : MethodName := ⟨RX0, "gainOf", "(IIII)I"⟩
abbrev cX0_movePairs : ByteArray := prog_2_method_35_code
def yX0_movePairs : MethodName := ⟨RX0, "movePairs", "(III)I"⟩
def RX1 : String := "BenchComposer$Docket"
def TX1 : u_T := fun k => match k with
  | 0 => ("BenchComposer$Docket", "seed", "I", false)
  | 1 => ("BenchComposer$Docket", "away", "I", false)
  | 2 => ("BenchComposer$Docket", "stage", "[I", true)
  | 3 => ("BenchComposer$Docket", "sitting", "[I", true)
  | _ => ("BenchComposer$Docket", "barred", "[I", true)
def tyX1 : Nat → FieldType := fun k => match k with
  | 0 => .int
  | 1 => .int
  | 2 => .array .int
  | 3 => .array .int
  | _ => .array .int
abbrev wsX10 : List Cond := u_ws RX1 TX1 5
theorem nmX1 : ∀ a, a < 5 → ∀ b, b < 5 → a ≠ b → (TX1 a).2.1 ≠ (TX1 b).2.1 := by decide +kernel
theorem tyX1_ok : ∀ k, k < 5 → parseFieldDescriptor (TX1 k).2.2.1 = some (tyX1 k) := by decide +kernel
abbrev cX1_init : ByteArray := prog_3_method_1_code
def yX1_init : MethodName := ⟨RX1, "<init>", "()V"⟩
abbrev cX1_begin : ByteArray := prog_3_method_2_code
def yX1_begin : MethodName := ⟨RX1, "begin", "(LBenchComposer$Told;)V"⟩
abbrev cX1_become : ByteArray := prog_3_method_3_code
def yX1_become : MethodName := ⟨RX1, "become", "(LBenchComposer$Docket;)V"⟩
def RX2 : String := "BenchComposer$Found"
def TX2 : u_T := fun k => match k with
  | 0 => ("BenchComposer$Found", "a", "I", false)
  | 1 => ("BenchComposer$Found", "x", "I", false)
  | 2 => ("BenchComposer$Found", "b", "I", false)
  | 3 => ("BenchComposer$Found", "y", "I", false)
  | _ => ("BenchComposer$Found", "gain", "I", false)
def tyX2 : Nat → FieldType := fun k => match k with
  | 0 => .int
  | 1 => .int
  | 2 => .int
  | 3 => .int
  | _ => .int
abbrev wsX20 : List Cond := u_ws RX2 TX2 5
theorem nmX2 : ∀ a, a < 5 → ∀ b, b < 5 → a ≠ b → (TX2 a).2.1 ≠ (TX2 b).2.1 := by decide +kernel
theorem tyX2_ok : ∀ k, k < 5 → parseFieldDescriptor (TX2 k).2.2.1 = some (tyX2 k) := by decide +kernel
abbrev cX2_init : ByteArray := prog_4_method_1_code
def yX2_init : MethodName := ⟨RX2, "<init>", "()V"⟩
def RX3 : String := "BenchComposer$History"
def TX3 : u_T := fun k => match k with
  | 0 => ("BenchComposer$History", "rows", "[LBenchComposer$Docket;", true)
  | 1 => ("BenchComposer$History", "next", "I", false)
  | _ => ("BenchComposer$History", "count", "I", false)
def tyX3 : Nat → FieldType := fun k => match k with
  | 0 => .array (.object "BenchComposer$Docket")
  | 1 => .int
  | _ => .int
abbrev wsX30 : List Cond := u_ws RX3 TX3 3
theorem nmX3 : ∀ a, a < 3 → ∀ b, b < 3 → a ≠ b → (TX3 a).2.1 ≠ (TX3 b).2.1 := by decide +kernel
theorem tyX3_ok : ∀ k, k < 3 → parseFieldDescriptor (TX3 k).2.2.1 = some (tyX3 k) := by decide +kernel
abbrev cX3_init : ByteArray := prog_5_method_1_code
def yX3_init : MethodName := ⟨RX3, "<init>", "()V"⟩
abbrev cX3_forget : ByteArray := prog_5_method_2_code
def yX3_forget : MethodName := ⟨RX3, "forget", "()V"⟩
abbrev cX3_prepare : ByteArray := prog_5_method_3_code
def yX3_prepare : MethodName := ⟨RX3, "prepare", "(LBenchComposer$Docket;)V"⟩
abbrev cX3_keepPrepared : ByteArray := prog_5_method_4_code
def yX3_keepPrepared : MethodName := ⟨RX3, "keepPrepared", "()V"⟩
abbrev cX3_giveBack : ByteArray := prog_5_method_5_code
def yX3_giveBack : MethodName := ⟨RX3, "giveBack", "(LBenchComposer$Docket;)V"⟩
def RX4 : String := "BenchComposer$Reader"
def TX4 : u_T := fun k => match k with
  | 0 => ("BenchComposer$Reader", "tape", "LBenchComposer$Tape;", true)
  | 1 => ("BenchComposer$Reader", "draft", "LBenchComposer$Told;", true)
  | 2 => ("BenchComposer$Reader", "fault", "I", false)
  | 3 => ("BenchComposer$Reader", "lines", "I", false)
  | 4 => ("BenchComposer$Reader", "start", "I", false)
  | 5 => ("BenchComposer$Reader", "at", "I", false)
  | 6 => ("BenchComposer$Reader", "kind", "I", false)
  | 7 => ("BenchComposer$Reader", "value", "I", false)
  | _ => ("BenchComposer$Reader", "seniorTold", "Z", false)
def tyX4 : Nat → FieldType := fun k => match k with
  | 0 => .object "BenchComposer$Tape"
  | 1 => .object "BenchComposer$Told"
  | 2 => .int
  | 3 => .int
  | 4 => .int
  | 5 => .int
  | 6 => .int
  | 7 => .int
  | _ => .boolean
abbrev wsX40 : List Cond := u_ws RX4 TX4 9
theorem nmX4 : ∀ a, a < 9 → ∀ b, b < 9 → a ≠ b → (TX4 a).2.1 ≠ (TX4 b).2.1 := by decide +kernel
theorem tyX4_ok : ∀ k, k < 9 → parseFieldDescriptor (TX4 k).2.2.1 = some (tyX4 k) := by decide +kernel
abbrev cX4_init : ByteArray := prog_6_method_1_code
def yX4_init : MethodName := ⟨RX4, "<init>", "(LBenchComposer$Tape;)V"⟩
abbrev cX4_read : ByteArray := prog_6_method_2_code
def yX4_read : MethodName := ⟨RX4, "read", "()Z"⟩
abbrev cX4_readLine : ByteArray := prog_6_method_3_code
def yX4_readLine : MethodName := ⟨RX4, "readLine", "()V"⟩
abbrev cX4_readCourt : ByteArray := prog_6_method_4_code
def yX4_readCourt : MethodName := ⟨RX4, "readCourt", "()V"⟩
abbrev cX4_readJudge : ByteArray := prog_6_method_5_code
def yX4_readJudge : MethodName := ⟨RX4, "readJudge", "()V"⟩
abbrev cX4_readSenior : ByteArray := prog_6_method_6_code
def yX4_readSenior : MethodName := ⟨RX4, "readSenior", "()V"⟩
abbrev cX4_readCase : ByteArray := prog_6_method_7_code
def yX4_readCase : MethodName := ⟨RX4, "readCase", "()V"⟩
abbrev cX4_takeBarred : ByteArray := prog_6_method_8_code
def yX4_takeBarred : MethodName := ⟨RX4, "takeBarred", "()I"⟩
abbrev cX4_takeNumber : ByteArray := prog_6_method_9_code
def yX4_takeNumber : MethodName := ⟨RX4, "takeNumber", "(II)I"⟩
abbrev cX4_takeSign : ByteArray := prog_6_method_10_code
def yX4_takeSign : MethodName := ⟨RX4, "takeSign", "()V"⟩
abbrev cX4_isWord : ByteArray := prog_6_method_11_code
def yX4_isWord : MethodName := ⟨RX4, "isWord", "(Ljava/lang/String;)Z"⟩
abbrev cX4_step : ByteArray := prog_6_method_12_code
def yX4_step : MethodName := ⟨RX4, "step", "()V"⟩
abbrev cX4_isBlank : ByteArray := prog_6_method_13_code
def yX4_isBlank : MethodName := ⟨RX4, "isBlank", "(I)Z"⟩
abbrev cX4_isSmallOrDigit : ByteArray := prog_6_method_14_code
def yX4_isSmallOrDigit : MethodName := ⟨RX4, "isSmallOrDigit", "(I)Z"⟩
def RX5 : String := "BenchComposer$Tape"
def TX5 : u_T := fun k => match k with
  | 0 => ("BenchComposer$Tape", "bytes", "[B", true)
  | _ => ("BenchComposer$Tape", "length", "I", false)
def tyX5 : Nat → FieldType := fun k => match k with
  | 0 => .array .byte
  | _ => .int
abbrev wsX50 : List Cond := u_ws RX5 TX5 2
theorem nmX5 : ∀ a, a < 2 → ∀ b, b < 2 → a ≠ b → (TX5 a).2.1 ≠ (TX5 b).2.1 := by decide +kernel
theorem tyX5_ok : ∀ k, k < 2 → parseFieldDescriptor (TX5 k).2.2.1 = some (tyX5 k) := by decide +kernel
abbrev cX5_init : ByteArray := prog_7_method_1_code
def yX5_init : MethodName := ⟨RX5, "<init>", "()V"⟩
abbrev cX5_put : ByteArray := prog_7_method_2_code
def yX5_put : MethodName := ⟨RX5, "put", "(I)V"⟩
def RX6 : String := "BenchComposer$Told"
def TX6 : u_T := fun k => match k with
  | 0 => ("BenchComposer$Told", "seed", "I", false)
  | 1 => ("BenchComposer$Told", "unsure", "I", false)
  | 2 => ("BenchComposer$Told", "even", "I", false)
  | 3 => ("BenchComposer$Told", "loaded", "I", false)
  | 4 => ("BenchComposer$Told", "chair", "I", false)
  | 5 => ("BenchComposer$Told", "leastSenior", "I", false)
  | 6 => ("BenchComposer$Told", "judges", "I", false)
  | 7 => ("BenchComposer$Told", "cases", "I", false)
  | 8 => ("BenchComposer$Told", "seniors", "I", false)
  | 9 => ("BenchComposer$Told", "seniority", "[I", true)
  | 10 => ("BenchComposer$Told", "weight", "[I", true)
  | _ => ("BenchComposer$Told", "barred", "[I", true)
def tyX6 : Nat → FieldType := fun k => match k with
  | 0 => .int
  | 1 => .int
  | 2 => .int
  | 3 => .int
  | 4 => .int
  | 5 => .int
  | 6 => .int
  | 7 => .int
  | 8 => .int
  | 9 => .array .int
  | 10 => .array .int
  | _ => .array .int
abbrev wsX60 : List Cond := u_ws RX6 TX6 12
theorem nmX6 : ∀ a, a < 12 → ∀ b, b < 12 → a ≠ b → (TX6 a).2.1 ≠ (TX6 b).2.1 := by decide +kernel
theorem tyX6_ok : ∀ k, k < 12 → parseFieldDescriptor (TX6 k).2.2.1 = some (tyX6 k) := by decide +kernel
abbrev cX6_init : ByteArray := prog_8_method_1_code
def yX6_init : MethodName := ⟨RX6, "<init>", "()V"⟩
abbrev cX6_clear : ByteArray := prog_8_method_2_code
def yX6_clear : MethodName := ⟨RX6, "clear", "()V"⟩
abbrev cX6_become : ByteArray := prog_8_method_3_code
def yX6_become : MethodName := ⟨RX6, "become", "(LBenchComposer$Told;)V"⟩
abbrev cX6_markSeniors : ByteArray := prog_8_method_4_code
def yX6_markSeniors : MethodName := ⟨RX6, "markSeniors", "()V"⟩
abbrev cX6_hasJudge : ByteArray := prog_8_method_5_code
def yX6_hasJudge : MethodName := ⟨RX6, "hasJudge", "(I)Z"⟩
abbrev cX6_hasCase : ByteArray := prog_8_method_6_code
def yX6_hasCase : MethodName := ⟨RX6, "hasCase", "(I)Z"⟩
abbrev cX6_isBench : ByteArray := prog_8_method_7_code
def yX6_isBench : MethodName := ⟨RX6, "isBench", "(I)Z"⟩
abbrev cX6_presiding : ByteArray := prog_8_method_8_code
def yX6_presiding : MethodName := ⟨RX6, "presiding", "(I)I"⟩
def RX7 : String := "BenchComposer"
def TX7 : u_T := fun k => match k with
  | 0 => ("BenchComposer", "tape", "LBenchComposer$Tape;", true)
  | 1 => ("BenchComposer", "reader", "LBenchComposer$Reader;", true)
  | 2 => ("BenchComposer", "told", "LBenchComposer$Told;", true)
  | 3 => ("BenchComposer", "court", "LBenchComposer$Court;", true)
  | 4 => ("BenchComposer", "drawnAnew", "LBenchComposer$Court;", true)
  | 5 => ("BenchComposer", "history", "LBenchComposer$History;", true)
  | _ => ("BenchComposer", "latestFault", "I", false)
def tyX7 : Nat → FieldType := fun k => match k with
  | 0 => .object "BenchComposer$Tape"
  | 1 => .object "BenchComposer$Reader"
  | 2 => .object "BenchComposer$Told"
  | 3 => .object "BenchComposer$Court"
  | 4 => .object "BenchComposer$Court"
  | 5 => .object "BenchComposer$History"
  | _ => .int
abbrev wsX70 : List Cond := u_ws RX7 TX7 7
theorem nmX7 : ∀ a, a < 7 → ∀ b, b < 7 → a ≠ b → (TX7 a).2.1 ≠ (TX7 b).2.1 := by decide +kernel
theorem tyX7_ok : ∀ k, k < 7 → parseFieldDescriptor (TX7 k).2.2.1 = some (tyX7 k) := by decide +kernel
abbrev cX7_init : ByteArray := prog_1_method_1_code
def yX7_init : MethodName := ⟨RX7, "<init>", "()V"⟩
abbrev cX7_feed : ByteArray := prog_1_method_2_code
def yX7_feed : MethodName := ⟨RX7, "feed", "(IIIII)I"⟩
abbrev cX7_end : ByteArray := prog_1_method_3_code
def yX7_end : MethodName := ⟨RX7, "end", "(I)Z"⟩
abbrev cX7_text : ByteArray := prog_1_method_4_code
def yX7_text : MethodName := ⟨RX7, "text", "()I"⟩
abbrev cX7_fault : ByteArray := prog_1_method_5_code
def yX7_fault : MethodName := ⟨RX7, "fault", "()I"⟩
abbrev cX7_now : ByteArray := prog_1_method_6_code
def yX7_now : MethodName := ⟨RX7, "now", "(I)I"⟩
abbrev cX7_judge : ByteArray := prog_1_method_7_code
def yX7_judge : MethodName := ⟨RX7, "judge", "(II)I"⟩
abbrev cX7_of : ByteArray := prog_1_method_8_code
def yX7_of : MethodName := ⟨RX7, "of", "(II)I"⟩
abbrev cX7_pair : ByteArray := prog_1_method_9_code
def yX7_pair : MethodName := ⟨RX7, "pair", "(II)I"⟩
abbrev cX7_spread : ByteArray := prog_1_method_10_code
def yX7_spread : MethodName := ⟨RX7, "spread", "(I)I"⟩
abbrev cX7_lawful : ByteArray := prog_1_method_11_code
def yX7_lawful : MethodName := ⟨RX7, "lawful", "(I)I"⟩
abbrev cX7_bench : ByteArray := prog_1_method_12_code
def yX7_bench : MethodName := ⟨RX7, "bench", "(II)I"⟩
abbrev cX7_rank : ByteArray := prog_1_method_13_code
def yX7_rank : MethodName := ⟨RX7, "rank", "(II)I"⟩
abbrev cX7_tension : ByteArray := prog_1_method_14_code
def yX7_tension : MethodName := ⟨RX7, "tension", "(II)I"⟩
abbrev cX7_pool : ByteArray := prog_1_method_15_code
def yX7_pool : MethodName := ⟨RX7, "pool", "(I)I"⟩
abbrev cX7_chances : ByteArray := prog_1_method_16_code
def yX7_chances : MethodName := ⟨RX7, "chances", "(II)I"⟩
abbrev cX7_worst : ByteArray := prog_1_method_17_code
def yX7_worst : MethodName := ⟨RX7, "worst", "(I)I"⟩
abbrev cX7_draw : ByteArray := prog_1_method_18_code
def yX7_draw : MethodName := ⟨RX7, "draw", "(I)I"⟩
abbrev cX7_drawAll : ByteArray := prog_1_method_19_code
def yX7_drawAll : MethodName := ⟨RX7, "drawAll", "()I"⟩
abbrev cX7_recuse : ByteArray := prog_1_method_20_code
def yX7_recuse : MethodName := ⟨RX7, "recuse", "(II)I"⟩
abbrev cX7_leave : ByteArray := prog_1_method_21_code
def yX7_leave : MethodName := ⟨RX7, "leave", "(I)I"⟩
abbrev cX7_come : ByteArray := prog_1_method_22_code
def yX7_come : MethodName := ⟨RX7, "come", "(I)I"⟩
abbrev cX7_hear : ByteArray := prog_1_method_23_code
def yX7_hear : MethodName := ⟨RX7, "hear", "(I)I"⟩
abbrev cX7_evenness : ByteArray := prog_1_method_24_code
def yX7_evenness : MethodName := ⟨RX7, "evenness", "()I"⟩
abbrev cX7_better : ByteArray := prog_1_method_25_code
def yX7_better : MethodName := ⟨RX7, "better", "(I)I"⟩
abbrev cX7_exchange : ByteArray := prog_1_method_26_code
def yX7_exchange : MethodName := ⟨RX7, "exchange", "(IIII)I"⟩
abbrev cX7_smooth : ByteArray := prog_1_method_27_code
def yX7_smooth : MethodName := ⟨RX7, "smooth", "()I"⟩
abbrev cX7_same : ByteArray := prog_1_method_28_code
def yX7_same : MethodName := ⟨RX7, "same", "()I"⟩
abbrev cX7_anew : ByteArray := prog_1_method_29_code
def yX7_anew : MethodName := ⟨RX7, "anew", "(I)I"⟩
abbrev cX7_undo : ByteArray := prog_1_method_30_code
def yX7_undo : MethodName := ⟨RX7, "undo", "()I"⟩
abbrev cX7_has : ByteArray := prog_1_method_31_code
def yX7_has : MethodName := ⟨RX7, "has", "(II)Z"⟩
abbrev cX7_pairPlace : ByteArray := prog_1_method_32_code
def yX7_pairPlace : MethodName := ⟨RX7, "pairPlace", "(II)I"⟩
def RX8 : String := "BenchComposerModel"
def TX8 : u_T := fun k => match k with
  | 0 => ("BenchComposerModel", "thrown", "I", false)
  | 1 => ("BenchComposerModel", "tape", "[I", true)
  | 2 => ("BenchComposerModel", "taped", "I", false)
  | 3 => ("BenchComposerModel", "size", "I", false)
  | 4 => ("BenchComposerModel", "to", "I", false)
  | 5 => ("BenchComposerModel", "from", "I", false)
  | 6 => ("BenchComposerModel", "sort", "I", false)
  | 7 => ("BenchComposerModel", "number", "I", false)
  | 8 => ("BenchComposerModel", "fault", "I", false)
  | 9 => ("BenchComposerModel", "place", "I", false)
  | 10 => ("BenchComposerModel", "word", "J", false)
  | 11 => ("BenchComposerModel", "now", "[I", true)
  | 12 => ("BenchComposerModel", "read", "[I", true)
  | 13 => ("BenchComposerModel", "fresh", "[I", true)
  | 14 => ("BenchComposerModel", "snaps", "[I", true)
  | 15 => ("BenchComposerModel", "before", "[I", true)
  | 16 => ("BenchComposerModel", "live", "[I", true)
  | 17 => ("BenchComposerModel", "snapMany", "I", false)
  | 18 => ("BenchComposerModel", "benches", "[I", true)
  | 19 => ("BenchComposerModel", "pools", "[I", true)
  | 20 => ("BenchComposerModel", "benchMany", "I", false)
  | 21 => ("BenchComposerModel", "poolMany", "I", false)
  | 22 => ("BenchComposerModel", "poolWorst", "I", false)
  | 23 => ("BenchComposerModel", "betterA", "I", false)
  | 24 => ("BenchComposerModel", "betterX", "I", false)
  | 25 => ("BenchComposerModel", "betterB", "I", false)
  | 26 => ("BenchComposerModel", "betterY", "I", false)
  | _ => ("BenchComposerModel", "betterBy", "I", false)
def tyX8 : Nat → FieldType := fun k => match k with
  | 0 => .int
  | 1 => .array .int
  | 2 => .int
  | 3 => .int
  | 4 => .int
  | 5 => .int
  | 6 => .int
  | 7 => .int
  | 8 => .int
  | 9 => .int
  | 10 => .long
  | 11 => .array .int
  | 12 => .array .int
  | 13 => .array .int
  | 14 => .array .int
  | 15 => .array .int
  | 16 => .array .int
  | 17 => .int
  | 18 => .array .int
  | 19 => .array .int
  | 20 => .int
  | 21 => .int
  | 22 => .int
  | 23 => .int
  | 24 => .int
  | 25 => .int
  | 26 => .int
  | _ => .int
abbrev wsX80 : List Cond := u_ws RX8 TX8 28
theorem nmX8 : ∀ a, a < 28 → ∀ b, b < 28 → a ≠ b → (TX8 a).2.1 ≠ (TX8 b).2.1 := by decide +kernel
theorem tyX8_ok : ∀ k, k < 28 → parseFieldDescriptor (TX8 k).2.2.1 = some (tyX8 k) := by decide +kernel
abbrev cX8_thrown : ByteArray := prog_10_method_1_code
def yX8_thrown : MethodName := ⟨RX8, "thrown", "()I"⟩
abbrev cX8_refuse : ByteArray := prog_10_method_2_code
def yX8_refuse : MethodName := ⟨RX8, "refuse", "()I"⟩
abbrev cX8_isIn : ByteArray := prog_10_method_3_code
def yX8_isIn : MethodName := ⟨RX8, "isIn", "(III)Z"⟩
abbrev cX8_has : ByteArray := prog_10_method_4_code
def yX8_has : MethodName := ⟨RX8, "has", "(II)Z"⟩
abbrev cX8_bits : ByteArray := prog_10_method_5_code
def yX8_bits : MethodName := ⟨RX8, "bits", "(I)I"⟩
abbrev cX8_lays : ByteArray := prog_10_method_6_code
def yX8_lays : MethodName := ⟨RX8, "lays", "(I)V"⟩
abbrev cX8_feed : ByteArray := prog_10_method_7_code
def yX8_feed : MethodName := ⟨RX8, "feed", "(IIIII)I"⟩
abbrev cX8_end : ByteArray := prog_10_method_8_code
def yX8_end : MethodName := ⟨RX8, "end", "(I)Z"⟩
abbrev cX8_tapeAt : ByteArray := prog_10_method_9_code
def yX8_tapeAt : MethodName := ⟨RX8, "tapeAt", "(I)I"⟩
abbrev cX8_isDigit : ByteArray := prog_10_method_10_code
def yX8_isDigit : MethodName := ⟨RX8, "isDigit", "(I)Z"⟩
abbrev cX8_isLetter : ByteArray := prog_10_method_11_code
def yX8_isLetter : MethodName := ⟨RX8, "isLetter", "(I)Z"⟩
abbrev cX8_go : ByteArray := prog_10_method_12_code
def yX8_go : MethodName := ⟨RX8, "go", "()V"⟩
abbrev cX8_is : ByteArray := prog_10_method_13_code
def yX8_is : MethodName := ⟨RX8, "is", "(IIIIII)Z"⟩
abbrev cX8_bad : ByteArray := prog_10_method_14_code
def yX8_bad : MethodName := ⟨RX8, "bad", "(I)Z"⟩
abbrev cX8_init : ByteArray := prog_10_method_15_code
def yX8_init : MethodName := ⟨RX8, "<init>", "()V"⟩
abbrev cX8_copy : ByteArray := prog_10_method_16_code
def yX8_copy : MethodName := ⟨RX8, "copy", "([II[II)V"⟩
abbrev cX8_told : ByteArray := prog_10_method_17_code
def yX8_told : MethodName := ⟨RX8, "told", "(III)Z"⟩
abbrev cX8_readCourt : ByteArray := prog_10_method_18_code
def yX8_readCourt : MethodName := ⟨RX8, "readCourt", "()Z"⟩
abbrev cX8_readJudge : ByteArray := prog_10_method_19_code
def yX8_readJudge : MethodName := ⟨RX8, "readJudge", "()Z"⟩
abbrev cX8_readCase : ByteArray := prog_10_method_20_code
def yX8_readCase : MethodName := ⟨RX8, "readCase", "()Z"⟩
abbrev cX8_readLine : ByteArray := prog_10_method_21_code
def yX8_readLine : MethodName := ⟨RX8, "readLine", "()Z"⟩
abbrev cX8_readEnd : ByteArray := prog_10_method_22_code
def yX8_readEnd : MethodName := ⟨RX8, "readEnd", "()Z"⟩
abbrev cX8_text : ByteArray := prog_10_method_23_code
def yX8_text : MethodName := ⟨RX8, "text", "()I"⟩
abbrev cX8_fault : ByteArray := prog_10_method_24_code
def yX8_fault : MethodName := ⟨RX8, "fault", "()I"⟩
abbrev cX8_judges : ByteArray := prog_10_method_25_code
def yX8_judges : MethodName := ⟨RX8, "judges", "()I"⟩
abbrev cX8_cases : ByteArray := prog_10_method_26_code
def yX8_cases : MethodName := ⟨RX8, "cases", "()I"⟩
abbrev cX8_isJudge : ByteArray := prog_10_method_27_code
def yX8_isJudge : MethodName := ⟨RX8, "isJudge", "(I)Z"⟩
abbrev cX8_isCase : ByteArray := prog_10_method_28_code
def yX8_isCase : MethodName := ⟨RX8, "isCase", "(I)Z"⟩
abbrev cX8_presides : ByteArray := prog_10_method_29_code
def yX8_presides : MethodName := ⟨RX8, "presides", "([II)I"⟩
abbrev cX8_pairOf : ByteArray := prog_10_method_30_code
def yX8_pairOf : MethodName := ⟨RX8, "pairOf", "([IIII)I"⟩
abbrev cX8_loadOf : ByteArray := prog_10_method_31_code
def yX8_loadOf : MethodName := ⟨RX8, "loadOf", "([III)I"⟩
abbrev cX8_tensionOf : ByteArray := prog_10_method_32_code
def yX8_tensionOf : MethodName := ⟨RX8, "tensionOf", "([III)I"⟩
abbrev cX8_having : ByteArray := prog_10_method_33_code
def yX8_having : MethodName := ⟨RX8, "having", "(I)I"⟩
abbrev cX8_now : ByteArray := prog_10_method_34_code
def yX8_now : MethodName := ⟨RX8, "now", "(I)I"⟩
abbrev cX8_countsOf : ByteArray := prog_10_method_35_code
def yX8_countsOf : MethodName := ⟨RX8, "countsOf", "(II)I"⟩
abbrev cX8_judge : ByteArray := prog_10_method_36_code
def yX8_judge : MethodName := ⟨RX8, "judge", "(II)I"⟩
abbrev cX8_of : ByteArray := prog_10_method_37_code
def yX8_of : MethodName := ⟨RX8, "of", "(II)I"⟩
abbrev cX8_pair : ByteArray := prog_10_method_38_code
def yX8_pair : MethodName := ⟨RX8, "pair", "(II)I"⟩
abbrev cX8_spread : ByteArray := prog_10_method_39_code
def yX8_spread : MethodName := ⟨RX8, "spread", "(I)I"⟩
abbrev cX8_isLawful : ByteArray := prog_10_method_40_code
def yX8_isLawful : MethodName := ⟨RX8, "isLawful", "([III)Z"⟩
abbrev cX8_laysBenches : ByteArray := prog_10_method_41_code
def yX8_laysBenches : MethodName := ⟨RX8, "laysBenches", "([II)V"⟩
abbrev cX8_laysPool : ByteArray := prog_10_method_42_code
def yX8_laysPool : MethodName := ⟨RX8, "laysPool", "([II)V"⟩
abbrev cX8_lawful : ByteArray := prog_10_method_43_code
def yX8_lawful : MethodName := ⟨RX8, "lawful", "(I)I"⟩
abbrev cX8_bench : ByteArray := prog_10_method_44_code
def yX8_bench : MethodName := ⟨RX8, "bench", "(II)I"⟩
abbrev cX8_rank : ByteArray := prog_10_method_45_code
def yX8_rank : MethodName := ⟨RX8, "rank", "(II)I"⟩
abbrev cX8_tension : ByteArray := prog_10_method_46_code
def yX8_tension : MethodName := ⟨RX8, "tension", "(II)I"⟩
abbrev cX8_pool : ByteArray := prog_10_method_47_code
def yX8_pool : MethodName := ⟨RX8, "pool", "(I)I"⟩
abbrev cX8_chances : ByteArray := prog_10_method_48_code
def yX8_chances : MethodName := ⟨RX8, "chances", "(II)I"⟩
abbrev cX8_worst : ByteArray := prog_10_method_49_code
def yX8_worst : MethodName := ⟨RX8, "worst", "(I)I"⟩
abbrev cX8_snap : ByteArray := prog_10_method_50_code
def yX8_snap : MethodName := ⟨RX8, "snap", "()V"⟩
abbrev cX8_stay : ByteArray := prog_10_method_51_code
def yX8_stay : MethodName := ⟨RX8, "stay", "()V"⟩
abbrev cX8_draws : ByteArray := prog_10_method_52_code
def yX8_draws : MethodName := ⟨RX8, "draws", "([II)Z"⟩
abbrev cX8_draw : ByteArray := prog_10_method_53_code
def yX8_draw : MethodName := ⟨RX8, "draw", "(I)I"⟩
abbrev cX8_drawsAll : ByteArray := prog_10_method_54_code
def yX8_drawsAll : MethodName := ⟨RX8, "drawsAll", "([I)I"⟩
abbrev cX8_drawAll : ByteArray := prog_10_method_55_code
def yX8_drawAll : MethodName := ⟨RX8, "drawAll", "()I"⟩
abbrev cX8_repairs : ByteArray := prog_10_method_56_code
def yX8_repairs : MethodName := ⟨RX8, "repairs", "(II)I"⟩
abbrev cX8_recuse : ByteArray := prog_10_method_57_code
def yX8_recuse : MethodName := ⟨RX8, "recuse", "(II)I"⟩
abbrev cX8_leave : ByteArray := prog_10_method_58_code
def yX8_leave : MethodName := ⟨RX8, "leave", "(I)I"⟩
abbrev cX8_come : ByteArray := prog_10_method_59_code
def yX8_come : MethodName := ⟨RX8, "come", "(I)I"⟩
abbrev cX8_hear : ByteArray := prog_10_method_60_code
def yX8_hear : MethodName := ⟨RX8, "hear", "(I)I"⟩
abbrev cX8_evennessNow : ByteArray := prog_10_method_61_code
def yX8_evennessNow : MethodName := ⟨RX8, "evennessNow", "()I"⟩
abbrev cX8_evenness : ByteArray := prog_10_method_62_code
def yX8_evenness : MethodName := ⟨RX8, "evenness", "()I"⟩
abbrev cX8_changes : ByteArray := prog_10_method_63_code
def yX8_changes : MethodName := ⟨RX8, "changes", "(III)V"⟩
abbrev cX8_exchanges : ByteArray := prog_10_method_64_code
def yX8_exchanges : MethodName := ⟨RX8, "exchanges", "(IIII)Z"⟩
abbrev cX8_laysBetter : ByteArray := prog_10_method_65_code
def yX8_laysBetter : MethodName := ⟨RX8, "laysBetter", "()Z"⟩
abbrev cX8_better : ByteArray := prog_10_method_66_code
def yX8_better : MethodName := ⟨RX8, "better", "(I)I"⟩
abbrev cX8_exchange : ByteArray := prog_10_method_67_code
def yX8_exchange : MethodName := ⟨RX8, "exchange", "(IIII)I"⟩
abbrev cX8_smooth : ByteArray := prog_10_method_68_code
def yX8_smooth : MethodName := ⟨RX8, "smooth", "()I"⟩
abbrev cX8_laysAnew : ByteArray := prog_10_method_69_code
def yX8_laysAnew : MethodName := ⟨RX8, "laysAnew", "()V"⟩
abbrev cX8_same : ByteArray := prog_10_method_70_code
def yX8_same : MethodName := ⟨RX8, "same", "()I"⟩
abbrev cX8_anew : ByteArray := prog_10_method_71_code
def yX8_anew : MethodName := ⟨RX8, "anew", "(I)I"⟩
abbrev cX8_undo : ByteArray := prog_10_method_72_code
def yX8_undo : MethodName := ⟨RX8, "undo", "()I"⟩
def RJx145de : String := "java/io/Serializable"
def TJx145de : u_T := fun k => match k with
  | _ => ("", "", "", false)
def tyJx145de : Nat → FieldType := fun k => match k with
  | _ => .int
abbrev wsJx145de0 : List Cond := u_ws RJx145de TJx145de 0
theorem nmJx145de : ∀ a, a < 0 → ∀ b, b < 0 → a ≠ b → (TJx145de a).2.1 ≠ (TJx145de b).2.1 := by decide +kernel
theorem tyJx145de_ok : ∀ k, k < 0 → parseFieldDescriptor (TJx145de k).2.2.1 = some (tyJx145de k) := by decide +kernel
def RJx9f9b0 : String := "java/lang/CharSequence"
def TJx9f9b0 : u_T := fun k => match k with
  | _ => ("", "", "", false)
def tyJx9f9b0 : Nat → FieldType := fun k => match k with
  | _ => .int
abbrev wsJx9f9b00 : List Cond := u_ws RJx9f9b0 TJx9f9b0 0
theorem nmJx9f9b0 : ∀ a, a < 0 → ∀ b, b < 0 → a ≠ b → (TJx9f9b0 a).2.1 ≠ (TJx9f9b0 b).2.1 := by decide +kernel
theorem tyJx9f9b0_ok : ∀ k, k < 0 → parseFieldDescriptor (TJx9f9b0 k).2.2.1 = some (tyJx9f9b0 k) := by decide +kernel
def RJxb160c : String := "java/lang/Comparable"
def TJxb160c : u_T := fun k => match k with
  | _ => ("", "", "", false)
def tyJxb160c : Nat → FieldType := fun k => match k with
  | _ => .int
abbrev wsJxb160c0 : List Cond := u_ws RJxb160c TJxb160c 0
theorem nmJxb160c : ∀ a, a < 0 → ∀ b, b < 0 → a ≠ b → (TJxb160c a).2.1 ≠ (TJxb160c b).2.1 := by decide +kernel
theorem tyJxb160c_ok : ∀ k, k < 0 → parseFieldDescriptor (TJxb160c k).2.2.1 = some (tyJxb160c k) := by decide +kernel
def RJ6 : String := "java/lang/Integer"
def TJ6 : u_T := fun k => match k with
  | _ => ("", "", "", false)
def tyJ6 : Nat → FieldType := fun k => match k with
  | _ => .int
abbrev wsJ60 : List Cond := u_ws RJ6 TJ6 0
theorem nmJ6 : ∀ a, a < 0 → ∀ b, b < 0 → a ≠ b → (TJ6 a).2.1 ≠ (TJ6 b).2.1 := by decide +kernel
theorem tyJ6_ok : ∀ k, k < 0 → parseFieldDescriptor (TJ6 k).2.2.1 = some (tyJ6 k) := by decide +kernel
abbrev cJ6_bitCount_0f7a4 : ByteArray := prog_15_method_49_code
def yJ6_bitCount_0f7a4 : MethodName := ⟨RJ6, "bitCount", "(I)I"⟩
def RJ9 : String := "java/lang/Math"
def TJ9 : u_T := fun k => match k with
  | _ => ("", "", "", false)
def tyJ9 : Nat → FieldType := fun k => match k with
  | _ => .int
abbrev wsJ90 : List Cond := u_ws RJ9 TJ9 0
theorem nmJ9 : ∀ a, a < 0 → ∀ b, b < 0 → a ≠ b → (TJ9 a).2.1 ≠ (TJ9 b).2.1 := by decide +kernel
theorem tyJ9_ok : ∀ k, k < 0 → parseFieldDescriptor (TJ9 k).2.2.1 = some (tyJ9 k) := by decide +kernel
abbrev cJ9_max_7cf53 : ByteArray := prog_16_method_65_code
def yJ9_max_7cf53 : MethodName := ⟨RJ9, "max", "(II)I"⟩
abbrev cJ9_min_7cf53 : ByteArray := prog_16_method_69_code
def yJ9_min_7cf53 : MethodName := ⟨RJ9, "min", "(II)I"⟩
def RJ0 : String := "java/lang/String"
def TJ0 : u_T := fun k => match k with
  | _ => ("", "", "", false)
def tyJ0 : Nat → FieldType := fun k => match k with
  | _ => .int
abbrev wsJ00 : List Cond := u_ws RJ0 TJ0 0
theorem nmJ0 : ∀ a, a < 0 → ∀ b, b < 0 → a ≠ b → (TJ0 a).2.1 ≠ (TJ0 b).2.1 := by decide +kernel
theorem tyJ0_ok : ∀ k, k < 0 → parseFieldDescriptor (TJ0 k).2.2.1 = some (tyJ0 k) := by decide +kernel
abbrev cJ0_length_8abf5 : ByteArray := prog_18_method_54_code
def yJ0_length_8abf5 : MethodName := ⟨RJ0, "length", "()I"⟩
abbrev cJ0_charAt_5068e : ByteArray := prog_18_method_56_code
def yJ0_charAt_5068e : MethodName := ⟨RJ0, "charAt", "(I)C"⟩
abbrev cJ0_coder_7d493 : ByteArray := prog_18_method_152_code
def yJ0_coder_7d493 : MethodName := ⟨RJ0, "coder", "()B"⟩
abbrev cJ0_isLatin1_aae02 : ByteArray := prog_18_method_154_code
def yJ0_isLatin1_aae02 : MethodName := ⟨RJ0, "isLatin1", "()Z"⟩
abbrev cJ0_checkIndex_df160 : ByteArray := prog_18_method_155_code
def yJ0_checkIndex_df160 : MethodName := ⟨RJ0, "checkIndex", "(II)V"⟩
def RJ1 : String := "java/lang/StringLatin1"
def TJ1 : u_T := fun k => match k with
  | _ => ("", "", "", false)
def tyJ1 : Nat → FieldType := fun k => match k with
  | _ => .int
abbrev wsJ10 : List Cond := u_ws RJ1 TJ1 0
theorem nmJ1 : ∀ a, a < 0 → ∀ b, b < 0 → a ≠ b → (TJ1 a).2.1 ≠ (TJ1 b).2.1 := by decide +kernel
theorem tyJ1_ok : ∀ k, k < 0 → parseFieldDescriptor (TJ1 k).2.2.1 = some (tyJ1 k) := by decide +kernel
abbrev cJ1_charAt_3b067 : ByteArray := prog_19_method_2_code
def yJ1_charAt_3b067 : MethodName := ⟨RJ1, "charAt", "([BI)C"⟩
def RJ2 : String := "java/lang/StringUTF16"
def TJ2 : u_T := fun k => match k with
  | _ => ("", "", "", false)
def tyJ2 : Nat → FieldType := fun k => match k with
  | _ => .int
abbrev wsJ20 : List Cond := u_ws RJ2 TJ2 0
theorem nmJ2 : ∀ a, a < 0 → ∀ b, b < 0 → a ≠ b → (TJ2 a).2.1 ≠ (TJ2 b).2.1 := by decide +kernel
theorem tyJ2_ok : ∀ k, k < 0 → parseFieldDescriptor (TJ2 k).2.2.1 = some (tyJ2 k) := by decide +kernel
abbrev cJ2_getChar_3b067 : ByteArray := prog_20_method_5_code
def yJ2_getChar_3b067 : MethodName := ⟨RJ2, "getChar", "([BI)C"⟩
abbrev cJ2_length_9d52b : ByteArray := prog_20_method_6_code
def yJ2_length_9d52b : MethodName := ⟨RJ2, "length", "([B)I"⟩
abbrev cJ2_charAt_3b067 : ByteArray := prog_20_method_83_code
def yJ2_charAt_3b067 : MethodName := ⟨RJ2, "charAt", "([BI)C"⟩
abbrev cJ2_checkIndex_2214a : ByteArray := prog_20_method_91_code
def yJ2_checkIndex_2214a : MethodName := ⟨RJ2, "checkIndex", "(I[B)V"⟩
def RJ10 : String := "java/lang/System"
def TJ10 : u_T := fun k => match k with
  | _ => ("", "", "", false)
def tyJ10 : Nat → FieldType := fun k => match k with
  | _ => .int
abbrev wsJ100 : List Cond := u_ws RJ10 TJ10 0
theorem nmJ10 : ∀ a, a < 0 → ∀ b, b < 0 → a ≠ b → (TJ10 a).2.1 ≠ (TJ10 b).2.1 := by decide +kernel
theorem tyJ10_ok : ∀ k, k < 0 → parseFieldDescriptor (TJ10 k).2.2.1 = some (tyJ10 k) := by decide +kernel
def RJxfd54e : String := "java/lang/constant/Constable"
def TJxfd54e : u_T := fun k => match k with
  | _ => ("", "", "", false)
def tyJxfd54e : Nat → FieldType := fun k => match k with
  | _ => .int
abbrev wsJxfd54e0 : List Cond := u_ws RJxfd54e TJxfd54e 0
theorem nmJxfd54e : ∀ a, a < 0 → ∀ b, b < 0 → a ≠ b → (TJxfd54e a).2.1 ≠ (TJxfd54e b).2.1 := by decide +kernel
theorem tyJxfd54e_ok : ∀ k, k < 0 → parseFieldDescriptor (TJxfd54e k).2.2.1 = some (tyJxfd54e k) := by decide +kernel
def RJx3cf43 : String := "java/lang/constant/ConstantDesc"
def TJx3cf43 : u_T := fun k => match k with
  | _ => ("", "", "", false)
def tyJx3cf43 : Nat → FieldType := fun k => match k with
  | _ => .int
abbrev wsJx3cf430 : List Cond := u_ws RJx3cf43 TJx3cf43 0
theorem nmJx3cf43 : ∀ a, a < 0 → ∀ b, b < 0 → a ≠ b → (TJx3cf43 a).2.1 ≠ (TJx3cf43 b).2.1 := by decide +kernel
theorem tyJx3cf43_ok : ∀ k, k < 0 → parseFieldDescriptor (TJx3cf43 k).2.2.1 = some (tyJx3cf43 k) := by decide +kernel
def RJ7 : String := "java/util/Arrays"
def TJ7 : u_T := fun k => match k with
  | _ => ("", "", "", false)
def tyJ7 : Nat → FieldType := fun k => match k with
  | _ => .int
abbrev wsJ70 : List Cond := u_ws RJ7 TJ7 0
theorem nmJ7 : ∀ a, a < 0 → ∀ b, b < 0 → a ≠ b → (TJ7 a).2.1 ≠ (TJ7 b).2.1 := by decide +kernel
theorem tyJ7_ok : ∀ k, k < 0 → parseFieldDescriptor (TJ7 k).2.2.1 = some (tyJ7 k) := by decide +kernel
abbrev cJ7_fill_53178 : ByteArray := prog_25_method_103_code
def yJ7_fill_53178 : MethodName := ⟨RJ7, "fill", "([II)V"⟩
def RJ3 : String := "jdk/internal/util/Preconditions"
def TJ3 : u_T := fun k => match k with
  | _ => ("", "", "", false)
def tyJ3 : Nat → FieldType := fun k => match k with
  | _ => .int
abbrev wsJ30 : List Cond := u_ws RJ3 TJ3 0
theorem nmJ3 : ∀ a, a < 0 → ∀ b, b < 0 → a ≠ b → (TJ3 a).2.1 ≠ (TJ3 b).2.1 := by decide +kernel
theorem tyJ3_ok : ∀ k, k < 0 → parseFieldDescriptor (TJ3 k).2.2.1 = some (tyJ3 k) := by decide +kernel
abbrev cJ3_checkIndex_8e157 : ByteArray := prog_27_method_11_code
def yJ3_checkIndex_8e157 : MethodName := ⟨RJ3, "checkIndex", "(IILjava/util/function/BiFunction;)I"⟩
def RL : String := "BenchComposerLaw"
abbrev cL_judge : ByteArray := method_3_code
def yL_judge : MethodName := ⟨RL, "judge", "(LBenchComposer;II[J)I"⟩
abbrev cL_of : ByteArray := method_4_code
def yL_of : MethodName := ⟨RL, "of", "(LBenchComposer;II[J)I"⟩
abbrev cL_law : ByteArray := code
def yL_law : MethodName := ⟨RL, "law", "([I)Z"⟩
end
section
theorem dX0_init_0 : decode cX0_init 0 = .ok (.aload_n 0, 1) := by decide +kernel
theorem dX0_init_1 : decode cX0_init 1 = .ok (.invokespecial 3, 3) := by decide +kernel
theorem dX0_init_4 : decode cX0_init 4 = .ok (.aload_n 0, 1) := by decide +kernel
theorem dX0_init_5 : decode cX0_init 5 = .ok (.aload_n 1, 1) := by decide +kernel
theorem dX0_init_6 : decode cX0_init 6 = .ok (.putfield 9, 3) := by decide +kernel
theorem dX0_init_9 : decode cX0_init 9 = .ok (.aload_n 0, 1) := by decide +kernel
theorem dX0_init_10 : decode cX0_init 10 = .ok (.new 15, 3) := by decide +kernel
theorem dX0_init_13 : decode cX0_init 13 = .ok (.dup, 1) := by decide +kernel
theorem dX0_init_14 : decode cX0_init 14 = .ok (.invokespecial 17, 3) := by decide +kernel
theorem dX0_init_17 : decode cX0_init 17 = .ok (.putfield 18, 3) := by decide +kernel
theorem dX0_init_20 : decode cX0_init 20 = .ok (.aload_n 0, 1) := by decide +kernel
theorem dX0_init_21 : decode cX0_init 21 = .ok (.new 22, 3) := by decide +kernel
theorem dX0_init_24 : decode cX0_init 24 = .ok (.dup, 1) := by decide +kernel
theorem dX0_init_25 : decode cX0_init 25 = .ok (.invokespecial 24, 3) := by decide +kernel
theorem dX0_init_28 : decode cX0_init 28 = .ok (.putfield 25, 3) := by decide +kernel
theorem dX0_init_31 : decode cX0_init 31 = .ok (.aload_n 0, 1) := by decide +kernel
theorem dX0_init_32 : decode cX0_init 32 = .ok (.bipush 81, 2) := by decide +kernel
theorem dX0_init_34 : decode cX0_init 34 = .ok (.newarray .int, 2) := by decide +kernel
theorem dX0_init_36 : decode cX0_init 36 = .ok (.putfield 29, 3) := by decide +kernel
theorem dX0_init_39 : decode cX0_init 39 = .ok (.aload_n 0, 1) := by decide +kernel
theorem dX0_init_40 : decode cX0_init 40 = .ok (.bipush 9, 2) := by decide +kernel
theorem dX0_init_42 : decode cX0_init 42 = .ok (.newarray .int, 2) := by decide +kernel
theorem dX0_init_44 : decode cX0_init 44 = .ok (.putfield 33, 3) := by decide +kernel
theorem dX0_init_47 : decode cX0_init 47 = .ok (.aload_n 0, 1) := by decide +kernel
theorem dX0_init_48 : decode cX0_init 48 = .ok (.bipush 84, 2) := by decide +kernel
theorem dX0_init_50 : decode cX0_init 50 = .ok (.newarray .int, 2) := by decide +kernel
theorem dX0_init_52 : decode cX0_init 52 = .ok (.putfield 36, 3) := by decide +kernel
theorem dX0_init_55 : decode cX0_init 55 = .ok (.aload_n 0, 1) := by decide +kernel
theorem dX0_init_56 : decode cX0_init 56 = .ok (.bipush 84, 2) := by decide +kernel
theorem dX0_init_58 : decode cX0_init 58 = .ok (.newarray .int, 2) := by decide +kernel
theorem dX0_init_60 : decode cX0_init 60 = .ok (.putfield 39, 3) := by decide +kernel
theorem dX0_init_63 : decode cX0_init 63 = .ok (.return_, 1) := by decide +kernel
theorem dX0_begin_0 : decode cX0_begin 0 = .ok (.aload_n 0, 1) := by decide +kernel
theorem dX0_begin_1 : decode cX0_begin 1 = .ok (.getfield 18, 3) := by decide +kernel
theorem dX0_begin_4 : decode cX0_begin 4 = .ok (.aload_n 0, 1) := by decide +kernel
theorem dX0_begin_5 : decode cX0_begin 5 = .ok (.getfield 9, 3) := by decide +kernel
theorem dX0_begin_8 : decode cX0_begin 8 = .ok (.invokevirtual 42, 3) := by decide +kernel
theorem dX0_begin_11 : decode cX0_begin 11 = .ok (.return_, 1) := by decide +kernel
theorem dX0_isSet_0 : decode cX0_isSet 0 = .ok (.aload_n 0, 1) := by decide +kernel
theorem dX0_isSet_1 : decode cX0_isSet 1 = .ok (.getfield 9, 3) := by decide +kernel
theorem dX0_isSet_4 : decode cX0_isSet 4 = .ok (.iload_n 1, 1) := by decide +kernel
theorem dX0_isSet_5 : decode cX0_isSet 5 = .ok (.invokevirtual 46, 3) := by decide +kernel
theorem dX0_isSet_8 : decode cX0_isSet 8 = .ok (.ifCond .eq 20, 3) := by decide +kernel
theorem dX0_isSet_11 : decode cX0_isSet 11 = .ok (.aload_n 0, 1) := by decide +kernel
theorem dX0_isSet_12 : decode cX0_isSet 12 = .ok (.getfield 18, 3) := by decide +kernel
theorem dX0_isSet_15 : decode cX0_isSet 15 = .ok (.getfield 52, 3) := by decide +kernel
theorem dX0_isSet_18 : decode cX0_isSet 18 = .ok (.iload_n 1, 1) := by decide +kernel
theorem dX0_isSet_19 : decode cX0_isSet 19 = .ok (.iaload, 1) := by decide +kernel
theorem dX0_isSet_20 : decode cX0_isSet 20 = .ok (.iconst 1, 1) := by decide +kernel
theorem dX0_isSet_21 : decode cX0_isSet 21 = .ok (.if_icmp .ne 7, 3) := by decide +kernel
theorem dX0_isSet_24 : decode cX0_isSet 24 = .ok (.iconst 1, 1) := by decide +kernel
theorem dX0_isSet_25 : decode cX0_isSet 25 = .ok (.goto 4, 3) := by decide +kernel
theorem dX0_isSet_28 : decode cX0_isSet 28 = .ok (.iconst 0, 1) := by decide +kernel
theorem dX0_isSet_29 : decode cX0_isSet 29 = .ok (.ireturn, 1) := by decide +kernel
theorem dX0_casesAt_0 : decode cX0_casesAt 0 = .ok (.iconst 0, 1) := by decide +kernel
theorem dX0_casesAt_1 : decode cX0_casesAt 1 = .ok (.istore_n 2, 1) := by decide +kernel
theorem dX0_casesAt_2 : decode cX0_casesAt 2 = .ok (.iconst 0, 1) := by decide +kernel
theorem dX0_casesAt_3 : decode cX0_casesAt 3 = .ok (.istore_n 3, 1) := by decide +kernel
theorem dX0_casesAt_4 : decode cX0_casesAt 4 = .ok (.iload_n 3, 1) := by decide +kernel
theorem dX0_casesAt_5 : decode cX0_casesAt 5 = .ok (.aload_n 0, 1) := by decide +kernel
theorem dX0_casesAt_6 : decode cX0_casesAt 6 = .ok (.getfield 9, 3) := by decide +kernel
theorem dX0_casesAt_9 : decode cX0_casesAt 9 = .ok (.getfield 55, 3) := by decide +kernel
theorem dX0_casesAt_12 : decode cX0_casesAt 12 = .ok (.if_icmp .ge 25, 3) := by decide +kernel
theorem dX0_casesAt_15 : decode cX0_casesAt 15 = .ok (.aload_n 0, 1) := by decide +kernel
theorem dX0_casesAt_16 : decode cX0_casesAt 16 = .ok (.getfield 18, 3) := by decide +kernel
theorem dX0_casesAt_19 : decode cX0_casesAt 19 = .ok (.getfield 52, 3) := by decide +kernel
theorem dX0_casesAt_22 : decode cX0_casesAt 22 = .ok (.iload_n 3, 1) := by decide +kernel
theorem dX0_casesAt_23 : decode cX0_casesAt 23 = .ok (.iaload, 1) := by decide +kernel
theorem dX0_casesAt_24 : decode cX0_casesAt 24 = .ok (.iload_n 1, 1) := by decide +kernel
theorem dX0_casesAt_25 : decode cX0_casesAt 25 = .ok (.if_icmp .ne 6, 3) := by decide +kernel
theorem dX0_casesAt_28 : decode cX0_casesAt 28 = .ok (.iinc 2 1, 3) := by decide +kernel
theorem dX0_casesAt_31 : decode cX0_casesAt 31 = .ok (.iinc 3 1, 3) := by decide +kernel
theorem dX0_casesAt_34 : decode cX0_casesAt 34 = .ok (.goto (-30), 3) := by decide +kernel
theorem dX0_casesAt_37 : decode cX0_casesAt 37 = .ok (.iload_n 2, 1) := by decide +kernel
theorem dX0_casesAt_38 : decode cX0_casesAt 38 = .ok (.ireturn, 1) := by decide +kernel
theorem dX0_benchesOf_0 : decode cX0_benchesOf 0 = .ok (.iconst 0, 1) := by decide +kernel
theorem dX0_benchesOf_1 : decode cX0_benchesOf 1 = .ok (.istore_n 2, 1) := by decide +kernel
theorem dX0_benchesOf_2 : decode cX0_benchesOf 2 = .ok (.iconst 0, 1) := by decide +kernel
theorem dX0_benchesOf_3 : decode cX0_benchesOf 3 = .ok (.istore_n 3, 1) := by decide +kernel
theorem dX0_benchesOf_4 : decode cX0_benchesOf 4 = .ok (.iload_n 3, 1) := by decide +kernel
theorem dX0_benchesOf_5 : decode cX0_benchesOf 5 = .ok (.aload_n 0, 1) := by decide +kernel
theorem dX0_benchesOf_6 : decode cX0_benchesOf 6 = .ok (.getfield 9, 3) := by decide +kernel
theorem dX0_benchesOf_9 : decode cX0_benchesOf 9 = .ok (.getfield 55, 3) := by decide +kernel
theorem dX0_benchesOf_12 : decode cX0_benchesOf 12 = .ok (.if_icmp .ge 28, 3) := by decide +kernel
theorem dX0_benchesOf_15 : decode cX0_benchesOf 15 = .ok (.aload_n 0, 1) := by decide +kernel
theorem dX0_benchesOf_16 : decode cX0_benchesOf 16 = .ok (.getfield 18, 3) := by decide +kernel
theorem dX0_benchesOf_19 : decode cX0_benchesOf 19 = .ok (.getfield 59, 3) := by decide +kernel
theorem dX0_benchesOf_22 : decode cX0_benchesOf 22 = .ok (.iload_n 3, 1) := by decide +kernel
theorem dX0_benchesOf_23 : decode cX0_benchesOf 23 = .ok (.iaload, 1) := by decide +kernel
theorem dX0_benchesOf_24 : decode cX0_benchesOf 24 = .ok (.iload_n 1, 1) := by decide +kernel
theorem dX0_benchesOf_25 : decode cX0_benchesOf 25 = .ok (.invokestatic 62, 3) := by decide +kernel
theorem dX0_benchesOf_28 : decode cX0_benchesOf 28 = .ok (.ifCond .eq 6, 3) := by decide +kernel
theorem dX0_benchesOf_31 : decode cX0_benchesOf 31 = .ok (.iinc 2 1, 3) := by decide +kernel
theorem dX0_benchesOf_34 : decode cX0_benchesOf 34 = .ok (.iinc 3 1, 3) := by decide +kernel
theorem dX0_benchesOf_37 : decode cX0_benchesOf 37 = .ok (.goto (-33), 3) := by decide +kernel
theorem dX0_benchesOf_40 : decode cX0_benchesOf 40 = .ok (.iload_n 2, 1) := by decide +kernel
theorem dX0_benchesOf_41 : decode cX0_benchesOf 41 = .ok (.ireturn, 1) := by decide +kernel
theorem dX0_benchesLedBy_0 : decode cX0_benchesLedBy 0 = .ok (.iconst 0, 1) := by decide +kernel
theorem dX0_benchesLedBy_1 : decode cX0_benchesLedBy 1 = .ok (.istore_n 2, 1) := by decide +kernel
theorem dX0_benchesLedBy_2 : decode cX0_benchesLedBy 2 = .ok (.iconst 0, 1) := by decide +kernel
theorem dX0_benchesLedBy_3 : decode cX0_benchesLedBy 3 = .ok (.istore_n 3, 1) := by decide +kernel
theorem dX0_benchesLedBy_4 : decode cX0_benchesLedBy 4 = .ok (.iload_n 3, 1) := by decide +kernel
theorem dX0_benchesLedBy_5 : decode cX0_benchesLedBy 5 = .ok (.aload_n 0, 1) := by decide +kernel
theorem dX0_benchesLedBy_6 : decode cX0_benchesLedBy 6 = .ok (.getfield 9, 3) := by decide +kernel
theorem dX0_benchesLedBy_9 : decode cX0_benchesLedBy 9 = .ok (.getfield 55, 3) := by decide +kernel
theorem dX0_benchesLedBy_12 : decode cX0_benchesLedBy 12 = .ok (.if_icmp .ge 32, 3) := by decide +kernel
theorem dX0_benchesLedBy_15 : decode cX0_benchesLedBy 15 = .ok (.aload_n 0, 1) := by decide +kernel
theorem dX0_benchesLedBy_16 : decode cX0_benchesLedBy 16 = .ok (.getfield 9, 3) := by decide +kernel
theorem dX0_benchesLedBy_19 : decode cX0_benchesLedBy 19 = .ok (.aload_n 0, 1) := by decide +kernel
theorem dX0_benchesLedBy_20 : decode cX0_benchesLedBy 20 = .ok (.getfield 18, 3) := by decide +kernel
theorem dX0_benchesLedBy_23 : decode cX0_benchesLedBy 23 = .ok (.getfield 59, 3) := by decide +kernel
theorem dX0_benchesLedBy_26 : decode cX0_benchesLedBy 26 = .ok (.iload_n 3, 1) := by decide +kernel
theorem dX0_benchesLedBy_27 : decode cX0_benchesLedBy 27 = .ok (.iaload, 1) := by decide +kernel
theorem dX0_benchesLedBy_28 : decode cX0_benchesLedBy 28 = .ok (.invokevirtual 66, 3) := by decide +kernel
theorem dX0_benchesLedBy_31 : decode cX0_benchesLedBy 31 = .ok (.iload_n 1, 1) := by decide +kernel
theorem dX0_benchesLedBy_32 : decode cX0_benchesLedBy 32 = .ok (.if_icmp .ne 6, 3) := by decide +kernel
theorem dX0_benchesLedBy_35 : decode cX0_benchesLedBy 35 = .ok (.iinc 2 1, 3) := by decide +kernel
theorem dX0_benchesLedBy_38 : decode cX0_benchesLedBy 38 = .ok (.iinc 3 1, 3) := by decide +kernel
theorem dX0_benchesLedBy_41 : decode cX0_benchesLedBy 41 = .ok (.goto (-37), 3) := by decide +kernel
theorem dX0_benchesLedBy_44 : decode cX0_benchesLedBy 44 = .ok (.iload_n 2, 1) := by decide +kernel
theorem dX0_benchesLedBy_45 : decode cX0_benchesLedBy 45 = .ok (.ireturn, 1) := by decide +kernel
theorem dX0_casesBarredTo_0 : decode cX0_casesBarredTo 0 = .ok (.iconst 0, 1) := by decide +kernel
theorem dX0_casesBarredTo_1 : decode cX0_casesBarredTo 1 = .ok (.istore_n 2, 1) := by decide +kernel
theorem dX0_casesBarredTo_2 : decode cX0_casesBarredTo 2 = .ok (.iconst 0, 1) := by decide +kernel
theorem dX0_casesBarredTo_3 : decode cX0_casesBarredTo 3 = .ok (.istore_n 3, 1) := by decide +kernel
theorem dX0_casesBarredTo_4 : decode cX0_casesBarredTo 4 = .ok (.iload_n 3, 1) := by decide +kernel
theorem dX0_casesBarredTo_5 : decode cX0_casesBarredTo 5 = .ok (.aload_n 0, 1) := by decide +kernel
theorem dX0_casesBarredTo_6 : decode cX0_casesBarredTo 6 = .ok (.getfield 9, 3) := by decide +kernel
theorem dX0_casesBarredTo_9 : decode cX0_casesBarredTo 9 = .ok (.getfield 55, 3) := by decide +kernel
theorem dX0_casesBarredTo_12 : decode cX0_casesBarredTo 12 = .ok (.if_icmp .ge 28, 3) := by decide +kernel
theorem dX0_casesBarredTo_15 : decode cX0_casesBarredTo 15 = .ok (.aload_n 0, 1) := by decide +kernel
theorem dX0_casesBarredTo_16 : decode cX0_casesBarredTo 16 = .ok (.getfield 18, 3) := by decide +kernel
theorem dX0_casesBarredTo_19 : decode cX0_casesBarredTo 19 = .ok (.getfield 70, 3) := by decide +kernel
theorem dX0_casesBarredTo_22 : decode cX0_casesBarredTo 22 = .ok (.iload_n 3, 1) := by decide +kernel
theorem dX0_casesBarredTo_23 : decode cX0_casesBarredTo 23 = .ok (.iaload, 1) := by decide +kernel
theorem dX0_casesBarredTo_24 : decode cX0_casesBarredTo 24 = .ok (.iload_n 1, 1) := by decide +kernel
theorem dX0_casesBarredTo_25 : decode cX0_casesBarredTo 25 = .ok (.invokestatic 62, 3) := by decide +kernel
theorem dX0_casesBarredTo_28 : decode cX0_casesBarredTo 28 = .ok (.ifCond .eq 6, 3) := by decide +kernel
theorem dX0_casesBarredTo_31 : decode cX0_casesBarredTo 31 = .ok (.iinc 2 1, 3) := by decide +kernel
theorem dX0_casesBarredTo_34 : decode cX0_casesBarredTo 34 = .ok (.iinc 3 1, 3) := by decide +kernel
theorem dX0_casesBarredTo_37 : decode cX0_casesBarredTo 37 = .ok (.goto (-33), 3) := by decide +kernel
theorem dX0_casesBarredTo_40 : decode cX0_casesBarredTo 40 = .ok (.iload_n 2, 1) := by decide +kernel
theorem dX0_casesBarredTo_41 : decode cX0_casesBarredTo 41 = .ok (.ireturn, 1) := by decide +kernel
theorem dX0_countBenches_0 : decode cX0_countBenches 0 = .ok (.aload_n 0, 1) := by decide +kernel
theorem dX0_countBenches_1 : decode cX0_countBenches 1 = .ok (.getfield 29, 3) := by decide +kernel
theorem dX0_countBenches_4 : decode cX0_countBenches 4 = .ok (.iconst 0, 1) := by decide +kernel
theorem dX0_countBenches_5 : decode cX0_countBenches 5 = .ok (.invokestatic 73, 3) := by decide +kernel
theorem dX0_countBenches_8 : decode cX0_countBenches 8 = .ok (.aload_n 0, 1) := by decide +kernel
theorem dX0_countBenches_9 : decode cX0_countBenches 9 = .ok (.getfield 33, 3) := by decide +kernel
theorem dX0_countBenches_12 : decode cX0_countBenches 12 = .ok (.iconst 0, 1) := by decide +kernel
theorem dX0_countBenches_13 : decode cX0_countBenches 13 = .ok (.invokestatic 73, 3) := by decide +kernel
theorem dX0_countBenches_16 : decode cX0_countBenches 16 = .ok (.iconst 0, 1) := by decide +kernel
theorem dX0_countBenches_17 : decode cX0_countBenches 17 = .ok (.istore_n 2, 1) := by decide +kernel
theorem dX0_countBenches_18 : decode cX0_countBenches 18 = .ok (.iload_n 2, 1) := by decide +kernel
theorem dX0_countBenches_19 : decode cX0_countBenches 19 = .ok (.aload_n 0, 1) := by decide +kernel
theorem dX0_countBenches_20 : decode cX0_countBenches 20 = .ok (.getfield 9, 3) := by decide +kernel
theorem dX0_countBenches_23 : decode cX0_countBenches 23 = .ok (.getfield 55, 3) := by decide +kernel
theorem dX0_countBenches_26 : decode cX0_countBenches 26 = .ok (.if_icmp .ge 50, 3) := by decide +kernel
theorem dX0_countBenches_29 : decode cX0_countBenches 29 = .ok (.aload_n 0, 1) := by decide +kernel
theorem dX0_countBenches_30 : decode cX0_countBenches 30 = .ok (.getfield 18, 3) := by decide +kernel
theorem dX0_countBenches_33 : decode cX0_countBenches 33 = .ok (.getfield 59, 3) := by decide +kernel
theorem dX0_countBenches_36 : decode cX0_countBenches 36 = .ok (.iload_n 2, 1) := by decide +kernel
theorem dX0_countBenches_37 : decode cX0_countBenches 37 = .ok (.iaload, 1) := by decide +kernel
theorem dX0_countBenches_38 : decode cX0_countBenches 38 = .ok (.istore_n 3, 1) := by decide +kernel
theorem dX0_countBenches_39 : decode cX0_countBenches 39 = .ok (.iload_n 2, 1) := by decide +kernel
theorem dX0_countBenches_40 : decode cX0_countBenches 40 = .ok (.iload_n 1, 1) := by decide +kernel
theorem dX0_countBenches_41 : decode cX0_countBenches 41 = .ok (.if_icmp .eq 29, 3) := by decide +kernel
theorem dX0_countBenches_44 : decode cX0_countBenches 44 = .ok (.iload_n 3, 1) := by decide +kernel
theorem dX0_countBenches_45 : decode cX0_countBenches 45 = .ok (.ifCond .eq 25, 3) := by decide +kernel
theorem dX0_countBenches_48 : decode cX0_countBenches 48 = .ok (.aload_n 0, 1) := by decide +kernel
theorem dX0_countBenches_49 : decode cX0_countBenches 49 = .ok (.iload_n 3, 1) := by decide +kernel
theorem dX0_countBenches_50 : decode cX0_countBenches 50 = .ok (.aload_n 0, 1) := by decide +kernel
theorem dX0_countBenches_51 : decode cX0_countBenches 51 = .ok (.getfield 9, 3) := by decide +kernel
theorem dX0_countBenches_54 : decode cX0_countBenches 54 = .ok (.getfield 79, 3) := by decide +kernel
theorem dX0_countBenches_57 : decode cX0_countBenches 57 = .ok (.iload_n 2, 1) := by decide +kernel
theorem dX0_countBenches_58 : decode cX0_countBenches 58 = .ok (.iaload, 1) := by decide +kernel
theorem dX0_countBenches_59 : decode cX0_countBenches 59 = .ok (.aload_n 0, 1) := by decide +kernel
theorem dX0_countBenches_60 : decode cX0_countBenches 60 = .ok (.getfield 9, 3) := by decide +kernel
theorem dX0_countBenches_63 : decode cX0_countBenches 63 = .ok (.iload_n 3, 1) := by decide +kernel
theorem dX0_countBenches_64 : decode cX0_countBenches 64 = .ok (.invokevirtual 66, 3) := by decide +kernel
theorem dX0_countBenches_67 : decode cX0_countBenches 67 = .ok (.invokevirtual 82, 3) := by decide +kernel
theorem dX0_countBenches_70 : decode cX0_countBenches 70 = .ok (.iinc 2 1, 3) := by decide +kernel
theorem dX0_countBenches_73 : decode cX0_countBenches 73 = .ok (.goto (-55), 3) := by decide +kernel
theorem dX0_countBenches_76 : decode cX0_countBenches 76 = .ok (.return_, 1) := by decide +kernel
theorem dX0_countBench_0 : decode cX0_countBench 0 = .ok (.iconst 0, 1) := by decide +kernel
theorem dX0_countBench_1 : decode cX0_countBench 1 = .ok (.istore 4, 2) := by decide +kernel
theorem dX0_countBench_3 : decode cX0_countBench 3 = .ok (.iload 4, 2) := by decide +kernel
theorem dX0_countBench_5 : decode cX0_countBench 5 = .ok (.aload_n 0, 1) := by decide +kernel
theorem dX0_countBench_6 : decode cX0_countBench 6 = .ok (.getfield 9, 3) := by decide +kernel
theorem dX0_countBench_9 : decode cX0_countBench 9 = .ok (.getfield 86, 3) := by decide +kernel
theorem dX0_countBench_12 : decode cX0_countBench 12 = .ok (.if_icmp .ge 96, 3) := by decide +kernel
theorem dX0_countBench_15 : decode cX0_countBench 15 = .ok (.iload_n 1, 1) := by decide +kernel
theorem dX0_countBench_16 : decode cX0_countBench 16 = .ok (.iload 4, 2) := by decide +kernel
theorem dX0_countBench_18 : decode cX0_countBench 18 = .ok (.invokestatic 62, 3) := by decide +kernel
theorem dX0_countBench_21 : decode cX0_countBench 21 = .ok (.ifCond .eq 81, 3) := by decide +kernel
theorem dX0_countBench_24 : decode cX0_countBench 24 = .ok (.aload_n 0, 1) := by decide +kernel
theorem dX0_countBench_25 : decode cX0_countBench 25 = .ok (.getfield 33, 3) := by decide +kernel
theorem dX0_countBench_28 : decode cX0_countBench 28 = .ok (.iload 4, 2) := by decide +kernel
theorem dX0_countBench_30 : decode cX0_countBench 30 = .ok (.dup2, 1) := by decide +kernel
theorem dX0_countBench_31 : decode cX0_countBench 31 = .ok (.iaload, 1) := by decide +kernel
theorem dX0_countBench_32 : decode cX0_countBench 32 = .ok (.iload 4, 2) := by decide +kernel
theorem dX0_countBench_34 : decode cX0_countBench 34 = .ok (.iload_n 3, 1) := by decide +kernel
theorem dX0_countBench_35 : decode cX0_countBench 35 = .ok (.if_icmp .ne 15, 3) := by decide +kernel
theorem dX0_countBench_38 : decode cX0_countBench 38 = .ok (.iload_n 2, 1) := by decide +kernel
theorem dX0_countBench_39 : decode cX0_countBench 39 = .ok (.aload_n 0, 1) := by decide +kernel
theorem dX0_countBench_40 : decode cX0_countBench 40 = .ok (.getfield 9, 3) := by decide +kernel
theorem dX0_countBench_43 : decode cX0_countBench 43 = .ok (.getfield 89, 3) := by decide +kernel
theorem dX0_countBench_46 : decode cX0_countBench 46 = .ok (.iadd, 1) := by decide +kernel
theorem dX0_countBench_47 : decode cX0_countBench 47 = .ok (.goto 4, 3) := by decide +kernel
theorem dX0_countBench_50 : decode cX0_countBench 50 = .ok (.iload_n 2, 1) := by decide +kernel
theorem dX0_countBench_51 : decode cX0_countBench 51 = .ok (.iadd, 1) := by decide +kernel
theorem dX0_countBench_52 : decode cX0_countBench 52 = .ok (.iastore, 1) := by decide +kernel
theorem dX0_countBench_53 : decode cX0_countBench 53 = .ok (.iload 4, 2) := by decide +kernel
theorem dX0_countBench_55 : decode cX0_countBench 55 = .ok (.iconst 1, 1) := by decide +kernel
theorem dX0_countBench_56 : decode cX0_countBench 56 = .ok (.iadd, 1) := by decide +kernel
theorem dX0_countBench_57 : decode cX0_countBench 57 = .ok (.istore 5, 2) := by decide +kernel
theorem dX0_countBench_59 : decode cX0_countBench 59 = .ok (.iload 5, 2) := by decide +kernel
theorem dX0_countBench_61 : decode cX0_countBench 61 = .ok (.aload_n 0, 1) := by decide +kernel
theorem dX0_countBench_62 : decode cX0_countBench 62 = .ok (.getfield 9, 3) := by decide +kernel
theorem dX0_countBench_65 : decode cX0_countBench 65 = .ok (.getfield 86, 3) := by decide +kernel
theorem dX0_countBench_68 : decode cX0_countBench 68 = .ok (.if_icmp .ge 34, 3) := by decide +kernel
theorem dX0_countBench_71 : decode cX0_countBench 71 = .ok (.iload_n 1, 1) := by decide +kernel
theorem dX0_countBench_72 : decode cX0_countBench 72 = .ok (.iload 5, 2) := by decide +kernel
theorem dX0_countBench_74 : decode cX0_countBench 74 = .ok (.invokestatic 62, 3) := by decide +kernel
theorem dX0_countBench_77 : decode cX0_countBench 77 = .ok (.ifCond .eq 19, 3) := by decide +kernel
theorem dX0_countBench_80 : decode cX0_countBench 80 = .ok (.aload_n 0, 1) := by decide +kernel
theorem dX0_countBench_81 : decode cX0_countBench 81 = .ok (.getfield 29, 3) := by decide +kernel
theorem dX0_countBench_84 : decode cX0_countBench 84 = .ok (.iload 4, 2) := by decide +kernel
theorem dX0_countBench_86 : decode cX0_countBench 86 = .ok (.iload 5, 2) := by decide +kernel
theorem dX0_countBench_88 : decode cX0_countBench 88 = .ok (.invokestatic 92, 3) := by decide +kernel
theorem dX0_countBench_91 : decode cX0_countBench 91 = .ok (.dup2, 1) := by decide +kernel
theorem dX0_countBench_92 : decode cX0_countBench 92 = .ok (.iaload, 1) := by decide +kernel
theorem dX0_countBench_93 : decode cX0_countBench 93 = .ok (.iconst 1, 1) := by decide +kernel
theorem dX0_countBench_94 : decode cX0_countBench 94 = .ok (.iadd, 1) := by decide +kernel
theorem dX0_countBench_95 : decode cX0_countBench 95 = .ok (.iastore, 1) := by decide +kernel
theorem dX0_countBench_96 : decode cX0_countBench 96 = .ok (.iinc 5 1, 3) := by decide +kernel
theorem dX0_countBench_99 : decode cX0_countBench 99 = .ok (.goto (-40), 3) := by decide +kernel
theorem dX0_countBench_102 : decode cX0_countBench 102 = .ok (.iinc 4 1, 3) := by decide +kernel
theorem dX0_countBench_105 : decode cX0_countBench 105 = .ok (.goto (-102), 3) := by decide +kernel
theorem dX0_countBench_108 : decode cX0_countBench 108 = .ok (.return_, 1) := by decide +kernel
theorem dX0_tensionOf_0 : decode cX0_tensionOf 0 = .ok (.iconst 0, 1) := by decide +kernel
theorem dX0_tensionOf_1 : decode cX0_tensionOf 1 = .ok (.istore_n 2, 1) := by decide +kernel
theorem dX0_tensionOf_2 : decode cX0_tensionOf 2 = .ok (.iconst 0, 1) := by decide +kernel
theorem dX0_tensionOf_3 : decode cX0_tensionOf 3 = .ok (.istore_n 3, 1) := by decide +kernel
theorem dX0_tensionOf_4 : decode cX0_tensionOf 4 = .ok (.iconst 0, 1) := by decide +kernel
theorem dX0_tensionOf_5 : decode cX0_tensionOf 5 = .ok (.istore 4, 2) := by decide +kernel
theorem dX0_tensionOf_7 : decode cX0_tensionOf 7 = .ok (.iload 4, 2) := by decide +kernel
theorem dX0_tensionOf_9 : decode cX0_tensionOf 9 = .ok (.aload_n 0, 1) := by decide +kernel
theorem dX0_tensionOf_10 : decode cX0_tensionOf 10 = .ok (.getfield 9, 3) := by decide +kernel
theorem dX0_tensionOf_13 : decode cX0_tensionOf 13 = .ok (.getfield 86, 3) := by decide +kernel
theorem dX0_tensionOf_16 : decode cX0_tensionOf 16 = .ok (.if_icmp .ge 38, 3) := by decide +kernel
theorem dX0_tensionOf_19 : decode cX0_tensionOf 19 = .ok (.iload_n 1, 1) := by decide +kernel
theorem dX0_tensionOf_20 : decode cX0_tensionOf 20 = .ok (.iload 4, 2) := by decide +kernel
theorem dX0_tensionOf_22 : decode cX0_tensionOf 22 = .ok (.invokestatic 62, 3) := by decide +kernel
theorem dX0_tensionOf_25 : decode cX0_tensionOf 25 = .ok (.ifCond .eq 23, 3) := by decide +kernel
theorem dX0_tensionOf_28 : decode cX0_tensionOf 28 = .ok (.iload_n 3, 1) := by decide +kernel
theorem dX0_tensionOf_29 : decode cX0_tensionOf 29 = .ok (.aload_n 0, 1) := by decide +kernel
theorem dX0_tensionOf_30 : decode cX0_tensionOf 30 = .ok (.getfield 33, 3) := by decide +kernel
theorem dX0_tensionOf_33 : decode cX0_tensionOf 33 = .ok (.iload 4, 2) := by decide +kernel
theorem dX0_tensionOf_35 : decode cX0_tensionOf 35 = .ok (.iaload, 1) := by decide +kernel
theorem dX0_tensionOf_36 : decode cX0_tensionOf 36 = .ok (.iadd, 1) := by decide +kernel
theorem dX0_tensionOf_37 : decode cX0_tensionOf 37 = .ok (.istore_n 3, 1) := by decide +kernel
theorem dX0_tensionOf_38 : decode cX0_tensionOf 38 = .ok (.iload_n 2, 1) := by decide +kernel
theorem dX0_tensionOf_39 : decode cX0_tensionOf 39 = .ok (.aload_n 0, 1) := by decide +kernel
theorem dX0_tensionOf_40 : decode cX0_tensionOf 40 = .ok (.iload_n 1, 1) := by decide +kernel
theorem dX0_tensionOf_41 : decode cX0_tensionOf 41 = .ok (.iload 4, 2) := by decide +kernel
theorem dX0_tensionOf_43 : decode cX0_tensionOf 43 = .ok (.invokevirtual 96, 3) := by decide +kernel
theorem dX0_tensionOf_46 : decode cX0_tensionOf 46 = .ok (.iadd, 1) := by decide +kernel
theorem dX0_tensionOf_47 : decode cX0_tensionOf 47 = .ok (.istore_n 2, 1) := by decide +kernel
theorem dX0_tensionOf_48 : decode cX0_tensionOf 48 = .ok (.iinc 4 1, 3) := by decide +kernel
theorem dX0_tensionOf_51 : decode cX0_tensionOf 51 = .ok (.goto (-44), 3) := by decide +kernel
theorem dX0_tensionOf_54 : decode cX0_tensionOf 54 = .ok (.aload_n 0, 1) := by decide +kernel
theorem dX0_tensionOf_55 : decode cX0_tensionOf 55 = .ok (.getfield 9, 3) := by decide +kernel
theorem dX0_tensionOf_58 : decode cX0_tensionOf 58 = .ok (.getfield 99, 3) := by decide +kernel
theorem dX0_tensionOf_61 : decode cX0_tensionOf 61 = .ok (.iload_n 2, 1) := by decide +kernel
theorem dX0_tensionOf_62 : decode cX0_tensionOf 62 = .ok (.imul, 1) := by decide +kernel
theorem dX0_tensionOf_63 : decode cX0_tensionOf 63 = .ok (.aload_n 0, 1) := by decide +kernel
theorem dX0_tensionOf_64 : decode cX0_tensionOf 64 = .ok (.getfield 9, 3) := by decide +kernel
theorem dX0_tensionOf_67 : decode cX0_tensionOf 67 = .ok (.getfield 102, 3) := by decide +kernel
theorem dX0_tensionOf_70 : decode cX0_tensionOf 70 = .ok (.iload_n 3, 1) := by decide +kernel
theorem dX0_tensionOf_71 : decode cX0_tensionOf 71 = .ok (.imul, 1) := by decide +kernel
theorem dX0_tensionOf_72 : decode cX0_tensionOf 72 = .ok (.iadd, 1) := by decide +kernel
theorem dX0_tensionOf_73 : decode cX0_tensionOf 73 = .ok (.ireturn, 1) := by decide +kernel
theorem dX0_pairsBehind_0 : decode cX0_pairsBehind 0 = .ok (.iconst 0, 1) := by decide +kernel
theorem dX0_pairsBehind_1 : decode cX0_pairsBehind 1 = .ok (.istore_n 3, 1) := by decide +kernel
theorem dX0_pairsBehind_2 : decode cX0_pairsBehind 2 = .ok (.iload_n 2, 1) := by decide +kernel
theorem dX0_pairsBehind_3 : decode cX0_pairsBehind 3 = .ok (.iconst 1, 1) := by decide +kernel
theorem dX0_pairsBehind_4 : decode cX0_pairsBehind 4 = .ok (.iadd, 1) := by decide +kernel
theorem dX0_pairsBehind_5 : decode cX0_pairsBehind 5 = .ok (.istore 4, 2) := by decide +kernel
theorem dX0_pairsBehind_7 : decode cX0_pairsBehind 7 = .ok (.iload 4, 2) := by decide +kernel
theorem dX0_pairsBehind_9 : decode cX0_pairsBehind 9 = .ok (.aload_n 0, 1) := by decide +kernel
theorem dX0_pairsBehind_10 : decode cX0_pairsBehind 10 = .ok (.getfield 9, 3) := by decide +kernel
theorem dX0_pairsBehind_13 : decode cX0_pairsBehind 13 = .ok (.getfield 86, 3) := by decide +kernel
theorem dX0_pairsBehind_16 : decode cX0_pairsBehind 16 = .ok (.if_icmp .ge 32, 3) := by decide +kernel
theorem dX0_pairsBehind_19 : decode cX0_pairsBehind 19 = .ok (.iload_n 1, 1) := by decide +kernel
theorem dX0_pairsBehind_20 : decode cX0_pairsBehind 20 = .ok (.iload 4, 2) := by decide +kernel
theorem dX0_pairsBehind_22 : decode cX0_pairsBehind 22 = .ok (.invokestatic 62, 3) := by decide +kernel
theorem dX0_pairsBehind_25 : decode cX0_pairsBehind 25 = .ok (.ifCond .eq 17, 3) := by decide +kernel
theorem dX0_pairsBehind_28 : decode cX0_pairsBehind 28 = .ok (.iload_n 3, 1) := by decide +kernel
theorem dX0_pairsBehind_29 : decode cX0_pairsBehind 29 = .ok (.aload_n 0, 1) := by decide +kernel
theorem dX0_pairsBehind_30 : decode cX0_pairsBehind 30 = .ok (.getfield 29, 3) := by decide +kernel
theorem dX0_pairsBehind_33 : decode cX0_pairsBehind 33 = .ok (.iload_n 2, 1) := by decide +kernel
theorem dX0_pairsBehind_34 : decode cX0_pairsBehind 34 = .ok (.iload 4, 2) := by decide +kernel
theorem dX0_pairsBehind_36 : decode cX0_pairsBehind 36 = .ok (.invokestatic 92, 3) := by decide +kernel
theorem dX0_pairsBehind_39 : decode cX0_pairsBehind 39 = .ok (.iaload, 1) := by decide +kernel
theorem dX0_pairsBehind_40 : decode cX0_pairsBehind 40 = .ok (.iadd, 1) := by decide +kernel
theorem dX0_pairsBehind_41 : decode cX0_pairsBehind 41 = .ok (.istore_n 3, 1) := by decide +kernel
theorem dX0_pairsBehind_42 : decode cX0_pairsBehind 42 = .ok (.iinc 4 1, 3) := by decide +kernel
theorem dX0_pairsBehind_45 : decode cX0_pairsBehind 45 = .ok (.goto (-38), 3) := by decide +kernel
theorem dX0_pairsBehind_48 : decode cX0_pairsBehind 48 = .ok (.iload_n 3, 1) := by decide +kernel
theorem dX0_pairsBehind_49 : decode cX0_pairsBehind 49 = .ok (.ireturn, 1) := by decide +kernel
theorem dX0_spreadOfPairs_0 : decode cX0_spreadOfPairs 0 = .ok (.iconst 0, 1) := by decide +kernel
theorem dX0_spreadOfPairs_1 : decode cX0_spreadOfPairs 1 = .ok (.istore_n 1, 1) := by decide +kernel
theorem dX0_spreadOfPairs_2 : decode cX0_spreadOfPairs 2 = .ok (.ldc 107, 2) := by decide +kernel
theorem dX0_spreadOfPairs_4 : decode cX0_spreadOfPairs 4 = .ok (.istore_n 2, 1) := by decide +kernel
theorem dX0_spreadOfPairs_5 : decode cX0_spreadOfPairs 5 = .ok (.iconst 0, 1) := by decide +kernel
theorem dX0_spreadOfPairs_6 : decode cX0_spreadOfPairs 6 = .ok (.istore_n 3, 1) := by decide +kernel
theorem dX0_spreadOfPairs_7 : decode cX0_spreadOfPairs 7 = .ok (.iload_n 3, 1) := by decide +kernel
theorem dX0_spreadOfPairs_8 : decode cX0_spreadOfPairs 8 = .ok (.aload_n 0, 1) := by decide +kernel
theorem dX0_spreadOfPairs_9 : decode cX0_spreadOfPairs 9 = .ok (.getfield 9, 3) := by decide +kernel
theorem dX0_spreadOfPairs_12 : decode cX0_spreadOfPairs 12 = .ok (.getfield 86, 3) := by decide +kernel
theorem dX0_spreadOfPairs_15 : decode cX0_spreadOfPairs 15 = .ok (.if_icmp .ge 59, 3) := by decide +kernel
theorem dX0_spreadOfPairs_18 : decode cX0_spreadOfPairs 18 = .ok (.iload_n 3, 1) := by decide +kernel
theorem dX0_spreadOfPairs_19 : decode cX0_spreadOfPairs 19 = .ok (.iconst 1, 1) := by decide +kernel
theorem dX0_spreadOfPairs_20 : decode cX0_spreadOfPairs 20 = .ok (.iadd, 1) := by decide +kernel
theorem dX0_spreadOfPairs_21 : decode cX0_spreadOfPairs 21 = .ok (.istore 4, 2) := by decide +kernel
theorem dX0_spreadOfPairs_23 : decode cX0_spreadOfPairs 23 = .ok (.iload 4, 2) := by decide +kernel
theorem dX0_spreadOfPairs_25 : decode cX0_spreadOfPairs 25 = .ok (.aload_n 0, 1) := by decide +kernel
theorem dX0_spreadOfPairs_26 : decode cX0_spreadOfPairs 26 = .ok (.getfield 9, 3) := by decide +kernel
theorem dX0_spreadOfPairs_29 : decode cX0_spreadOfPairs 29 = .ok (.getfield 86, 3) := by decide +kernel
theorem dX0_spreadOfPairs_32 : decode cX0_spreadOfPairs 32 = .ok (.if_icmp .ge 36, 3) := by decide +kernel
theorem dX0_spreadOfPairs_35 : decode cX0_spreadOfPairs 35 = .ok (.aload_n 0, 1) := by decide +kernel
theorem dX0_spreadOfPairs_36 : decode cX0_spreadOfPairs 36 = .ok (.getfield 29, 3) := by decide +kernel
theorem dX0_spreadOfPairs_39 : decode cX0_spreadOfPairs 39 = .ok (.iload_n 3, 1) := by decide +kernel
theorem dX0_spreadOfPairs_40 : decode cX0_spreadOfPairs 40 = .ok (.iload 4, 2) := by decide +kernel
theorem dX0_spreadOfPairs_42 : decode cX0_spreadOfPairs 42 = .ok (.invokestatic 92, 3) := by decide +kernel
theorem dX0_spreadOfPairs_45 : decode cX0_spreadOfPairs 45 = .ok (.iaload, 1) := by decide +kernel
theorem dX0_spreadOfPairs_46 : decode cX0_spreadOfPairs 46 = .ok (.istore 5, 2) := by decide +kernel
theorem dX0_spreadOfPairs_48 : decode cX0_spreadOfPairs 48 = .ok (.iload_n 1, 1) := by decide +kernel
theorem dX0_spreadOfPairs_49 : decode cX0_spreadOfPairs 49 = .ok (.iload 5, 2) := by decide +kernel
theorem dX0_spreadOfPairs_51 : decode cX0_spreadOfPairs 51 = .ok (.invokestatic 108, 3) := by decide +kernel
theorem dX0_spreadOfPairs_54 : decode cX0_spreadOfPairs 54 = .ok (.istore_n 1, 1) := by decide +kernel
theorem dX0_spreadOfPairs_55 : decode cX0_spreadOfPairs 55 = .ok (.iload_n 2, 1) := by decide +kernel
theorem dX0_spreadOfPairs_56 : decode cX0_spreadOfPairs 56 = .ok (.iload 5, 2) := by decide +kernel
theorem dX0_spreadOfPairs_58 : decode cX0_spreadOfPairs 58 = .ok (.invokestatic 113, 3) := by decide +kernel
theorem dX0_spreadOfPairs_61 : decode cX0_spreadOfPairs 61 = .ok (.istore_n 2, 1) := by decide +kernel
theorem dX0_spreadOfPairs_62 : decode cX0_spreadOfPairs 62 = .ok (.iinc 4 1, 3) := by decide +kernel
theorem dX0_spreadOfPairs_65 : decode cX0_spreadOfPairs 65 = .ok (.goto (-42), 3) := by decide +kernel
theorem dX0_spreadOfPairs_68 : decode cX0_spreadOfPairs 68 = .ok (.iinc 3 1, 3) := by decide +kernel
theorem dX0_spreadOfPairs_71 : decode cX0_spreadOfPairs 71 = .ok (.goto (-64), 3) := by decide +kernel
theorem dX0_spreadOfPairs_74 : decode cX0_spreadOfPairs 74 = .ok (.iload_n 1, 1) := by decide +kernel
theorem dX0_spreadOfPairs_75 : decode cX0_spreadOfPairs 75 = .ok (.iload_n 2, 1) := by decide +kernel
theorem dX0_spreadOfPairs_76 : decode cX0_spreadOfPairs 76 = .ok (.isub, 1) := by decide +kernel
theorem dX0_spreadOfPairs_77 : decode cX0_spreadOfPairs 77 = .ok (.ireturn, 1) := by decide +kernel
theorem dX0_spreadOfLoads_0 : decode cX0_spreadOfLoads 0 = .ok (.iconst 0, 1) := by decide +kernel
theorem dX0_spreadOfLoads_1 : decode cX0_spreadOfLoads 1 = .ok (.istore_n 1, 1) := by decide +kernel
theorem dX0_spreadOfLoads_2 : decode cX0_spreadOfLoads 2 = .ok (.ldc 107, 2) := by decide +kernel
theorem dX0_spreadOfLoads_4 : decode cX0_spreadOfLoads 4 = .ok (.istore_n 2, 1) := by decide +kernel
theorem dX0_spreadOfLoads_5 : decode cX0_spreadOfLoads 5 = .ok (.iconst 0, 1) := by decide +kernel
theorem dX0_spreadOfLoads_6 : decode cX0_spreadOfLoads 6 = .ok (.istore_n 3, 1) := by decide +kernel
theorem dX0_spreadOfLoads_7 : decode cX0_spreadOfLoads 7 = .ok (.iload_n 3, 1) := by decide +kernel
theorem dX0_spreadOfLoads_8 : decode cX0_spreadOfLoads 8 = .ok (.aload_n 0, 1) := by decide +kernel
theorem dX0_spreadOfLoads_9 : decode cX0_spreadOfLoads 9 = .ok (.getfield 9, 3) := by decide +kernel
theorem dX0_spreadOfLoads_12 : decode cX0_spreadOfLoads 12 = .ok (.getfield 86, 3) := by decide +kernel
theorem dX0_spreadOfLoads_15 : decode cX0_spreadOfLoads 15 = .ok (.if_icmp .ge 31, 3) := by decide +kernel
theorem dX0_spreadOfLoads_18 : decode cX0_spreadOfLoads 18 = .ok (.iload_n 1, 1) := by decide +kernel
theorem dX0_spreadOfLoads_19 : decode cX0_spreadOfLoads 19 = .ok (.aload_n 0, 1) := by decide +kernel
theorem dX0_spreadOfLoads_20 : decode cX0_spreadOfLoads 20 = .ok (.getfield 33, 3) := by decide +kernel
theorem dX0_spreadOfLoads_23 : decode cX0_spreadOfLoads 23 = .ok (.iload_n 3, 1) := by decide +kernel
theorem dX0_spreadOfLoads_24 : decode cX0_spreadOfLoads 24 = .ok (.iaload, 1) := by decide +kernel
theorem dX0_spreadOfLoads_25 : decode cX0_spreadOfLoads 25 = .ok (.invokestatic 108, 3) := by decide +kernel
theorem dX0_spreadOfLoads_28 : decode cX0_spreadOfLoads 28 = .ok (.istore_n 1, 1) := by decide +kernel
theorem dX0_spreadOfLoads_29 : decode cX0_spreadOfLoads 29 = .ok (.iload_n 2, 1) := by decide +kernel
theorem dX0_spreadOfLoads_30 : decode cX0_spreadOfLoads 30 = .ok (.aload_n 0, 1) := by decide +kernel
theorem dX0_spreadOfLoads_31 : decode cX0_spreadOfLoads 31 = .ok (.getfield 33, 3) := by decide +kernel
theorem dX0_spreadOfLoads_34 : decode cX0_spreadOfLoads 34 = .ok (.iload_n 3, 1) := by decide +kernel
theorem dX0_spreadOfLoads_35 : decode cX0_spreadOfLoads 35 = .ok (.iaload, 1) := by decide +kernel
theorem dX0_spreadOfLoads_36 : decode cX0_spreadOfLoads 36 = .ok (.invokestatic 113, 3) := by decide +kernel
theorem dX0_spreadOfLoads_39 : decode cX0_spreadOfLoads 39 = .ok (.istore_n 2, 1) := by decide +kernel
theorem dX0_spreadOfLoads_40 : decode cX0_spreadOfLoads 40 = .ok (.iinc 3 1, 3) := by decide +kernel
theorem dX0_spreadOfLoads_43 : decode cX0_spreadOfLoads 43 = .ok (.goto (-36), 3) := by decide +kernel
theorem dX0_spreadOfLoads_46 : decode cX0_spreadOfLoads 46 = .ok (.iload_n 1, 1) := by decide +kernel
theorem dX0_spreadOfLoads_47 : decode cX0_spreadOfLoads 47 = .ok (.iload_n 2, 1) := by decide +kernel
theorem dX0_spreadOfLoads_48 : decode cX0_spreadOfLoads 48 = .ok (.isub, 1) := by decide +kernel
theorem dX0_spreadOfLoads_49 : decode cX0_spreadOfLoads 49 = .ok (.ireturn, 1) := by decide +kernel
theorem dX0_evennessCounted_0 : decode cX0_evennessCounted 0 = .ok (.iconst 0, 1) := by decide +kernel
theorem dX0_evennessCounted_1 : decode cX0_evennessCounted 1 = .ok (.istore_n 1, 1) := by decide +kernel
theorem dX0_evennessCounted_2 : decode cX0_evennessCounted 2 = .ok (.iconst 0, 1) := by decide +kernel
theorem dX0_evennessCounted_3 : decode cX0_evennessCounted 3 = .ok (.istore_n 2, 1) := by decide +kernel
theorem dX0_evennessCounted_4 : decode cX0_evennessCounted 4 = .ok (.iload_n 2, 1) := by decide +kernel
theorem dX0_evennessCounted_5 : decode cX0_evennessCounted 5 = .ok (.aload_n 0, 1) := by decide +kernel
theorem dX0_evennessCounted_6 : decode cX0_evennessCounted 6 = .ok (.getfield 9, 3) := by decide +kernel
theorem dX0_evennessCounted_9 : decode cX0_evennessCounted 9 = .ok (.getfield 86, 3) := by decide +kernel
theorem dX0_evennessCounted_12 : decode cX0_evennessCounted 12 = .ok (.if_icmp .ge 50, 3) := by decide +kernel
theorem dX0_evennessCounted_15 : decode cX0_evennessCounted 15 = .ok (.iload_n 2, 1) := by decide +kernel
theorem dX0_evennessCounted_16 : decode cX0_evennessCounted 16 = .ok (.iconst 1, 1) := by decide +kernel
theorem dX0_evennessCounted_17 : decode cX0_evennessCounted 17 = .ok (.iadd, 1) := by decide +kernel
theorem dX0_evennessCounted_18 : decode cX0_evennessCounted 18 = .ok (.istore_n 3, 1) := by decide +kernel
theorem dX0_evennessCounted_19 : decode cX0_evennessCounted 19 = .ok (.iload_n 3, 1) := by decide +kernel
theorem dX0_evennessCounted_20 : decode cX0_evennessCounted 20 = .ok (.aload_n 0, 1) := by decide +kernel
theorem dX0_evennessCounted_21 : decode cX0_evennessCounted 21 = .ok (.getfield 9, 3) := by decide +kernel
theorem dX0_evennessCounted_24 : decode cX0_evennessCounted 24 = .ok (.getfield 86, 3) := by decide +kernel
theorem dX0_evennessCounted_27 : decode cX0_evennessCounted 27 = .ok (.if_icmp .ge 29, 3) := by decide +kernel
theorem dX0_evennessCounted_30 : decode cX0_evennessCounted 30 = .ok (.aload_n 0, 1) := by decide +kernel
theorem dX0_evennessCounted_31 : decode cX0_evennessCounted 31 = .ok (.getfield 29, 3) := by decide +kernel
theorem dX0_evennessCounted_34 : decode cX0_evennessCounted 34 = .ok (.iload_n 2, 1) := by decide +kernel
theorem dX0_evennessCounted_35 : decode cX0_evennessCounted 35 = .ok (.iload_n 3, 1) := by decide +kernel
theorem dX0_evennessCounted_36 : decode cX0_evennessCounted 36 = .ok (.invokestatic 92, 3) := by decide +kernel
theorem dX0_evennessCounted_39 : decode cX0_evennessCounted 39 = .ok (.iaload, 1) := by decide +kernel
theorem dX0_evennessCounted_40 : decode cX0_evennessCounted 40 = .ok (.istore 4, 2) := by decide +kernel
theorem dX0_evennessCounted_42 : decode cX0_evennessCounted 42 = .ok (.iload_n 1, 1) := by decide +kernel
theorem dX0_evennessCounted_43 : decode cX0_evennessCounted 43 = .ok (.iload 4, 2) := by decide +kernel
theorem dX0_evennessCounted_45 : decode cX0_evennessCounted 45 = .ok (.iload 4, 2) := by decide +kernel
theorem dX0_evennessCounted_47 : decode cX0_evennessCounted 47 = .ok (.imul, 1) := by decide +kernel
theorem dX0_evennessCounted_48 : decode cX0_evennessCounted 48 = .ok (.iadd, 1) := by decide +kernel
theorem dX0_evennessCounted_49 : decode cX0_evennessCounted 49 = .ok (.istore_n 1, 1) := by decide +kernel
theorem dX0_evennessCounted_50 : decode cX0_evennessCounted 50 = .ok (.iinc 3 1, 3) := by decide +kernel
theorem dX0_evennessCounted_53 : decode cX0_evennessCounted 53 = .ok (.goto (-34), 3) := by decide +kernel
theorem dX0_evennessCounted_56 : decode cX0_evennessCounted 56 = .ok (.iinc 2 1, 3) := by decide +kernel
theorem dX0_evennessCounted_59 : decode cX0_evennessCounted 59 = .ok (.goto (-55), 3) := by decide +kernel
theorem dX0_evennessCounted_62 : decode cX0_evennessCounted 62 = .ok (.iload_n 1, 1) := by decide +kernel
theorem dX0_evennessCounted_63 : decode cX0_evennessCounted 63 = .ok (.ireturn, 1) := by decide +kernel
theorem dX0_isLawful_0 : decode cX0_isLawful 0 = .ok (.iload_n 2, 1) := by decide +kernel
theorem dX0_isLawful_1 : decode cX0_isLawful 1 = .ok (.aload_n 0, 1) := by decide +kernel
theorem dX0_isLawful_2 : decode cX0_isLawful 2 = .ok (.getfield 18, 3) := by decide +kernel
theorem dX0_isLawful_5 : decode cX0_isLawful 5 = .ok (.getfield 70, 3) := by decide +kernel
theorem dX0_isLawful_8 : decode cX0_isLawful 8 = .ok (.iload_n 1, 1) := by decide +kernel
theorem dX0_isLawful_9 : decode cX0_isLawful 9 = .ok (.iaload, 1) := by decide +kernel
theorem dX0_isLawful_10 : decode cX0_isLawful 10 = .ok (.aload_n 0, 1) := by decide +kernel
theorem dX0_isLawful_11 : decode cX0_isLawful 11 = .ok (.getfield 18, 3) := by decide +kernel
theorem dX0_isLawful_14 : decode cX0_isLawful 14 = .ok (.getfield 116, 3) := by decide +kernel
theorem dX0_isLawful_17 : decode cX0_isLawful 17 = .ok (.ior, 1) := by decide +kernel
theorem dX0_isLawful_18 : decode cX0_isLawful 18 = .ok (.iand, 1) := by decide +kernel
theorem dX0_isLawful_19 : decode cX0_isLawful 19 = .ok (.ifCond .ne 19, 3) := by decide +kernel
theorem dX0_isLawful_22 : decode cX0_isLawful 22 = .ok (.iload_n 2, 1) := by decide +kernel
theorem dX0_isLawful_23 : decode cX0_isLawful 23 = .ok (.aload_n 0, 1) := by decide +kernel
theorem dX0_isLawful_24 : decode cX0_isLawful 24 = .ok (.getfield 9, 3) := by decide +kernel
theorem dX0_isLawful_27 : decode cX0_isLawful 27 = .ok (.getfield 119, 3) := by decide +kernel
theorem dX0_isLawful_30 : decode cX0_isLawful 30 = .ok (.iand, 1) := by decide +kernel
theorem dX0_isLawful_31 : decode cX0_isLawful 31 = .ok (.ifCond .eq 7, 3) := by decide +kernel
theorem dX0_isLawful_34 : decode cX0_isLawful 34 = .ok (.iconst 1, 1) := by decide +kernel
theorem dX0_isLawful_35 : decode cX0_isLawful 35 = .ok (.goto 4, 3) := by decide +kernel
theorem dX0_isLawful_38 : decode cX0_isLawful 38 = .ok (.iconst 0, 1) := by decide +kernel
theorem dX0_isLawful_39 : decode cX0_isLawful 39 = .ok (.ireturn, 1) := by decide +kernel
theorem dX0_listLawful_0 : decode cX0_listLawful 0 = .ok (.aload_n 0, 1) := by decide +kernel
theorem dX0_listLawful_1 : decode cX0_listLawful 1 = .ok (.iconst 0, 1) := by decide +kernel
theorem dX0_listLawful_2 : decode cX0_listLawful 2 = .ok (.putfield 122, 3) := by decide +kernel
theorem dX0_listLawful_5 : decode cX0_listLawful 5 = .ok (.iconst 0, 1) := by decide +kernel
theorem dX0_listLawful_6 : decode cX0_listLawful 6 = .ok (.istore_n 2, 1) := by decide +kernel
theorem dX0_listLawful_7 : decode cX0_listLawful 7 = .ok (.iload_n 2, 1) := by decide +kernel
theorem dX0_listLawful_8 : decode cX0_listLawful 8 = .ok (.aload_n 0, 1) := by decide +kernel
theorem dX0_listLawful_9 : decode cX0_listLawful 9 = .ok (.getfield 9, 3) := by decide +kernel
theorem dX0_listLawful_12 : decode cX0_listLawful 12 = .ok (.getfield 86, 3) := by decide +kernel
theorem dX0_listLawful_15 : decode cX0_listLawful 15 = .ok (.if_icmp .ge 45, 3) := by decide +kernel
theorem dX0_listLawful_18 : decode cX0_listLawful 18 = .ok (.iload_n 2, 1) := by decide +kernel
theorem dX0_listLawful_19 : decode cX0_listLawful 19 = .ok (.iconst 1, 1) := by decide +kernel
theorem dX0_listLawful_20 : decode cX0_listLawful 20 = .ok (.iadd, 1) := by decide +kernel
theorem dX0_listLawful_21 : decode cX0_listLawful 21 = .ok (.istore_n 3, 1) := by decide +kernel
theorem dX0_listLawful_22 : decode cX0_listLawful 22 = .ok (.iload_n 3, 1) := by decide +kernel
theorem dX0_listLawful_23 : decode cX0_listLawful 23 = .ok (.aload_n 0, 1) := by decide +kernel
theorem dX0_listLawful_24 : decode cX0_listLawful 24 = .ok (.getfield 9, 3) := by decide +kernel
theorem dX0_listLawful_27 : decode cX0_listLawful 27 = .ok (.getfield 86, 3) := by decide +kernel
theorem dX0_listLawful_30 : decode cX0_listLawful 30 = .ok (.if_icmp .ge 24, 3) := by decide +kernel
theorem dX0_listLawful_33 : decode cX0_listLawful 33 = .ok (.aload_n 0, 1) := by decide +kernel
theorem dX0_listLawful_34 : decode cX0_listLawful 34 = .ok (.iload_n 1, 1) := by decide +kernel
theorem dX0_listLawful_35 : decode cX0_listLawful 35 = .ok (.iconst 1, 1) := by decide +kernel
theorem dX0_listLawful_36 : decode cX0_listLawful 36 = .ok (.iload_n 2, 1) := by decide +kernel
theorem dX0_listLawful_37 : decode cX0_listLawful 37 = .ok (.ishl, 1) := by decide +kernel
theorem dX0_listLawful_38 : decode cX0_listLawful 38 = .ok (.iconst 1, 1) := by decide +kernel
theorem dX0_listLawful_39 : decode cX0_listLawful 39 = .ok (.iload_n 3, 1) := by decide +kernel
theorem dX0_listLawful_40 : decode cX0_listLawful 40 = .ok (.ishl, 1) := by decide +kernel
theorem dX0_listLawful_41 : decode cX0_listLawful 41 = .ok (.ior, 1) := by decide +kernel
theorem dX0_listLawful_42 : decode cX0_listLawful 42 = .ok (.iload_n 3, 1) := by decide +kernel
theorem dX0_listLawful_43 : decode cX0_listLawful 43 = .ok (.iconst 1, 1) := by decide +kernel
theorem dX0_listLawful_44 : decode cX0_listLawful 44 = .ok (.iadd, 1) := by decide +kernel
theorem dX0_listLawful_45 : decode cX0_listLawful 45 = .ok (.invokevirtual 125, 3) := by decide +kernel
theorem dX0_listLawful_48 : decode cX0_listLawful 48 = .ok (.iinc 3 1, 3) := by decide +kernel
theorem dX0_listLawful_51 : decode cX0_listLawful 51 = .ok (.goto (-29), 3) := by decide +kernel
theorem dX0_listLawful_54 : decode cX0_listLawful 54 = .ok (.iinc 2 1, 3) := by decide +kernel
theorem dX0_listLawful_57 : decode cX0_listLawful 57 = .ok (.goto (-50), 3) := by decide +kernel
theorem dX0_listLawful_60 : decode cX0_listLawful 60 = .ok (.return_, 1) := by decide +kernel
theorem dX0_listThirds_0 : decode cX0_listThirds 0 = .ok (.iload_n 3, 1) := by decide +kernel
theorem dX0_listThirds_1 : decode cX0_listThirds 1 = .ok (.istore 4, 2) := by decide +kernel
theorem dX0_listThirds_3 : decode cX0_listThirds 3 = .ok (.iload 4, 2) := by decide +kernel
theorem dX0_listThirds_5 : decode cX0_listThirds 5 = .ok (.aload_n 0, 1) := by decide +kernel
theorem dX0_listThirds_6 : decode cX0_listThirds 6 = .ok (.getfield 9, 3) := by decide +kernel
theorem dX0_listThirds_9 : decode cX0_listThirds 9 = .ok (.getfield 86, 3) := by decide +kernel
theorem dX0_listThirds_12 : decode cX0_listThirds 12 = .ok (.if_icmp .ge 57, 3) := by decide +kernel
theorem dX0_listThirds_15 : decode cX0_listThirds 15 = .ok (.iload_n 2, 1) := by decide +kernel
theorem dX0_listThirds_16 : decode cX0_listThirds 16 = .ok (.iconst 1, 1) := by decide +kernel
theorem dX0_listThirds_17 : decode cX0_listThirds 17 = .ok (.iload 4, 2) := by decide +kernel
theorem dX0_listThirds_19 : decode cX0_listThirds 19 = .ok (.ishl, 1) := by decide +kernel
theorem dX0_listThirds_20 : decode cX0_listThirds 20 = .ok (.ior, 1) := by decide +kernel
theorem dX0_listThirds_21 : decode cX0_listThirds 21 = .ok (.istore 5, 2) := by decide +kernel
theorem dX0_listThirds_23 : decode cX0_listThirds 23 = .ok (.aload_n 0, 1) := by decide +kernel
theorem dX0_listThirds_24 : decode cX0_listThirds 24 = .ok (.iload_n 1, 1) := by decide +kernel
theorem dX0_listThirds_25 : decode cX0_listThirds 25 = .ok (.iload 5, 2) := by decide +kernel
theorem dX0_listThirds_27 : decode cX0_listThirds 27 = .ok (.invokevirtual 128, 3) := by decide +kernel
theorem dX0_listThirds_30 : decode cX0_listThirds 30 = .ok (.ifCond .eq 33, 3) := by decide +kernel
theorem dX0_listThirds_33 : decode cX0_listThirds 33 = .ok (.aload_n 0, 1) := by decide +kernel
theorem dX0_listThirds_34 : decode cX0_listThirds 34 = .ok (.getfield 122, 3) := by decide +kernel
theorem dX0_listThirds_37 : decode cX0_listThirds 37 = .ok (.bipush 84, 2) := by decide +kernel
theorem dX0_listThirds_39 : decode cX0_listThirds 39 = .ok (.if_icmp .ge 24, 3) := by decide +kernel
theorem dX0_listThirds_42 : decode cX0_listThirds 42 = .ok (.aload_n 0, 1) := by decide +kernel
theorem dX0_listThirds_43 : decode cX0_listThirds 43 = .ok (.getfield 36, 3) := by decide +kernel
theorem dX0_listThirds_46 : decode cX0_listThirds 46 = .ok (.aload_n 0, 1) := by decide +kernel
theorem dX0_listThirds_47 : decode cX0_listThirds 47 = .ok (.getfield 122, 3) := by decide +kernel
theorem dX0_listThirds_50 : decode cX0_listThirds 50 = .ok (.iload 5, 2) := by decide +kernel
theorem dX0_listThirds_52 : decode cX0_listThirds 52 = .ok (.iastore, 1) := by decide +kernel
theorem dX0_listThirds_53 : decode cX0_listThirds 53 = .ok (.aload_n 0, 1) := by decide +kernel
theorem dX0_listThirds_54 : decode cX0_listThirds 54 = .ok (.dup, 1) := by decide +kernel
theorem dX0_listThirds_55 : decode cX0_listThirds 55 = .ok (.getfield 122, 3) := by decide +kernel
theorem dX0_listThirds_58 : decode cX0_listThirds 58 = .ok (.iconst 1, 1) := by decide +kernel
theorem dX0_listThirds_59 : decode cX0_listThirds 59 = .ok (.iadd, 1) := by decide +kernel
theorem dX0_listThirds_60 : decode cX0_listThirds 60 = .ok (.putfield 122, 3) := by decide +kernel
theorem dX0_listThirds_63 : decode cX0_listThirds 63 = .ok (.iinc 4 1, 3) := by decide +kernel
theorem dX0_listThirds_66 : decode cX0_listThirds 66 = .ok (.goto (-63), 3) := by decide +kernel
theorem dX0_listThirds_69 : decode cX0_listThirds 69 = .ok (.return_, 1) := by decide +kernel
theorem dX0_placeListed_0 : decode cX0_placeListed 0 = .ok (.iconst 0, 1) := by decide +kernel
theorem dX0_placeListed_1 : decode cX0_placeListed 1 = .ok (.istore_n 2, 1) := by decide +kernel
theorem dX0_placeListed_2 : decode cX0_placeListed 2 = .ok (.iload_n 2, 1) := by decide +kernel
theorem dX0_placeListed_3 : decode cX0_placeListed 3 = .ok (.aload_n 0, 1) := by decide +kernel
theorem dX0_placeListed_4 : decode cX0_placeListed 4 = .ok (.getfield 122, 3) := by decide +kernel
theorem dX0_placeListed_7 : decode cX0_placeListed 7 = .ok (.if_icmp .ge 21, 3) := by decide +kernel
theorem dX0_placeListed_10 : decode cX0_placeListed 10 = .ok (.aload_n 0, 1) := by decide +kernel
theorem dX0_placeListed_11 : decode cX0_placeListed 11 = .ok (.getfield 36, 3) := by decide +kernel
theorem dX0_placeListed_14 : decode cX0_placeListed 14 = .ok (.iload_n 2, 1) := by decide +kernel
theorem dX0_placeListed_15 : decode cX0_placeListed 15 = .ok (.iaload, 1) := by decide +kernel
theorem dX0_placeListed_16 : decode cX0_placeListed 16 = .ok (.iload_n 1, 1) := by decide +kernel
theorem dX0_placeListed_17 : decode cX0_placeListed 17 = .ok (.if_icmp .ne 5, 3) := by decide +kernel
theorem dX0_placeListed_20 : decode cX0_placeListed 20 = .ok (.iload_n 2, 1) := by decide +kernel
theorem dX0_placeListed_21 : decode cX0_placeListed 21 = .ok (.ireturn, 1) := by decide +kernel
theorem dX0_placeListed_22 : decode cX0_placeListed 22 = .ok (.iinc 2 1, 3) := by decide +kernel
theorem dX0_placeListed_25 : decode cX0_placeListed 25 = .ok (.goto (-23), 3) := by decide +kernel
theorem dX0_placeListed_28 : decode cX0_placeListed 28 = .ok (.iconst (-1), 1) := by decide +kernel
theorem dX0_placeListed_29 : decode cX0_placeListed 29 = .ok (.ireturn, 1) := by decide +kernel
theorem dX0_gatherPool_0 : decode cX0_gatherPool 0 = .ok (.aload_n 0, 1) := by decide +kernel
theorem dX0_gatherPool_1 : decode cX0_gatherPool 1 = .ok (.iload_n 1, 1) := by decide +kernel
theorem dX0_gatherPool_2 : decode cX0_gatherPool 2 = .ok (.invokevirtual 131, 3) := by decide +kernel
theorem dX0_gatherPool_5 : decode cX0_gatherPool 5 = .ok (.aload_n 0, 1) := by decide +kernel
theorem dX0_gatherPool_6 : decode cX0_gatherPool 6 = .ok (.iload_n 1, 1) := by decide +kernel
theorem dX0_gatherPool_7 : decode cX0_gatherPool 7 = .ok (.invokevirtual 135, 3) := by decide +kernel
theorem dX0_gatherPool_10 : decode cX0_gatherPool 10 = .ok (.iconst 0, 1) := by decide +kernel
theorem dX0_gatherPool_11 : decode cX0_gatherPool 11 = .ok (.istore_n 2, 1) := by decide +kernel
theorem dX0_gatherPool_12 : decode cX0_gatherPool 12 = .ok (.iload_n 2, 1) := by decide +kernel
theorem dX0_gatherPool_13 : decode cX0_gatherPool 13 = .ok (.aload_n 0, 1) := by decide +kernel
theorem dX0_gatherPool_14 : decode cX0_gatherPool 14 = .ok (.getfield 122, 3) := by decide +kernel
theorem dX0_gatherPool_17 : decode cX0_gatherPool 17 = .ok (.if_icmp .ge 25, 3) := by decide +kernel
theorem dX0_gatherPool_20 : decode cX0_gatherPool 20 = .ok (.aload_n 0, 1) := by decide +kernel
theorem dX0_gatherPool_21 : decode cX0_gatherPool 21 = .ok (.getfield 39, 3) := by decide +kernel
theorem dX0_gatherPool_24 : decode cX0_gatherPool 24 = .ok (.iload_n 2, 1) := by decide +kernel
theorem dX0_gatherPool_25 : decode cX0_gatherPool 25 = .ok (.aload_n 0, 1) := by decide +kernel
theorem dX0_gatherPool_26 : decode cX0_gatherPool 26 = .ok (.aload_n 0, 1) := by decide +kernel
theorem dX0_gatherPool_27 : decode cX0_gatherPool 27 = .ok (.getfield 36, 3) := by decide +kernel
theorem dX0_gatherPool_30 : decode cX0_gatherPool 30 = .ok (.iload_n 2, 1) := by decide +kernel
theorem dX0_gatherPool_31 : decode cX0_gatherPool 31 = .ok (.iaload, 1) := by decide +kernel
theorem dX0_gatherPool_32 : decode cX0_gatherPool 32 = .ok (.invokevirtual 138, 3) := by decide +kernel
theorem dX0_gatherPool_35 : decode cX0_gatherPool 35 = .ok (.iastore, 1) := by decide +kernel
theorem dX0_gatherPool_36 : decode cX0_gatherPool 36 = .ok (.iinc 2 1, 3) := by decide +kernel
theorem dX0_gatherPool_39 : decode cX0_gatherPool 39 = .ok (.goto (-27), 3) := by decide +kernel
theorem dX0_gatherPool_42 : decode cX0_gatherPool 42 = .ok (.aload_n 0, 1) := by decide +kernel
theorem dX0_gatherPool_43 : decode cX0_gatherPool 43 = .ok (.iconst 0, 1) := by decide +kernel
theorem dX0_gatherPool_44 : decode cX0_gatherPool 44 = .ok (.putfield 141, 3) := by decide +kernel
theorem dX0_gatherPool_47 : decode cX0_gatherPool 47 = .ok (.aload_n 0, 1) := by decide +kernel
theorem dX0_gatherPool_48 : decode cX0_gatherPool 48 = .ok (.iconst (-1), 1) := by decide +kernel
theorem dX0_gatherPool_49 : decode cX0_gatherPool 49 = .ok (.putfield 144, 3) := by decide +kernel
theorem dX0_gatherPool_52 : decode cX0_gatherPool 52 = .ok (.iconst 0, 1) := by decide +kernel
theorem dX0_gatherPool_53 : decode cX0_gatherPool 53 = .ok (.istore_n 2, 1) := by decide +kernel
theorem dX0_gatherPool_54 : decode cX0_gatherPool 54 = .ok (.iload_n 2, 1) := by decide +kernel
theorem dX0_gatherPool_55 : decode cX0_gatherPool 55 = .ok (.aload_n 0, 1) := by decide +kernel
theorem dX0_gatherPool_56 : decode cX0_gatherPool 56 = .ok (.getfield 122, 3) := by decide +kernel
theorem dX0_gatherPool_59 : decode cX0_gatherPool 59 = .ok (.if_icmp .ge 63, 3) := by decide +kernel
theorem dX0_gatherPool_62 : decode cX0_gatherPool 62 = .ok (.aload_n 0, 1) := by decide +kernel
theorem dX0_gatherPool_63 : decode cX0_gatherPool 63 = .ok (.getfield 141, 3) := by decide +kernel
theorem dX0_gatherPool_66 : decode cX0_gatherPool 66 = .ok (.aload_n 0, 1) := by decide +kernel
theorem dX0_gatherPool_67 : decode cX0_gatherPool 67 = .ok (.getfield 122, 3) := by decide +kernel
theorem dX0_gatherPool_70 : decode cX0_gatherPool 70 = .ok (.if_icmp .ge 52, 3) := by decide +kernel
theorem dX0_gatherPool_73 : decode cX0_gatherPool 73 = .ok (.aload_n 0, 1) := by decide +kernel
theorem dX0_gatherPool_74 : decode cX0_gatherPool 74 = .ok (.getfield 141, 3) := by decide +kernel
theorem dX0_gatherPool_77 : decode cX0_gatherPool 77 = .ok (.aload_n 0, 1) := by decide +kernel
theorem dX0_gatherPool_78 : decode cX0_gatherPool 78 = .ok (.getfield 9, 3) := by decide +kernel
theorem dX0_gatherPool_81 : decode cX0_gatherPool 81 = .ok (.getfield 147, 3) := by decide +kernel
theorem dX0_gatherPool_84 : decode cX0_gatherPool 84 = .ok (.if_icmp .ge 38, 3) := by decide +kernel
theorem dX0_gatherPool_87 : decode cX0_gatherPool 87 = .ok (.aload_n 0, 1) := by decide +kernel
theorem dX0_gatherPool_88 : decode cX0_gatherPool 88 = .ok (.aload_n 0, 1) := by decide +kernel
theorem dX0_gatherPool_89 : decode cX0_gatherPool 89 = .ok (.aload_n 0, 1) := by decide +kernel
theorem dX0_gatherPool_90 : decode cX0_gatherPool 90 = .ok (.getfield 144, 3) := by decide +kernel
theorem dX0_gatherPool_93 : decode cX0_gatherPool 93 = .ok (.invokevirtual 150, 3) := by decide +kernel
theorem dX0_gatherPool_96 : decode cX0_gatherPool 96 = .ok (.putfield 144, 3) := by decide +kernel
theorem dX0_gatherPool_99 : decode cX0_gatherPool 99 = .ok (.aload_n 0, 1) := by decide +kernel
theorem dX0_gatherPool_100 : decode cX0_gatherPool 100 = .ok (.dup, 1) := by decide +kernel
theorem dX0_gatherPool_101 : decode cX0_gatherPool 101 = .ok (.getfield 141, 3) := by decide +kernel
theorem dX0_gatherPool_104 : decode cX0_gatherPool 104 = .ok (.aload_n 0, 1) := by decide +kernel
theorem dX0_gatherPool_105 : decode cX0_gatherPool 105 = .ok (.aload_n 0, 1) := by decide +kernel
theorem dX0_gatherPool_106 : decode cX0_gatherPool 106 = .ok (.getfield 144, 3) := by decide +kernel
theorem dX0_gatherPool_109 : decode cX0_gatherPool 109 = .ok (.invokevirtual 153, 3) := by decide +kernel
theorem dX0_gatherPool_112 : decode cX0_gatherPool 112 = .ok (.iadd, 1) := by decide +kernel
theorem dX0_gatherPool_113 : decode cX0_gatherPool 113 = .ok (.putfield 141, 3) := by decide +kernel
theorem dX0_gatherPool_116 : decode cX0_gatherPool 116 = .ok (.iinc 2 1, 3) := by decide +kernel
theorem dX0_gatherPool_119 : decode cX0_gatherPool 119 = .ok (.goto (-65), 3) := by decide +kernel
theorem dX0_gatherPool_122 : decode cX0_gatherPool 122 = .ok (.return_, 1) := by decide +kernel
theorem dX0_leastTensionAbove_0 : decode cX0_leastTensionAbove 0 = .ok (.ldc 107, 2) := by decide +kernel
theorem dX0_leastTensionAbove_2 : decode cX0_leastTensionAbove 2 = .ok (.istore_n 2, 1) := by decide +kernel
theorem dX0_leastTensionAbove_3 : decode cX0_leastTensionAbove 3 = .ok (.iconst 0, 1) := by decide +kernel
theorem dX0_leastTensionAbove_4 : decode cX0_leastTensionAbove 4 = .ok (.istore_n 3, 1) := by decide +kernel
theorem dX0_leastTensionAbove_5 : decode cX0_leastTensionAbove 5 = .ok (.iload_n 3, 1) := by decide +kernel
theorem dX0_leastTensionAbove_6 : decode cX0_leastTensionAbove 6 = .ok (.aload_n 0, 1) := by decide +kernel
theorem dX0_leastTensionAbove_7 : decode cX0_leastTensionAbove 7 = .ok (.getfield 122, 3) := by decide +kernel
theorem dX0_leastTensionAbove_10 : decode cX0_leastTensionAbove 10 = .ok (.if_icmp .ge 30, 3) := by decide +kernel
theorem dX0_leastTensionAbove_13 : decode cX0_leastTensionAbove 13 = .ok (.aload_n 0, 1) := by decide +kernel
theorem dX0_leastTensionAbove_14 : decode cX0_leastTensionAbove 14 = .ok (.getfield 39, 3) := by decide +kernel
theorem dX0_leastTensionAbove_17 : decode cX0_leastTensionAbove 17 = .ok (.iload_n 3, 1) := by decide +kernel
theorem dX0_leastTensionAbove_18 : decode cX0_leastTensionAbove 18 = .ok (.iaload, 1) := by decide +kernel
theorem dX0_leastTensionAbove_19 : decode cX0_leastTensionAbove 19 = .ok (.iload_n 1, 1) := by decide +kernel
theorem dX0_leastTensionAbove_20 : decode cX0_leastTensionAbove 20 = .ok (.if_icmp .le 14, 3) := by decide +kernel
theorem dX0_leastTensionAbove_23 : decode cX0_leastTensionAbove 23 = .ok (.iload_n 2, 1) := by decide +kernel
theorem dX0_leastTensionAbove_24 : decode cX0_leastTensionAbove 24 = .ok (.aload_n 0, 1) := by decide +kernel
theorem dX0_leastTensionAbove_25 : decode cX0_leastTensionAbove 25 = .ok (.getfield 39, 3) := by decide +kernel
theorem dX0_leastTensionAbove_28 : decode cX0_leastTensionAbove 28 = .ok (.iload_n 3, 1) := by decide +kernel
theorem dX0_leastTensionAbove_29 : decode cX0_leastTensionAbove 29 = .ok (.iaload, 1) := by decide +kernel
theorem dX0_leastTensionAbove_30 : decode cX0_leastTensionAbove 30 = .ok (.invokestatic 113, 3) := by decide +kernel
theorem dX0_leastTensionAbove_33 : decode cX0_leastTensionAbove 33 = .ok (.istore_n 2, 1) := by decide +kernel
theorem dX0_leastTensionAbove_34 : decode cX0_leastTensionAbove 34 = .ok (.iinc 3 1, 3) := by decide +kernel
theorem dX0_leastTensionAbove_37 : decode cX0_leastTensionAbove 37 = .ok (.goto (-32), 3) := by decide +kernel
theorem dX0_leastTensionAbove_40 : decode cX0_leastTensionAbove 40 = .ok (.iload_n 2, 1) := by decide +kernel
theorem dX0_leastTensionAbove_41 : decode cX0_leastTensionAbove 41 = .ok (.ireturn, 1) := by decide +kernel
theorem dX0_countListedAt_0 : decode cX0_countListedAt 0 = .ok (.iconst 0, 1) := by decide +kernel
theorem dX0_countListedAt_1 : decode cX0_countListedAt 1 = .ok (.istore_n 2, 1) := by decide +kernel
theorem dX0_countListedAt_2 : decode cX0_countListedAt 2 = .ok (.iconst 0, 1) := by decide +kernel
theorem dX0_countListedAt_3 : decode cX0_countListedAt 3 = .ok (.istore_n 3, 1) := by decide +kernel
theorem dX0_countListedAt_4 : decode cX0_countListedAt 4 = .ok (.iload_n 3, 1) := by decide +kernel
theorem dX0_countListedAt_5 : decode cX0_countListedAt 5 = .ok (.aload_n 0, 1) := by decide +kernel
theorem dX0_countListedAt_6 : decode cX0_countListedAt 6 = .ok (.getfield 122, 3) := by decide +kernel
theorem dX0_countListedAt_9 : decode cX0_countListedAt 9 = .ok (.if_icmp .ge 22, 3) := by decide +kernel
theorem dX0_countListedAt_12 : decode cX0_countListedAt 12 = .ok (.aload_n 0, 1) := by decide +kernel
theorem dX0_countListedAt_13 : decode cX0_countListedAt 13 = .ok (.getfield 39, 3) := by decide +kernel
theorem dX0_countListedAt_16 : decode cX0_countListedAt 16 = .ok (.iload_n 3, 1) := by decide +kernel
theorem dX0_countListedAt_17 : decode cX0_countListedAt 17 = .ok (.iaload, 1) := by decide +kernel
theorem dX0_countListedAt_18 : decode cX0_countListedAt 18 = .ok (.iload_n 1, 1) := by decide +kernel
theorem dX0_countListedAt_19 : decode cX0_countListedAt 19 = .ok (.if_icmp .ne 6, 3) := by decide +kernel
theorem dX0_countListedAt_22 : decode cX0_countListedAt 22 = .ok (.iinc 2 1, 3) := by decide +kernel
theorem dX0_countListedAt_25 : decode cX0_countListedAt 25 = .ok (.iinc 3 1, 3) := by decide +kernel
theorem dX0_countListedAt_28 : decode cX0_countListedAt 28 = .ok (.goto (-24), 3) := by decide +kernel
theorem dX0_countListedAt_31 : decode cX0_countListedAt 31 = .ok (.iload_n 2, 1) := by decide +kernel
theorem dX0_countListedAt_32 : decode cX0_countListedAt 32 = .ok (.ireturn, 1) := by decide +kernel
theorem dX0_pooledWith_0 : decode cX0_pooledWith 0 = .ok (.iconst 0, 1) := by decide +kernel
theorem dX0_pooledWith_1 : decode cX0_pooledWith 1 = .ok (.istore_n 2, 1) := by decide +kernel
theorem dX0_pooledWith_2 : decode cX0_pooledWith 2 = .ok (.iconst 0, 1) := by decide +kernel
theorem dX0_pooledWith_3 : decode cX0_pooledWith 3 = .ok (.istore_n 3, 1) := by decide +kernel
theorem dX0_pooledWith_4 : decode cX0_pooledWith 4 = .ok (.iload_n 3, 1) := by decide +kernel
theorem dX0_pooledWith_5 : decode cX0_pooledWith 5 = .ok (.aload_n 0, 1) := by decide +kernel
theorem dX0_pooledWith_6 : decode cX0_pooledWith 6 = .ok (.getfield 122, 3) := by decide +kernel
theorem dX0_pooledWith_9 : decode cX0_pooledWith 9 = .ok (.if_icmp .ge 38, 3) := by decide +kernel
theorem dX0_pooledWith_12 : decode cX0_pooledWith 12 = .ok (.aload_n 0, 1) := by decide +kernel
theorem dX0_pooledWith_13 : decode cX0_pooledWith 13 = .ok (.getfield 39, 3) := by decide +kernel
theorem dX0_pooledWith_16 : decode cX0_pooledWith 16 = .ok (.iload_n 3, 1) := by decide +kernel
theorem dX0_pooledWith_17 : decode cX0_pooledWith 17 = .ok (.iaload, 1) := by decide +kernel
theorem dX0_pooledWith_18 : decode cX0_pooledWith 18 = .ok (.aload_n 0, 1) := by decide +kernel
theorem dX0_pooledWith_19 : decode cX0_pooledWith 19 = .ok (.getfield 144, 3) := by decide +kernel
theorem dX0_pooledWith_22 : decode cX0_pooledWith 22 = .ok (.if_icmp .gt 19, 3) := by decide +kernel
theorem dX0_pooledWith_25 : decode cX0_pooledWith 25 = .ok (.aload_n 0, 1) := by decide +kernel
theorem dX0_pooledWith_26 : decode cX0_pooledWith 26 = .ok (.getfield 36, 3) := by decide +kernel
theorem dX0_pooledWith_29 : decode cX0_pooledWith 29 = .ok (.iload_n 3, 1) := by decide +kernel
theorem dX0_pooledWith_30 : decode cX0_pooledWith 30 = .ok (.iaload, 1) := by decide +kernel
theorem dX0_pooledWith_31 : decode cX0_pooledWith 31 = .ok (.iload_n 1, 1) := by decide +kernel
theorem dX0_pooledWith_32 : decode cX0_pooledWith 32 = .ok (.invokestatic 62, 3) := by decide +kernel
theorem dX0_pooledWith_35 : decode cX0_pooledWith 35 = .ok (.ifCond .eq 6, 3) := by decide +kernel
theorem dX0_pooledWith_38 : decode cX0_pooledWith 38 = .ok (.iinc 2 1, 3) := by decide +kernel
theorem dX0_pooledWith_41 : decode cX0_pooledWith 41 = .ok (.iinc 3 1, 3) := by decide +kernel
theorem dX0_pooledWith_44 : decode cX0_pooledWith 44 = .ok (.goto (-40), 3) := by decide +kernel
theorem dX0_pooledWith_47 : decode cX0_pooledWith 47 = .ok (.iload_n 2, 1) := by decide +kernel
theorem dX0_pooledWith_48 : decode cX0_pooledWith 48 = .ok (.ireturn, 1) := by decide +kernel
theorem dX0_pooledAt_0 : decode cX0_pooledAt 0 = .ok (.iload_n 1, 1) := by decide +kernel
theorem dX0_pooledAt_1 : decode cX0_pooledAt 1 = .ok (.istore_n 2, 1) := by decide +kernel
theorem dX0_pooledAt_2 : decode cX0_pooledAt 2 = .ok (.iconst 0, 1) := by decide +kernel
theorem dX0_pooledAt_3 : decode cX0_pooledAt 3 = .ok (.istore_n 3, 1) := by decide +kernel
theorem dX0_pooledAt_4 : decode cX0_pooledAt 4 = .ok (.iload_n 3, 1) := by decide +kernel
theorem dX0_pooledAt_5 : decode cX0_pooledAt 5 = .ok (.aload_n 0, 1) := by decide +kernel
theorem dX0_pooledAt_6 : decode cX0_pooledAt 6 = .ok (.getfield 122, 3) := by decide +kernel
theorem dX0_pooledAt_9 : decode cX0_pooledAt 9 = .ok (.if_icmp .ge 36, 3) := by decide +kernel
theorem dX0_pooledAt_12 : decode cX0_pooledAt 12 = .ok (.aload_n 0, 1) := by decide +kernel
theorem dX0_pooledAt_13 : decode cX0_pooledAt 13 = .ok (.getfield 39, 3) := by decide +kernel
theorem dX0_pooledAt_16 : decode cX0_pooledAt 16 = .ok (.iload_n 3, 1) := by decide +kernel
theorem dX0_pooledAt_17 : decode cX0_pooledAt 17 = .ok (.iaload, 1) := by decide +kernel
theorem dX0_pooledAt_18 : decode cX0_pooledAt 18 = .ok (.aload_n 0, 1) := by decide +kernel
theorem dX0_pooledAt_19 : decode cX0_pooledAt 19 = .ok (.getfield 144, 3) := by decide +kernel
theorem dX0_pooledAt_22 : decode cX0_pooledAt 22 = .ok (.if_icmp .gt 17, 3) := by decide +kernel
theorem dX0_pooledAt_25 : decode cX0_pooledAt 25 = .ok (.iload_n 2, 1) := by decide +kernel
theorem dX0_pooledAt_26 : decode cX0_pooledAt 26 = .ok (.ifCond .ne 10, 3) := by decide +kernel
theorem dX0_pooledAt_29 : decode cX0_pooledAt 29 = .ok (.aload_n 0, 1) := by decide +kernel
theorem dX0_pooledAt_30 : decode cX0_pooledAt 30 = .ok (.getfield 36, 3) := by decide +kernel
theorem dX0_pooledAt_33 : decode cX0_pooledAt 33 = .ok (.iload_n 3, 1) := by decide +kernel
theorem dX0_pooledAt_34 : decode cX0_pooledAt 34 = .ok (.iaload, 1) := by decide +kernel
theorem dX0_pooledAt_35 : decode cX0_pooledAt 35 = .ok (.ireturn, 1) := by decide +kernel
theorem dX0_pooledAt_36 : decode cX0_pooledAt 36 = .ok (.iinc 2 (-1), 3) := by decide +kernel
theorem dX0_pooledAt_39 : decode cX0_pooledAt 39 = .ok (.iinc 3 1, 3) := by decide +kernel
theorem dX0_pooledAt_42 : decode cX0_pooledAt 42 = .ok (.goto (-38), 3) := by decide +kernel
theorem dX0_pooledAt_45 : decode cX0_pooledAt 45 = .ok (.iconst (-1), 1) := by decide +kernel
theorem dX0_pooledAt_46 : decode cX0_pooledAt 46 = .ok (.ireturn, 1) := by decide +kernel
theorem dX0_drawOne_0 : decode cX0_drawOne 0 = .ok (.aload_n 0, 1) := by decide +kernel
theorem dX0_drawOne_1 : decode cX0_drawOne 1 = .ok (.iload_n 1, 1) := by decide +kernel
theorem dX0_drawOne_2 : decode cX0_drawOne 2 = .ok (.invokevirtual 156, 3) := by decide +kernel
theorem dX0_drawOne_5 : decode cX0_drawOne 5 = .ok (.aload_n 0, 1) := by decide +kernel
theorem dX0_drawOne_6 : decode cX0_drawOne 6 = .ok (.getfield 141, 3) := by decide +kernel
theorem dX0_drawOne_9 : decode cX0_drawOne 9 = .ok (.ifCond .gt 5, 3) := by decide +kernel
theorem dX0_drawOne_12 : decode cX0_drawOne 12 = .ok (.iconst (-1), 1) := by decide +kernel
theorem dX0_drawOne_13 : decode cX0_drawOne 13 = .ok (.ireturn, 1) := by decide +kernel
theorem dX0_drawOne_14 : decode cX0_drawOne 14 = .ok (.aload_n 0, 1) := by decide +kernel
theorem dX0_drawOne_15 : decode cX0_drawOne 15 = .ok (.getfield 18, 3) := by decide +kernel
theorem dX0_drawOne_18 : decode cX0_drawOne 18 = .ok (.aload_n 0, 1) := by decide +kernel
theorem dX0_drawOne_19 : decode cX0_drawOne 19 = .ok (.getfield 18, 3) := by decide +kernel
theorem dX0_drawOne_22 : decode cX0_drawOne 22 = .ok (.getfield 159, 3) := by decide +kernel
theorem dX0_drawOne_25 : decode cX0_drawOne 25 = .ok (.ldc 162, 2) := by decide +kernel
theorem dX0_drawOne_27 : decode cX0_drawOne 27 = .ok (.imul, 1) := by decide +kernel
theorem dX0_drawOne_28 : decode cX0_drawOne 28 = .ok (.sipush 12345, 3) := by decide +kernel
theorem dX0_drawOne_31 : decode cX0_drawOne 31 = .ok (.iadd, 1) := by decide +kernel
theorem dX0_drawOne_32 : decode cX0_drawOne 32 = .ok (.putfield 159, 3) := by decide +kernel
theorem dX0_drawOne_35 : decode cX0_drawOne 35 = .ok (.aload_n 0, 1) := by decide +kernel
theorem dX0_drawOne_36 : decode cX0_drawOne 36 = .ok (.aload_n 0, 1) := by decide +kernel
theorem dX0_drawOne_37 : decode cX0_drawOne 37 = .ok (.getfield 18, 3) := by decide +kernel
theorem dX0_drawOne_40 : decode cX0_drawOne 40 = .ok (.getfield 159, 3) := by decide +kernel
theorem dX0_drawOne_43 : decode cX0_drawOne 43 = .ok (.bipush 8, 2) := by decide +kernel
theorem dX0_drawOne_45 : decode cX0_drawOne 45 = .ok (.iushr, 1) := by decide +kernel
theorem dX0_drawOne_46 : decode cX0_drawOne 46 = .ok (.aload_n 0, 1) := by decide +kernel
theorem dX0_drawOne_47 : decode cX0_drawOne 47 = .ok (.getfield 141, 3) := by decide +kernel
theorem dX0_drawOne_50 : decode cX0_drawOne 50 = .ok (.irem, 1) := by decide +kernel
theorem dX0_drawOne_51 : decode cX0_drawOne 51 = .ok (.invokevirtual 163, 3) := by decide +kernel
theorem dX0_drawOne_54 : decode cX0_drawOne 54 = .ok (.istore_n 2, 1) := by decide +kernel
theorem dX0_drawOne_55 : decode cX0_drawOne 55 = .ok (.aload_n 0, 1) := by decide +kernel
theorem dX0_drawOne_56 : decode cX0_drawOne 56 = .ok (.getfield 18, 3) := by decide +kernel
theorem dX0_drawOne_59 : decode cX0_drawOne 59 = .ok (.getfield 59, 3) := by decide +kernel
theorem dX0_drawOne_62 : decode cX0_drawOne 62 = .ok (.iload_n 1, 1) := by decide +kernel
theorem dX0_drawOne_63 : decode cX0_drawOne 63 = .ok (.iload_n 2, 1) := by decide +kernel
theorem dX0_drawOne_64 : decode cX0_drawOne 64 = .ok (.iastore, 1) := by decide +kernel
theorem dX0_drawOne_65 : decode cX0_drawOne 65 = .ok (.aload_n 0, 1) := by decide +kernel
theorem dX0_drawOne_66 : decode cX0_drawOne 66 = .ok (.getfield 18, 3) := by decide +kernel
theorem dX0_drawOne_69 : decode cX0_drawOne 69 = .ok (.getfield 52, 3) := by decide +kernel
theorem dX0_drawOne_72 : decode cX0_drawOne 72 = .ok (.iload_n 1, 1) := by decide +kernel
theorem dX0_drawOne_73 : decode cX0_drawOne 73 = .ok (.iconst 1, 1) := by decide +kernel
theorem dX0_drawOne_74 : decode cX0_drawOne 74 = .ok (.iastore, 1) := by decide +kernel
theorem dX0_drawOne_75 : decode cX0_drawOne 75 = .ok (.iload_n 2, 1) := by decide +kernel
theorem dX0_drawOne_76 : decode cX0_drawOne 76 = .ok (.ireturn, 1) := by decide +kernel
theorem dX0_drawEveryOpen_0 : decode cX0_drawEveryOpen 0 = .ok (.iconst 0, 1) := by decide +kernel
theorem dX0_drawEveryOpen_1 : decode cX0_drawEveryOpen 1 = .ok (.istore_n 1, 1) := by decide +kernel
theorem dX0_drawEveryOpen_2 : decode cX0_drawEveryOpen 2 = .ok (.iconst 0, 1) := by decide +kernel
theorem dX0_drawEveryOpen_3 : decode cX0_drawEveryOpen 3 = .ok (.istore_n 2, 1) := by decide +kernel
theorem dX0_drawEveryOpen_4 : decode cX0_drawEveryOpen 4 = .ok (.iload_n 2, 1) := by decide +kernel
theorem dX0_drawEveryOpen_5 : decode cX0_drawEveryOpen 5 = .ok (.aload_n 0, 1) := by decide +kernel
theorem dX0_drawEveryOpen_6 : decode cX0_drawEveryOpen 6 = .ok (.getfield 9, 3) := by decide +kernel
theorem dX0_drawEveryOpen_9 : decode cX0_drawEveryOpen 9 = .ok (.getfield 55, 3) := by decide +kernel
theorem dX0_drawEveryOpen_12 : decode cX0_drawEveryOpen 12 = .ok (.if_icmp .ge 33, 3) := by decide +kernel
theorem dX0_drawEveryOpen_15 : decode cX0_drawEveryOpen 15 = .ok (.aload_n 0, 1) := by decide +kernel
theorem dX0_drawEveryOpen_16 : decode cX0_drawEveryOpen 16 = .ok (.getfield 18, 3) := by decide +kernel
theorem dX0_drawEveryOpen_19 : decode cX0_drawEveryOpen 19 = .ok (.getfield 52, 3) := by decide +kernel
theorem dX0_drawEveryOpen_22 : decode cX0_drawEveryOpen 22 = .ok (.iload_n 2, 1) := by decide +kernel
theorem dX0_drawEveryOpen_23 : decode cX0_drawEveryOpen 23 = .ok (.iaload, 1) := by decide +kernel
theorem dX0_drawEveryOpen_24 : decode cX0_drawEveryOpen 24 = .ok (.ifCond .ne 15, 3) := by decide +kernel
theorem dX0_drawEveryOpen_27 : decode cX0_drawEveryOpen 27 = .ok (.aload_n 0, 1) := by decide +kernel
theorem dX0_drawEveryOpen_28 : decode cX0_drawEveryOpen 28 = .ok (.iload_n 2, 1) := by decide +kernel
theorem dX0_drawEveryOpen_29 : decode cX0_drawEveryOpen 29 = .ok (.invokevirtual 166, 3) := by decide +kernel
theorem dX0_drawEveryOpen_32 : decode cX0_drawEveryOpen 32 = .ok (.iconst (-1), 1) := by decide +kernel
theorem dX0_drawEveryOpen_33 : decode cX0_drawEveryOpen 33 = .ok (.if_icmp .eq 6, 3) := by decide +kernel
theorem dX0_drawEveryOpen_36 : decode cX0_drawEveryOpen 36 = .ok (.iinc 1 1, 3) := by decide +kernel
theorem dX0_drawEveryOpen_39 : decode cX0_drawEveryOpen 39 = .ok (.iinc 2 1, 3) := by decide +kernel
theorem dX0_drawEveryOpen_42 : decode cX0_drawEveryOpen 42 = .ok (.goto (-38), 3) := by decide +kernel
theorem dX0_drawEveryOpen_45 : decode cX0_drawEveryOpen 45 = .ok (.iload_n 1, 1) := by decide +kernel
theorem dX0_drawEveryOpen_46 : decode cX0_drawEveryOpen 46 = .ok (.ireturn, 1) := by decide +kernel
theorem dX0_repair_0 : decode cX0_repair 0 = .ok (.aload_n 0, 1) := by decide +kernel
theorem dX0_repair_1 : decode cX0_repair 1 = .ok (.getfield 18, 3) := by decide +kernel
theorem dX0_repair_4 : decode cX0_repair 4 = .ok (.getfield 59, 3) := by decide +kernel
theorem dX0_repair_7 : decode cX0_repair 7 = .ok (.iload_n 1, 1) := by decide +kernel
theorem dX0_repair_8 : decode cX0_repair 8 = .ok (.iaload, 1) := by decide +kernel
theorem dX0_repair_9 : decode cX0_repair 9 = .ok (.iconst 1, 1) := by decide +kernel
theorem dX0_repair_10 : decode cX0_repair 10 = .ok (.iload_n 2, 1) := by decide +kernel
theorem dX0_repair_11 : decode cX0_repair 11 = .ok (.ishl, 1) := by decide +kernel
theorem dX0_repair_12 : decode cX0_repair 12 = .ok (.iconst (-1), 1) := by decide +kernel
theorem dX0_repair_13 : decode cX0_repair 13 = .ok (.ixor, 1) := by decide +kernel
theorem dX0_repair_14 : decode cX0_repair 14 = .ok (.iand, 1) := by decide +kernel
theorem dX0_repair_15 : decode cX0_repair 15 = .ok (.istore_n 3, 1) := by decide +kernel
theorem dX0_repair_16 : decode cX0_repair 16 = .ok (.aload_n 0, 1) := by decide +kernel
theorem dX0_repair_17 : decode cX0_repair 17 = .ok (.iload_n 1, 1) := by decide +kernel
theorem dX0_repair_18 : decode cX0_repair 18 = .ok (.invokevirtual 135, 3) := by decide +kernel
theorem dX0_repair_21 : decode cX0_repair 21 = .ok (.iconst (-1), 1) := by decide +kernel
theorem dX0_repair_22 : decode cX0_repair 22 = .ok (.istore 4, 2) := by decide +kernel
theorem dX0_repair_24 : decode cX0_repair 24 = .ok (.iconst 0, 1) := by decide +kernel
theorem dX0_repair_25 : decode cX0_repair 25 = .ok (.istore 5, 2) := by decide +kernel
theorem dX0_repair_27 : decode cX0_repair 27 = .ok (.iconst 0, 1) := by decide +kernel
theorem dX0_repair_28 : decode cX0_repair 28 = .ok (.istore 6, 2) := by decide +kernel
theorem dX0_repair_30 : decode cX0_repair 30 = .ok (.iload 6, 2) := by decide +kernel
theorem dX0_repair_32 : decode cX0_repair 32 = .ok (.aload_n 0, 1) := by decide +kernel
theorem dX0_repair_33 : decode cX0_repair 33 = .ok (.getfield 9, 3) := by decide +kernel
theorem dX0_repair_36 : decode cX0_repair 36 = .ok (.getfield 86, 3) := by decide +kernel
theorem dX0_repair_39 : decode cX0_repair 39 = .ok (.if_icmp .ge 73, 3) := by decide +kernel
theorem dX0_repair_42 : decode cX0_repair 42 = .ok (.iload_n 3, 1) := by decide +kernel
theorem dX0_repair_43 : decode cX0_repair 43 = .ok (.iconst 1, 1) := by decide +kernel
theorem dX0_repair_44 : decode cX0_repair 44 = .ok (.iload 6, 2) := by decide +kernel
theorem dX0_repair_46 : decode cX0_repair 46 = .ok (.ishl, 1) := by decide +kernel
theorem dX0_repair_47 : decode cX0_repair 47 = .ok (.ior, 1) := by decide +kernel
theorem dX0_repair_48 : decode cX0_repair 48 = .ok (.istore 7, 2) := by decide +kernel
theorem dX0_repair_50 : decode cX0_repair 50 = .ok (.aload_n 0, 1) := by decide +kernel
theorem dX0_repair_51 : decode cX0_repair 51 = .ok (.getfield 18, 3) := by decide +kernel
theorem dX0_repair_54 : decode cX0_repair 54 = .ok (.getfield 59, 3) := by decide +kernel
theorem dX0_repair_57 : decode cX0_repair 57 = .ok (.iload_n 1, 1) := by decide +kernel
theorem dX0_repair_58 : decode cX0_repair 58 = .ok (.iaload, 1) := by decide +kernel
theorem dX0_repair_59 : decode cX0_repair 59 = .ok (.iload 6, 2) := by decide +kernel
theorem dX0_repair_61 : decode cX0_repair 61 = .ok (.invokestatic 62, 3) := by decide +kernel
theorem dX0_repair_64 : decode cX0_repair 64 = .ok (.ifCond .ne 42, 3) := by decide +kernel
theorem dX0_repair_67 : decode cX0_repair 67 = .ok (.aload_n 0, 1) := by decide +kernel
theorem dX0_repair_68 : decode cX0_repair 68 = .ok (.iload_n 1, 1) := by decide +kernel
theorem dX0_repair_69 : decode cX0_repair 69 = .ok (.iload 7, 2) := by decide +kernel
theorem dX0_repair_71 : decode cX0_repair 71 = .ok (.invokevirtual 128, 3) := by decide +kernel
theorem dX0_repair_74 : decode cX0_repair 74 = .ok (.ifCond .eq 32, 3) := by decide +kernel
theorem dX0_repair_77 : decode cX0_repair 77 = .ok (.aload_n 0, 1) := by decide +kernel
theorem dX0_repair_78 : decode cX0_repair 78 = .ok (.iload 7, 2) := by decide +kernel
theorem dX0_repair_80 : decode cX0_repair 80 = .ok (.invokevirtual 138, 3) := by decide +kernel
theorem dX0_repair_83 : decode cX0_repair 83 = .ok (.istore 8, 2) := by decide +kernel
theorem dX0_repair_85 : decode cX0_repair 85 = .ok (.iload 4, 2) := by decide +kernel
theorem dX0_repair_87 : decode cX0_repair 87 = .ok (.iconst (-1), 1) := by decide +kernel
theorem dX0_repair_88 : decode cX0_repair 88 = .ok (.if_icmp .eq 10, 3) := by decide +kernel
theorem dX0_repair_91 : decode cX0_repair 91 = .ok (.iload 8, 2) := by decide +kernel
theorem dX0_repair_93 : decode cX0_repair 93 = .ok (.iload 5, 2) := by decide +kernel
theorem dX0_repair_95 : decode cX0_repair 95 = .ok (.if_icmp .ge 11, 3) := by decide +kernel
theorem dX0_repair_98 : decode cX0_repair 98 = .ok (.iload 6, 2) := by decide +kernel
theorem dX0_repair_100 : decode cX0_repair 100 = .ok (.istore 4, 2) := by decide +kernel
theorem dX0_repair_102 : decode cX0_repair 102 = .ok (.iload 8, 2) := by decide +kernel
theorem dX0_repair_104 : decode cX0_repair 104 = .ok (.istore 5, 2) := by decide +kernel
theorem dX0_repair_106 : decode cX0_repair 106 = .ok (.iinc 6 1, 3) := by decide +kernel
theorem dX0_repair_109 : decode cX0_repair 109 = .ok (.goto (-79), 3) := by decide +kernel
theorem dX0_repair_112 : decode cX0_repair 112 = .ok (.aload_n 0, 1) := by decide +kernel
theorem dX0_repair_113 : decode cX0_repair 113 = .ok (.getfield 18, 3) := by decide +kernel
theorem dX0_repair_116 : decode cX0_repair 116 = .ok (.getfield 59, 3) := by decide +kernel
theorem dX0_repair_119 : decode cX0_repair 119 = .ok (.iload_n 1, 1) := by decide +kernel
theorem dX0_repair_120 : decode cX0_repair 120 = .ok (.iload 4, 2) := by decide +kernel
theorem dX0_repair_122 : decode cX0_repair 122 = .ok (.iconst (-1), 1) := by decide +kernel
theorem dX0_repair_123 : decode cX0_repair 123 = .ok (.if_icmp .ne 7, 3) := by decide +kernel
theorem dX0_repair_126 : decode cX0_repair 126 = .ok (.iconst 0, 1) := by decide +kernel
theorem dX0_repair_127 : decode cX0_repair 127 = .ok (.goto 9, 3) := by decide +kernel
theorem dX0_repair_130 : decode cX0_repair 130 = .ok (.iload_n 3, 1) := by decide +kernel
theorem dX0_repair_131 : decode cX0_repair 131 = .ok (.iconst 1, 1) := by decide +kernel
theorem dX0_repair_132 : decode cX0_repair 132 = .ok (.iload 4, 2) := by decide +kernel
theorem dX0_repair_134 : decode cX0_repair 134 = .ok (.ishl, 1) := by decide +kernel
theorem dX0_repair_135 : decode cX0_repair 135 = .ok (.ior, 1) := by decide +kernel
theorem dX0_repair_136 : decode cX0_repair 136 = .ok (.iastore, 1) := by decide +kernel
theorem dX0_repair_137 : decode cX0_repair 137 = .ok (.aload_n 0, 1) := by decide +kernel
theorem dX0_repair_138 : decode cX0_repair 138 = .ok (.getfield 18, 3) := by decide +kernel
theorem dX0_repair_141 : decode cX0_repair 141 = .ok (.getfield 52, 3) := by decide +kernel
theorem dX0_repair_144 : decode cX0_repair 144 = .ok (.iload_n 1, 1) := by decide +kernel
theorem dX0_repair_145 : decode cX0_repair 145 = .ok (.iload 4, 2) := by decide +kernel
theorem dX0_repair_147 : decode cX0_repair 147 = .ok (.iconst (-1), 1) := by decide +kernel
theorem dX0_repair_148 : decode cX0_repair 148 = .ok (.if_icmp .ne 7, 3) := by decide +kernel
theorem dX0_repair_151 : decode cX0_repair 151 = .ok (.iconst 0, 1) := by decide +kernel
theorem dX0_repair_152 : decode cX0_repair 152 = .ok (.goto 4, 3) := by decide +kernel
theorem dX0_repair_155 : decode cX0_repair 155 = .ok (.iconst 1, 1) := by decide +kernel
theorem dX0_repair_156 : decode cX0_repair 156 = .ok (.iastore, 1) := by decide +kernel
theorem dX0_repair_157 : decode cX0_repair 157 = .ok (.iload 4, 2) := by decide +kernel
theorem dX0_repair_159 : decode cX0_repair 159 = .ok (.ireturn, 1) := by decide +kernel
theorem dX0_repairAllOf_0 : decode cX0_repairAllOf 0 = .ok (.iconst 0, 1) := by decide +kernel
theorem dX0_repairAllOf_1 : decode cX0_repairAllOf 1 = .ok (.istore_n 2, 1) := by decide +kernel
theorem dX0_repairAllOf_2 : decode cX0_repairAllOf 2 = .ok (.iconst 0, 1) := by decide +kernel
theorem dX0_repairAllOf_3 : decode cX0_repairAllOf 3 = .ok (.istore_n 3, 1) := by decide +kernel
theorem dX0_repairAllOf_4 : decode cX0_repairAllOf 4 = .ok (.iload_n 3, 1) := by decide +kernel
theorem dX0_repairAllOf_5 : decode cX0_repairAllOf 5 = .ok (.aload_n 0, 1) := by decide +kernel
theorem dX0_repairAllOf_6 : decode cX0_repairAllOf 6 = .ok (.getfield 9, 3) := by decide +kernel
theorem dX0_repairAllOf_9 : decode cX0_repairAllOf 9 = .ok (.getfield 55, 3) := by decide +kernel
theorem dX0_repairAllOf_12 : decode cX0_repairAllOf 12 = .ok (.if_icmp .ge 51, 3) := by decide +kernel
theorem dX0_repairAllOf_15 : decode cX0_repairAllOf 15 = .ok (.aload_n 0, 1) := by decide +kernel
theorem dX0_repairAllOf_16 : decode cX0_repairAllOf 16 = .ok (.getfield 18, 3) := by decide +kernel
theorem dX0_repairAllOf_19 : decode cX0_repairAllOf 19 = .ok (.getfield 52, 3) := by decide +kernel
theorem dX0_repairAllOf_22 : decode cX0_repairAllOf 22 = .ok (.iload_n 3, 1) := by decide +kernel
theorem dX0_repairAllOf_23 : decode cX0_repairAllOf 23 = .ok (.iaload, 1) := by decide +kernel
theorem dX0_repairAllOf_24 : decode cX0_repairAllOf 24 = .ok (.iconst 1, 1) := by decide +kernel
theorem dX0_repairAllOf_25 : decode cX0_repairAllOf 25 = .ok (.if_icmp .ne 32, 3) := by decide +kernel
theorem dX0_repairAllOf_28 : decode cX0_repairAllOf 28 = .ok (.aload_n 0, 1) := by decide +kernel
theorem dX0_repairAllOf_29 : decode cX0_repairAllOf 29 = .ok (.getfield 18, 3) := by decide +kernel
theorem dX0_repairAllOf_32 : decode cX0_repairAllOf 32 = .ok (.getfield 59, 3) := by decide +kernel
theorem dX0_repairAllOf_35 : decode cX0_repairAllOf 35 = .ok (.iload_n 3, 1) := by decide +kernel
theorem dX0_repairAllOf_36 : decode cX0_repairAllOf 36 = .ok (.iaload, 1) := by decide +kernel
theorem dX0_repairAllOf_37 : decode cX0_repairAllOf 37 = .ok (.iload_n 1, 1) := by decide +kernel
theorem dX0_repairAllOf_38 : decode cX0_repairAllOf 38 = .ok (.invokestatic 62, 3) := by decide +kernel
theorem dX0_repairAllOf_41 : decode cX0_repairAllOf 41 = .ok (.ifCond .eq 16, 3) := by decide +kernel
theorem dX0_repairAllOf_44 : decode cX0_repairAllOf 44 = .ok (.aload_n 0, 1) := by decide +kernel
theorem dX0_repairAllOf_45 : decode cX0_repairAllOf 45 = .ok (.iload_n 3, 1) := by decide +kernel
theorem dX0_repairAllOf_46 : decode cX0_repairAllOf 46 = .ok (.iload_n 1, 1) := by decide +kernel
theorem dX0_repairAllOf_47 : decode cX0_repairAllOf 47 = .ok (.invokevirtual 169, 3) := by decide +kernel
theorem dX0_repairAllOf_50 : decode cX0_repairAllOf 50 = .ok (.iconst (-1), 1) := by decide +kernel
theorem dX0_repairAllOf_51 : decode cX0_repairAllOf 51 = .ok (.if_icmp .eq 6, 3) := by decide +kernel
theorem dX0_repairAllOf_54 : decode cX0_repairAllOf 54 = .ok (.iinc 2 1, 3) := by decide +kernel
theorem dX0_repairAllOf_57 : decode cX0_repairAllOf 57 = .ok (.iinc 3 1, 3) := by decide +kernel
theorem dX0_repairAllOf_60 : decode cX0_repairAllOf 60 = .ok (.goto (-56), 3) := by decide +kernel
theorem dX0_repairAllOf_63 : decode cX0_repairAllOf 63 = .ok (.iload_n 2, 1) := by decide +kernel
theorem dX0_repairAllOf_64 : decode cX0_repairAllOf 64 = .ok (.ireturn, 1) := by decide +kernel
theorem dX0_mayExchange_0 : decode cX0_mayExchange 0 = .ok (.aload_n 0, 1) := by decide +kernel
theorem dX0_mayExchange_1 : decode cX0_mayExchange 1 = .ok (.iload_n 1, 1) := by decide +kernel
theorem dX0_mayExchange_2 : decode cX0_mayExchange 2 = .ok (.invokevirtual 172, 3) := by decide +kernel
theorem dX0_mayExchange_5 : decode cX0_mayExchange 5 = .ok (.ifCond .eq 34, 3) := by decide +kernel
theorem dX0_mayExchange_8 : decode cX0_mayExchange 8 = .ok (.aload_n 0, 1) := by decide +kernel
theorem dX0_mayExchange_9 : decode cX0_mayExchange 9 = .ok (.iload_n 3, 1) := by decide +kernel
theorem dX0_mayExchange_10 : decode cX0_mayExchange 10 = .ok (.invokevirtual 172, 3) := by decide +kernel
theorem dX0_mayExchange_13 : decode cX0_mayExchange 13 = .ok (.ifCond .eq 26, 3) := by decide +kernel
theorem dX0_mayExchange_16 : decode cX0_mayExchange 16 = .ok (.aload_n 0, 1) := by decide +kernel
theorem dX0_mayExchange_17 : decode cX0_mayExchange 17 = .ok (.getfield 9, 3) := by decide +kernel
theorem dX0_mayExchange_20 : decode cX0_mayExchange 20 = .ok (.iload_n 2, 1) := by decide +kernel
theorem dX0_mayExchange_21 : decode cX0_mayExchange 21 = .ok (.invokevirtual 175, 3) := by decide +kernel
theorem dX0_mayExchange_24 : decode cX0_mayExchange 24 = .ok (.ifCond .eq 15, 3) := by decide +kernel
theorem dX0_mayExchange_27 : decode cX0_mayExchange 27 = .ok (.aload_n 0, 1) := by decide +kernel
theorem dX0_mayExchange_28 : decode cX0_mayExchange 28 = .ok (.getfield 9, 3) := by decide +kernel
theorem dX0_mayExchange_31 : decode cX0_mayExchange 31 = .ok (.iload 4, 2) := by decide +kernel
theorem dX0_mayExchange_33 : decode cX0_mayExchange 33 = .ok (.invokevirtual 175, 3) := by decide +kernel
theorem dX0_mayExchange_36 : decode cX0_mayExchange 36 = .ok (.ifCond .ne 5, 3) := by decide +kernel
theorem dX0_mayExchange_39 : decode cX0_mayExchange 39 = .ok (.iconst 0, 1) := by decide +kernel
theorem dX0_mayExchange_40 : decode cX0_mayExchange 40 = .ok (.ireturn, 1) := by decide +kernel
theorem dX0_mayExchange_41 : decode cX0_mayExchange 41 = .ok (.aload_n 0, 1) := by decide +kernel
theorem dX0_mayExchange_42 : decode cX0_mayExchange 42 = .ok (.getfield 18, 3) := by decide +kernel
theorem dX0_mayExchange_45 : decode cX0_mayExchange 45 = .ok (.getfield 59, 3) := by decide +kernel
theorem dX0_mayExchange_48 : decode cX0_mayExchange 48 = .ok (.iload_n 1, 1) := by decide +kernel
theorem dX0_mayExchange_49 : decode cX0_mayExchange 49 = .ok (.iaload, 1) := by decide +kernel
theorem dX0_mayExchange_50 : decode cX0_mayExchange 50 = .ok (.istore 5, 2) := by decide +kernel
theorem dX0_mayExchange_52 : decode cX0_mayExchange 52 = .ok (.aload_n 0, 1) := by decide +kernel
theorem dX0_mayExchange_53 : decode cX0_mayExchange 53 = .ok (.getfield 18, 3) := by decide +kernel
theorem dX0_mayExchange_56 : decode cX0_mayExchange 56 = .ok (.getfield 59, 3) := by decide +kernel
theorem dX0_mayExchange_59 : decode cX0_mayExchange 59 = .ok (.iload_n 3, 1) := by decide +kernel
theorem dX0_mayExchange_60 : decode cX0_mayExchange 60 = .ok (.iaload, 1) := by decide +kernel
theorem dX0_mayExchange_61 : decode cX0_mayExchange 61 = .ok (.istore 6, 2) := by decide +kernel
theorem dX0_mayExchange_63 : decode cX0_mayExchange 63 = .ok (.iload 5, 2) := by decide +kernel
theorem dX0_mayExchange_65 : decode cX0_mayExchange 65 = .ok (.iload_n 2, 1) := by decide +kernel
theorem dX0_mayExchange_66 : decode cX0_mayExchange 66 = .ok (.invokestatic 62, 3) := by decide +kernel
theorem dX0_mayExchange_69 : decode cX0_mayExchange 69 = .ok (.ifCond .eq 32, 3) := by decide +kernel
theorem dX0_mayExchange_72 : decode cX0_mayExchange 72 = .ok (.iload 6, 2) := by decide +kernel
theorem dX0_mayExchange_74 : decode cX0_mayExchange 74 = .ok (.iload_n 2, 1) := by decide +kernel
theorem dX0_mayExchange_75 : decode cX0_mayExchange 75 = .ok (.invokestatic 62, 3) := by decide +kernel
theorem dX0_mayExchange_78 : decode cX0_mayExchange 78 = .ok (.ifCond .ne 23, 3) := by decide +kernel
theorem dX0_mayExchange_81 : decode cX0_mayExchange 81 = .ok (.iload 6, 2) := by decide +kernel
theorem dX0_mayExchange_83 : decode cX0_mayExchange 83 = .ok (.iload 4, 2) := by decide +kernel
theorem dX0_mayExchange_85 : decode cX0_mayExchange 85 = .ok (.invokestatic 62, 3) := by decide +kernel
theorem dX0_mayExchange_88 : decode cX0_mayExchange 88 = .ok (.ifCond .eq 13, 3) := by decide +kernel
theorem dX0_mayExchange_91 : decode cX0_mayExchange 91 = .ok (.iload 5, 2) := by decide +kernel
theorem dX0_mayExchange_93 : decode cX0_mayExchange 93 = .ok (.iload 4, 2) := by decide +kernel
theorem dX0_mayExchange_95 : decode cX0_mayExchange 95 = .ok (.invokestatic 62, 3) := by decide +kernel
theorem dX0_mayExchange_98 : decode cX0_mayExchange 98 = .ok (.ifCond .eq 5, 3) := by decide +kernel
theorem dX0_mayExchange_101 : decode cX0_mayExchange 101 = .ok (.iconst 0, 1) := by decide +kernel
theorem dX0_mayExchange_102 : decode cX0_mayExchange 102 = .ok (.ireturn, 1) := by decide +kernel
theorem dX0_mayExchange_103 : decode cX0_mayExchange 103 = .ok (.aload_n 0, 1) := by decide +kernel
theorem dX0_mayExchange_104 : decode cX0_mayExchange 104 = .ok (.iload_n 1, 1) := by decide +kernel
theorem dX0_mayExchange_105 : decode cX0_mayExchange 105 = .ok (.iload 5, 2) := by decide +kernel
theorem dX0_mayExchange_107 : decode cX0_mayExchange 107 = .ok (.iload_n 2, 1) := by decide +kernel
theorem dX0_mayExchange_108 : decode cX0_mayExchange 108 = .ok (.iload 4, 2) := by decide +kernel
theorem dX0_mayExchange_110 : decode cX0_mayExchange 110 = .ok (.invokestatic 178, 3) := by decide +kernel
theorem dX0_mayExchange_113 : decode cX0_mayExchange 113 = .ok (.invokevirtual 128, 3) := by decide +kernel
theorem dX0_mayExchange_116 : decode cX0_mayExchange 116 = .ok (.ifCond .eq 23, 3) := by decide +kernel
theorem dX0_mayExchange_119 : decode cX0_mayExchange 119 = .ok (.aload_n 0, 1) := by decide +kernel
theorem dX0_mayExchange_120 : decode cX0_mayExchange 120 = .ok (.iload_n 3, 1) := by decide +kernel
theorem dX0_mayExchange_121 : decode cX0_mayExchange 121 = .ok (.iload 6, 2) := by decide +kernel
theorem dX0_mayExchange_123 : decode cX0_mayExchange 123 = .ok (.iload 4, 2) := by decide +kernel
theorem dX0_mayExchange_125 : decode cX0_mayExchange 125 = .ok (.iload_n 2, 1) := by decide +kernel
theorem dX0_mayExchange_126 : decode cX0_mayExchange 126 = .ok (.invokestatic 178, 3) := by decide +kernel
theorem dX0_mayExchange_129 : decode cX0_mayExchange 129 = .ok (.invokevirtual 128, 3) := by decide +kernel
theorem dX0_mayExchange_132 : decode cX0_mayExchange 132 = .ok (.ifCond .eq 7, 3) := by decide +kernel
theorem dX0_mayExchange_135 : decode cX0_mayExchange 135 = .ok (.iconst 1, 1) := by decide +kernel
theorem dX0_mayExchange_136 : decode cX0_mayExchange 136 = .ok (.goto 4, 3) := by decide +kernel
theorem dX0_mayExchange_139 : decode cX0_mayExchange 139 = .ok (.iconst 0, 1) := by decide +kernel
theorem dX0_mayExchange_140 : decode cX0_mayExchange 140 = .ok (.ireturn, 1) := by decide +kernel
theorem dX0_changePlaces_0 : decode cX0_changePlaces 0 = .ok (.aload_n 0, 1) := by decide +kernel
theorem dX0_changePlaces_1 : decode cX0_changePlaces 1 = .ok (.getfield 18, 3) := by decide +kernel
theorem dX0_changePlaces_4 : decode cX0_changePlaces 4 = .ok (.getfield 59, 3) := by decide +kernel
theorem dX0_changePlaces_7 : decode cX0_changePlaces 7 = .ok (.iload_n 1, 1) := by decide +kernel
theorem dX0_changePlaces_8 : decode cX0_changePlaces 8 = .ok (.aload_n 0, 1) := by decide +kernel
theorem dX0_changePlaces_9 : decode cX0_changePlaces 9 = .ok (.getfield 18, 3) := by decide +kernel
theorem dX0_changePlaces_12 : decode cX0_changePlaces 12 = .ok (.getfield 59, 3) := by decide +kernel
theorem dX0_changePlaces_15 : decode cX0_changePlaces 15 = .ok (.iload_n 1, 1) := by decide +kernel
theorem dX0_changePlaces_16 : decode cX0_changePlaces 16 = .ok (.iaload, 1) := by decide +kernel
theorem dX0_changePlaces_17 : decode cX0_changePlaces 17 = .ok (.iload_n 2, 1) := by decide +kernel
theorem dX0_changePlaces_18 : decode cX0_changePlaces 18 = .ok (.iload 4, 2) := by decide +kernel
theorem dX0_changePlaces_20 : decode cX0_changePlaces 20 = .ok (.invokestatic 178, 3) := by decide +kernel
theorem dX0_changePlaces_23 : decode cX0_changePlaces 23 = .ok (.iastore, 1) := by decide +kernel
theorem dX0_changePlaces_24 : decode cX0_changePlaces 24 = .ok (.aload_n 0, 1) := by decide +kernel
theorem dX0_changePlaces_25 : decode cX0_changePlaces 25 = .ok (.getfield 18, 3) := by decide +kernel
theorem dX0_changePlaces_28 : decode cX0_changePlaces 28 = .ok (.getfield 59, 3) := by decide +kernel
theorem dX0_changePlaces_31 : decode cX0_changePlaces 31 = .ok (.iload_n 3, 1) := by decide +kernel
theorem dX0_changePlaces_32 : decode cX0_changePlaces 32 = .ok (.aload_n 0, 1) := by decide +kernel
theorem dX0_changePlaces_33 : decode cX0_changePlaces 33 = .ok (.getfield 18, 3) := by decide +kernel
theorem dX0_changePlaces_36 : decode cX0_changePlaces 36 = .ok (.getfield 59, 3) := by decide +kernel
theorem dX0_changePlaces_39 : decode cX0_changePlaces 39 = .ok (.iload_n 3, 1) := by decide +kernel
theorem dX0_changePlaces_40 : decode cX0_changePlaces 40 = .ok (.iaload, 1) := by decide +kernel
theorem dX0_changePlaces_41 : decode cX0_changePlaces 41 = .ok (.iload 4, 2) := by decide +kernel
theorem dX0_changePlaces_43 : decode cX0_changePlaces 43 = .ok (.iload_n 2, 1) := by decide +kernel
theorem dX0_changePlaces_44 : decode cX0_changePlaces 44 = .ok (.invokestatic 178, 3) := by decide +kernel
theorem dX0_changePlaces_47 : decode cX0_changePlaces 47 = .ok (.iastore, 1) := by decide +kernel
theorem dX0_changePlaces_48 : decode cX0_changePlaces 48 = .ok (.return_, 1) := by decide +kernel
theorem dX0_swapped_0 : decode cX0_swapped 0 = .ok (.iload_n 0, 1) := by decide +kernel
theorem dX0_swapped_1 : decode cX0_swapped 1 = .ok (.iconst 1, 1) := by decide +kernel
theorem dX0_swapped_2 : decode cX0_swapped 2 = .ok (.iload_n 1, 1) := by decide +kernel
theorem dX0_swapped_3 : decode cX0_swapped 3 = .ok (.ishl, 1) := by decide +kernel
theorem dX0_swapped_4 : decode cX0_swapped 4 = .ok (.iconst (-1), 1) := by decide +kernel
theorem dX0_swapped_5 : decode cX0_swapped 5 = .ok (.ixor, 1) := by decide +kernel
theorem dX0_swapped_6 : decode cX0_swapped 6 = .ok (.iand, 1) := by decide +kernel
theorem dX0_swapped_7 : decode cX0_swapped 7 = .ok (.iconst 1, 1) := by decide +kernel
theorem dX0_swapped_8 : decode cX0_swapped 8 = .ok (.iload_n 2, 1) := by decide +kernel
theorem dX0_swapped_9 : decode cX0_swapped 9 = .ok (.ishl, 1) := by decide +kernel
theorem dX0_swapped_10 : decode cX0_swapped 10 = .ok (.ior, 1) := by decide +kernel
theorem dX0_swapped_11 : decode cX0_swapped 11 = .ok (.ireturn, 1) := by decide +kernel
theorem dX0_findBetter_0 : decode cX0_findBetter 0 = .ok (.aload_n 0, 1) := by decide +kernel
theorem dX0_findBetter_1 : decode cX0_findBetter 1 = .ok (.iconst (-1), 1) := by decide +kernel
theorem dX0_findBetter_2 : decode cX0_findBetter 2 = .ok (.invokevirtual 135, 3) := by decide +kernel
theorem dX0_findBetter_5 : decode cX0_findBetter 5 = .ok (.iconst 0, 1) := by decide +kernel
theorem dX0_findBetter_6 : decode cX0_findBetter 6 = .ok (.istore_n 1, 1) := by decide +kernel
theorem dX0_findBetter_7 : decode cX0_findBetter 7 = .ok (.iload_n 1, 1) := by decide +kernel
theorem dX0_findBetter_8 : decode cX0_findBetter 8 = .ok (.aload_n 0, 1) := by decide +kernel
theorem dX0_findBetter_9 : decode cX0_findBetter 9 = .ok (.getfield 9, 3) := by decide +kernel
theorem dX0_findBetter_12 : decode cX0_findBetter 12 = .ok (.getfield 55, 3) := by decide +kernel
theorem dX0_findBetter_15 : decode cX0_findBetter 15 = .ok (.if_icmp .ge 68, 3) := by decide +kernel
theorem dX0_findBetter_18 : decode cX0_findBetter 18 = .ok (.iconst 0, 1) := by decide +kernel
theorem dX0_findBetter_19 : decode cX0_findBetter 19 = .ok (.istore_n 2, 1) := by decide +kernel
theorem dX0_findBetter_20 : decode cX0_findBetter 20 = .ok (.iload_n 2, 1) := by decide +kernel
theorem dX0_findBetter_21 : decode cX0_findBetter 21 = .ok (.aload_n 0, 1) := by decide +kernel
theorem dX0_findBetter_22 : decode cX0_findBetter 22 = .ok (.getfield 9, 3) := by decide +kernel
theorem dX0_findBetter_25 : decode cX0_findBetter 25 = .ok (.getfield 86, 3) := by decide +kernel
theorem dX0_findBetter_28 : decode cX0_findBetter 28 = .ok (.if_icmp .ge 49, 3) := by decide +kernel
theorem dX0_findBetter_31 : decode cX0_findBetter 31 = .ok (.aload_n 0, 1) := by decide +kernel
theorem dX0_findBetter_32 : decode cX0_findBetter 32 = .ok (.getfield 18, 3) := by decide +kernel
theorem dX0_findBetter_35 : decode cX0_findBetter 35 = .ok (.getfield 52, 3) := by decide +kernel
theorem dX0_findBetter_38 : decode cX0_findBetter 38 = .ok (.iload_n 1, 1) := by decide +kernel
theorem dX0_findBetter_39 : decode cX0_findBetter 39 = .ok (.iaload, 1) := by decide +kernel
theorem dX0_findBetter_40 : decode cX0_findBetter 40 = .ok (.iconst 1, 1) := by decide +kernel
theorem dX0_findBetter_41 : decode cX0_findBetter 41 = .ok (.if_icmp .ne 30, 3) := by decide +kernel
theorem dX0_findBetter_44 : decode cX0_findBetter 44 = .ok (.aload_n 0, 1) := by decide +kernel
theorem dX0_findBetter_45 : decode cX0_findBetter 45 = .ok (.getfield 18, 3) := by decide +kernel
theorem dX0_findBetter_48 : decode cX0_findBetter 48 = .ok (.getfield 59, 3) := by decide +kernel
theorem dX0_findBetter_51 : decode cX0_findBetter 51 = .ok (.iload_n 1, 1) := by decide +kernel
theorem dX0_findBetter_52 : decode cX0_findBetter 52 = .ok (.iaload, 1) := by decide +kernel
theorem dX0_findBetter_53 : decode cX0_findBetter 53 = .ok (.iload_n 2, 1) := by decide +kernel
theorem dX0_findBetter_54 : decode cX0_findBetter 54 = .ok (.invokestatic 62, 3) := by decide +kernel
theorem dX0_findBetter_57 : decode cX0_findBetter 57 = .ok (.ifCond .eq 14, 3) := by decide +kernel
theorem dX0_findBetter_60 : decode cX0_findBetter 60 = .ok (.aload_n 0, 1) := by decide +kernel
theorem dX0_findBetter_61 : decode cX0_findBetter 61 = .ok (.iload_n 1, 1) := by decide +kernel
theorem dX0_findBetter_62 : decode cX0_findBetter 62 = .ok (.iload_n 2, 1) := by decide +kernel
theorem dX0_findBetter_63 : decode cX0_findBetter 63 = .ok (.invokevirtual 182, 3) := by decide +kernel
theorem dX0_findBetter_66 : decode cX0_findBetter 66 = .ok (.ifCond .eq 5, 3) := by decide +kernel
theorem dX0_findBetter_69 : decode cX0_findBetter 69 = .ok (.iconst 1, 1) := by decide +kernel
theorem dX0_findBetter_70 : decode cX0_findBetter 70 = .ok (.ireturn, 1) := by decide +kernel
theorem dX0_findBetter_71 : decode cX0_findBetter 71 = .ok (.iinc 2 1, 3) := by decide +kernel
theorem dX0_findBetter_74 : decode cX0_findBetter 74 = .ok (.goto (-54), 3) := by decide +kernel
theorem dX0_findBetter_77 : decode cX0_findBetter 77 = .ok (.iinc 1 1, 3) := by decide +kernel
theorem dX0_findBetter_80 : decode cX0_findBetter 80 = .ok (.goto (-73), 3) := by decide +kernel
theorem dX0_findBetter_83 : decode cX0_findBetter 83 = .ok (.iconst 0, 1) := by decide +kernel
theorem dX0_findBetter_84 : decode cX0_findBetter 84 = .ok (.ireturn, 1) := by decide +kernel
theorem dX0_findBetterFor_0 : decode cX0_findBetterFor 0 = .ok (.iload_n 1, 1) := by decide +kernel
theorem dX0_findBetterFor_1 : decode cX0_findBetterFor 1 = .ok (.iconst 1, 1) := by decide +kernel
theorem dX0_findBetterFor_2 : decode cX0_findBetterFor 2 = .ok (.iadd, 1) := by decide +kernel
theorem dX0_findBetterFor_3 : decode cX0_findBetterFor 3 = .ok (.istore_n 3, 1) := by decide +kernel
theorem dX0_findBetterFor_4 : decode cX0_findBetterFor 4 = .ok (.iload_n 3, 1) := by decide +kernel
theorem dX0_findBetterFor_5 : decode cX0_findBetterFor 5 = .ok (.aload_n 0, 1) := by decide +kernel
theorem dX0_findBetterFor_6 : decode cX0_findBetterFor 6 = .ok (.getfield 9, 3) := by decide +kernel
theorem dX0_findBetterFor_9 : decode cX0_findBetterFor 9 = .ok (.getfield 55, 3) := by decide +kernel
theorem dX0_findBetterFor_12 : decode cX0_findBetterFor 12 = .ok (.if_icmp .ge 71, 3) := by decide +kernel
theorem dX0_findBetterFor_15 : decode cX0_findBetterFor 15 = .ok (.iconst 0, 1) := by decide +kernel
theorem dX0_findBetterFor_16 : decode cX0_findBetterFor 16 = .ok (.istore 4, 2) := by decide +kernel
theorem dX0_findBetterFor_18 : decode cX0_findBetterFor 18 = .ok (.iload 4, 2) := by decide +kernel
theorem dX0_findBetterFor_20 : decode cX0_findBetterFor 20 = .ok (.aload_n 0, 1) := by decide +kernel
theorem dX0_findBetterFor_21 : decode cX0_findBetterFor 21 = .ok (.getfield 9, 3) := by decide +kernel
theorem dX0_findBetterFor_24 : decode cX0_findBetterFor 24 = .ok (.getfield 86, 3) := by decide +kernel
theorem dX0_findBetterFor_27 : decode cX0_findBetterFor 27 = .ok (.if_icmp .ge 50, 3) := by decide +kernel
theorem dX0_findBetterFor_30 : decode cX0_findBetterFor 30 = .ok (.aload_n 0, 1) := by decide +kernel
theorem dX0_findBetterFor_31 : decode cX0_findBetterFor 31 = .ok (.iload_n 1, 1) := by decide +kernel
theorem dX0_findBetterFor_32 : decode cX0_findBetterFor 32 = .ok (.iload_n 2, 1) := by decide +kernel
theorem dX0_findBetterFor_33 : decode cX0_findBetterFor 33 = .ok (.iload_n 3, 1) := by decide +kernel
theorem dX0_findBetterFor_34 : decode cX0_findBetterFor 34 = .ok (.iload 4, 2) := by decide +kernel
theorem dX0_findBetterFor_36 : decode cX0_findBetterFor 36 = .ok (.invokevirtual 185, 3) := by decide +kernel
theorem dX0_findBetterFor_39 : decode cX0_findBetterFor 39 = .ok (.ifCond .eq 32, 3) := by decide +kernel
theorem dX0_findBetterFor_42 : decode cX0_findBetterFor 42 = .ok (.aload_n 0, 1) := by decide +kernel
theorem dX0_findBetterFor_43 : decode cX0_findBetterFor 43 = .ok (.iload_n 1, 1) := by decide +kernel
theorem dX0_findBetterFor_44 : decode cX0_findBetterFor 44 = .ok (.iload_n 2, 1) := by decide +kernel
theorem dX0_findBetterFor_45 : decode cX0_findBetterFor 45 = .ok (.iload_n 3, 1) := by decide +kernel
theorem dX0_findBetterFor_46 : decode cX0_findBetterFor 46 = .ok (.iload 4, 2) := by decide +kernel
theorem dX0_findBetterFor_48 : decode cX0_findBetterFor 48 = .ok (.invokevirtual 189, 3) := by decide +kernel
theorem dX0_findBetterFor_51 : decode cX0_findBetterFor 51 = .ok (.istore 5, 2) := by decide +kernel
theorem dX0_findBetterFor_53 : decode cX0_findBetterFor 53 = .ok (.iload 5, 2) := by decide +kernel
theorem dX0_findBetterFor_55 : decode cX0_findBetterFor 55 = .ok (.ifCond .le 16, 3) := by decide +kernel
theorem dX0_findBetterFor_58 : decode cX0_findBetterFor 58 = .ok (.aload_n 0, 1) := by decide +kernel
theorem dX0_findBetterFor_59 : decode cX0_findBetterFor 59 = .ok (.iload_n 1, 1) := by decide +kernel
theorem dX0_findBetterFor_60 : decode cX0_findBetterFor 60 = .ok (.iload_n 2, 1) := by decide +kernel
theorem dX0_findBetterFor_61 : decode cX0_findBetterFor 61 = .ok (.iload_n 3, 1) := by decide +kernel
theorem dX0_findBetterFor_62 : decode cX0_findBetterFor 62 = .ok (.iload 4, 2) := by decide +kernel
theorem dX0_findBetterFor_64 : decode cX0_findBetterFor 64 = .ok (.iload 5, 2) := by decide +kernel
theorem dX0_findBetterFor_66 : decode cX0_findBetterFor 66 = .ok (.invokevirtual 193, 3) := by decide +kernel
theorem dX0_findBetterFor_69 : decode cX0_findBetterFor 69 = .ok (.iconst 1, 1) := by decide +kernel
theorem dX0_findBetterFor_70 : decode cX0_findBetterFor 70 = .ok (.ireturn, 1) := by decide +kernel
theorem dX0_findBetterFor_71 : decode cX0_findBetterFor 71 = .ok (.iinc 4 1, 3) := by decide +kernel
theorem dX0_findBetterFor_74 : decode cX0_findBetterFor 74 = .ok (.goto (-56), 3) := by decide +kernel
theorem dX0_findBetterFor_77 : decode cX0_findBetterFor 77 = .ok (.iinc 3 1, 3) := by decide +kernel
theorem dX0_findBetterFor_80 : decode cX0_findBetterFor 80 = .ok (.goto (-76), 3) := by decide +kernel
theorem dX0_findBetterFor_83 : decode cX0_findBetterFor 83 = .ok (.iconst 0, 1) := by decide +kernel
theorem dX0_findBetterFor_84 : decode cX0_findBetterFor 84 = .ok (.ireturn, 1) := by decide +kernel
theorem dX0_keepFound_0 : decode cX0_keepFound 0 = .ok (.aload_n 0, 1) := by decide +kernel
theorem dX0_keepFound_1 : decode cX0_keepFound 1 = .ok (.getfield 25, 3) := by decide +kernel
theorem dX0_keepFound_4 : decode cX0_keepFound 4 = .ok (.iload_n 1, 1) := by decide +kernel
theorem dX0_keepFound_5 : decode cX0_keepFound 5 = .ok (.putfield 197, 3) := by decide +kernel
theorem dX0_keepFound_8 : decode cX0_keepFound 8 = .ok (.aload_n 0, 1) := by decide +kernel
theorem dX0_keepFound_9 : decode cX0_keepFound 9 = .ok (.getfield 25, 3) := by decide +kernel
theorem dX0_keepFound_12 : decode cX0_keepFound 12 = .ok (.iload_n 2, 1) := by decide +kernel
theorem dX0_keepFound_13 : decode cX0_keepFound 13 = .ok (.putfield 200, 3) := by decide +kernel
theorem dX0_keepFound_16 : decode cX0_keepFound 16 = .ok (.aload_n 0, 1) := by decide +kernel
theorem dX0_keepFound_17 : decode cX0_keepFound 17 = .ok (.getfield 25, 3) := by decide +kernel
theorem dX0_keepFound_20 : decode cX0_keepFound 20 = .ok (.iload_n 3, 1) := by decide +kernel
theorem dX0_keepFound_21 : decode cX0_keepFound 21 = .ok (.putfield 203, 3) := by decide +kernel
theorem dX0_keepFound_24 : decode cX0_keepFound 24 = .ok (.aload_n 0, 1) := by decide +kernel
theorem dX0_keepFound_25 : decode cX0_keepFound 25 = .ok (.getfield 25, 3) := by decide +kernel
theorem dX0_keepFound_28 : decode cX0_keepFound 28 = .ok (.iload 4, 2) := by decide +kernel
theorem dX0_keepFound_30 : decode cX0_keepFound 30 = .ok (.putfield 206, 3) := by decide +kernel
theorem dX0_keepFound_33 : decode cX0_keepFound 33 = .ok (.aload_n 0, 1) := by decide +kernel
theorem dX0_keepFound_34 : decode cX0_keepFound 34 = .ok (.getfield 25, 3) := by decide +kernel
theorem dX0_keepFound_37 : decode cX0_keepFound 37 = .ok (.iload 5, 2) := by decide +kernel
theorem dX0_keepFound_39 : decode cX0_keepFound 39 = .ok (.putfield 209, 3) := by decide +kernel
theorem dX0_keepFound_42 : decode cX0_keepFound 42 = .ok (.return_, 1) := by decide +kernel
theorem dX0_gainOf_0 : decode cX0_gainOf 0 = .ok (.aload_n 0, 1) := by decide +kernel
theorem dX0_gainOf_1 : decode cX0_gainOf 1 = .ok (.getfield 18, 3) := by decide +kernel
theorem dX0_gainOf_4 : decode cX0_gainOf 4 = .ok (.getfield 59, 3) := by decide +kernel
theorem dX0_gainOf_7 : decode cX0_gainOf 7 = .ok (.iload_n 1, 1) := by decide +kernel
theorem dX0_gainOf_8 : decode cX0_gainOf 8 = .ok (.iaload, 1) := by decide +kernel
theorem dX0_gainOf_9 : decode cX0_gainOf 9 = .ok (.iconst 1, 1) := by decide +kernel
theorem dX0_gainOf_10 : decode cX0_gainOf 10 = .ok (.iload_n 2, 1) := by decide +kernel
theorem dX0_gainOf_11 : decode cX0_gainOf 11 = .ok (.ishl, 1) := by decide +kernel
theorem dX0_gainOf_12 : decode cX0_gainOf 12 = .ok (.iconst (-1), 1) := by decide +kernel
theorem dX0_gainOf_13 : decode cX0_gainOf 13 = .ok (.ixor, 1) := by decide +kernel
theorem dX0_gainOf_14 : decode cX0_gainOf 14 = .ok (.iand, 1) := by decide +kernel
theorem dX0_gainOf_15 : decode cX0_gainOf 15 = .ok (.istore 5, 2) := by decide +kernel
theorem dX0_gainOf_17 : decode cX0_gainOf 17 = .ok (.aload_n 0, 1) := by decide +kernel
theorem dX0_gainOf_18 : decode cX0_gainOf 18 = .ok (.getfield 18, 3) := by decide +kernel
theorem dX0_gainOf_21 : decode cX0_gainOf 21 = .ok (.getfield 59, 3) := by decide +kernel
theorem dX0_gainOf_24 : decode cX0_gainOf 24 = .ok (.iload_n 3, 1) := by decide +kernel
theorem dX0_gainOf_25 : decode cX0_gainOf 25 = .ok (.iaload, 1) := by decide +kernel
theorem dX0_gainOf_26 : decode cX0_gainOf 26 = .ok (.iconst 1, 1) := by decide +kernel
theorem dX0_gainOf_27 : decode cX0_gainOf 27 = .ok (.iload 4, 2) := by decide +kernel
theorem dX0_gainOf_29 : decode cX0_gainOf 29 = .ok (.ishl, 1) := by decide +kernel
theorem dX0_gainOf_30 : decode cX0_gainOf 30 = .ok (.iconst (-1), 1) := by decide +kernel
theorem dX0_gainOf_31 : decode cX0_gainOf 31 = .ok (.ixor, 1) := by decide +kernel
theorem dX0_gainOf_32 : decode cX0_gainOf 32 = .ok (.iand, 1) := by decide +kernel
theorem dX0_gainOf_33 : decode cX0_gainOf 33 = .ok (.istore 6, 2) := by decide +kernel
theorem dX0_gainOf_35 : decode cX0_gainOf 35 = .ok (.aload_n 0, 1) := by decide +kernel
theorem dX0_gainOf_36 : decode cX0_gainOf 36 = .ok (.iload 5, 2) := by decide +kernel
theorem dX0_gainOf_38 : decode cX0_gainOf 38 = .ok (.iload_n 2, 1) := by decide +kernel
theorem dX0_gainOf_39 : decode cX0_gainOf 39 = .ok (.iload 4, 2) := by decide +kernel
theorem dX0_gainOf_41 : decode cX0_gainOf 41 = .ok (.invokevirtual 212, 3) := by decide +kernel
theorem dX0_gainOf_44 : decode cX0_gainOf 44 = .ok (.aload_n 0, 1) := by decide +kernel
theorem dX0_gainOf_45 : decode cX0_gainOf 45 = .ok (.iload 6, 2) := by decide +kernel
theorem dX0_gainOf_47 : decode cX0_gainOf 47 = .ok (.iload 4, 2) := by decide +kernel
theorem dX0_gainOf_49 : decode cX0_gainOf 49 = .ok (.iload_n 2, 1) := by decide +kernel
theorem dX0_gainOf_50 : decode cX0_gainOf 50 = .ok (.invokevirtual 212, 3) := by decide +kernel
theorem dX0_gainOf_53 : decode cX0_gainOf 53 = .ok (.iadd, 1) := by decide +kernel
theorem dX0_gainOf_54 : decode cX0_gainOf 54 = .ok (.istore 7, 2) := by decide +kernel
theorem dX0_gainOf_56 : decode cX0_gainOf 56 = .ok (.aload_n 0, 1) := by decide +kernel
theorem dX0_gainOf_57 : decode cX0_gainOf 57 = .ok (.iload 6, 2) := by decide +kernel
theorem dX0_gainOf_59 : decode cX0_gainOf 59 = .ok (.iload_n 2, 1) := by decide +kernel
theorem dX0_gainOf_60 : decode cX0_gainOf 60 = .ok (.iload 4, 2) := by decide +kernel
theorem dX0_gainOf_62 : decode cX0_gainOf 62 = .ok (.invokevirtual 212, 3) := by decide +kernel
theorem dX0_gainOf_65 : decode cX0_gainOf 65 = .ok (.pop, 1) := by decide +kernel
theorem dX0_gainOf_66 : decode cX0_gainOf 66 = .ok (.aload_n 0, 1) := by decide +kernel
theorem dX0_gainOf_67 : decode cX0_gainOf 67 = .ok (.iload 5, 2) := by decide +kernel
theorem dX0_gainOf_69 : decode cX0_gainOf 69 = .ok (.iload 4, 2) := by decide +kernel
theorem dX0_gainOf_71 : decode cX0_gainOf 71 = .ok (.iload_n 2, 1) := by decide +kernel
theorem dX0_gainOf_72 : decode cX0_gainOf 72 = .ok (.invokevirtual 212, 3) := by decide +kernel
theorem dX0_gainOf_75 : decode cX0_gainOf 75 = .ok (.pop, 1) := by decide +kernel
theorem dX0_gainOf_76 : decode cX0_gainOf 76 = .ok (.iload 7, 2) := by decide +kernel
theorem dX0_gainOf_78 : decode cX0_gainOf 78 = .ok (.ineg, 1) := by decide +kernel
theorem dX0_gainOf_79 : decode cX0_gainOf 79 = .ok (.ireturn, 1) := by decide +kernel
theorem dX0_movePairs_0 : decode cX0_movePairs 0 = .ok (.iconst 0, 1) := by decide +kernel
theorem dX0_movePairs_1 : decode cX0_movePairs 1 = .ok (.istore 4, 2) := by decide +kernel
theorem dX0_movePairs_3 : decode cX0_movePairs 3 = .ok (.iconst 0, 1) := by decide +kernel
theorem dX0_movePairs_4 : decode cX0_movePairs 4 = .ok (.istore 5, 2) := by decide +kernel
theorem dX0_movePairs_6 : decode cX0_movePairs 6 = .ok (.iload 5, 2) := by decide +kernel
theorem dX0_movePairs_8 : decode cX0_movePairs 8 = .ok (.aload_n 0, 1) := by decide +kernel
theorem dX0_movePairs_9 : decode cX0_movePairs 9 = .ok (.getfield 9, 3) := by decide +kernel
theorem dX0_movePairs_12 : decode cX0_movePairs 12 = .ok (.getfield 86, 3) := by decide +kernel
theorem dX0_movePairs_15 : decode cX0_movePairs 15 = .ok (.if_icmp .ge 88, 3) := by decide +kernel
theorem dX0_movePairs_18 : decode cX0_movePairs 18 = .ok (.iload_n 1, 1) := by decide +kernel
theorem dX0_movePairs_19 : decode cX0_movePairs 19 = .ok (.iload 5, 2) := by decide +kernel
theorem dX0_movePairs_21 : decode cX0_movePairs 21 = .ok (.invokestatic 62, 3) := by decide +kernel
theorem dX0_movePairs_24 : decode cX0_movePairs 24 = .ok (.ifCond .eq 73, 3) := by decide +kernel
theorem dX0_movePairs_27 : decode cX0_movePairs 27 = .ok (.iload 5, 2) := by decide +kernel
theorem dX0_movePairs_29 : decode cX0_movePairs 29 = .ok (.iload_n 2, 1) := by decide +kernel
theorem dX0_movePairs_30 : decode cX0_movePairs 30 = .ok (.invokestatic 92, 3) := by decide +kernel
theorem dX0_movePairs_33 : decode cX0_movePairs 33 = .ok (.istore 6, 2) := by decide +kernel
theorem dX0_movePairs_35 : decode cX0_movePairs 35 = .ok (.iload 5, 2) := by decide +kernel
theorem dX0_movePairs_37 : decode cX0_movePairs 37 = .ok (.iload_n 3, 1) := by decide +kernel
theorem dX0_movePairs_38 : decode cX0_movePairs 38 = .ok (.invokestatic 92, 3) := by decide +kernel
theorem dX0_movePairs_41 : decode cX0_movePairs 41 = .ok (.istore 7, 2) := by decide +kernel
theorem dX0_movePairs_43 : decode cX0_movePairs 43 = .ok (.iload 4, 2) := by decide +kernel
theorem dX0_movePairs_45 : decode cX0_movePairs 45 = .ok (.iconst 1, 1) := by decide +kernel
theorem dX0_movePairs_46 : decode cX0_movePairs 46 = .ok (.iconst 2, 1) := by decide +kernel
theorem dX0_movePairs_47 : decode cX0_movePairs 47 = .ok (.aload_n 0, 1) := by decide +kernel
theorem dX0_movePairs_48 : decode cX0_movePairs 48 = .ok (.getfield 29, 3) := by decide +kernel
theorem dX0_movePairs_51 : decode cX0_movePairs 51 = .ok (.iload 6, 2) := by decide +kernel
theorem dX0_movePairs_53 : decode cX0_movePairs 53 = .ok (.iaload, 1) := by decide +kernel
theorem dX0_movePairs_54 : decode cX0_movePairs 54 = .ok (.imul, 1) := by decide +kernel
theorem dX0_movePairs_55 : decode cX0_movePairs 55 = .ok (.isub, 1) := by decide +kernel
theorem dX0_movePairs_56 : decode cX0_movePairs 56 = .ok (.iadd, 1) := by decide +kernel
theorem dX0_movePairs_57 : decode cX0_movePairs 57 = .ok (.istore 4, 2) := by decide +kernel
theorem dX0_movePairs_59 : decode cX0_movePairs 59 = .ok (.aload_n 0, 1) := by decide +kernel
theorem dX0_movePairs_60 : decode cX0_movePairs 60 = .ok (.getfield 29, 3) := by decide +kernel
theorem dX0_movePairs_63 : decode cX0_movePairs 63 = .ok (.iload 6, 2) := by decide +kernel
theorem dX0_movePairs_65 : decode cX0_movePairs 65 = .ok (.dup2, 1) := by decide +kernel
theorem dX0_movePairs_66 : decode cX0_movePairs 66 = .ok (.iaload, 1) := by decide +kernel
theorem dX0_movePairs_67 : decode cX0_movePairs 67 = .ok (.iconst 1, 1) := by decide +kernel
theorem dX0_movePairs_68 : decode cX0_movePairs 68 = .ok (.isub, 1) := by decide +kernel
theorem dX0_movePairs_69 : decode cX0_movePairs 69 = .ok (.iastore, 1) := by decide +kernel
theorem dX0_movePairs_70 : decode cX0_movePairs 70 = .ok (.iload 4, 2) := by decide +kernel
theorem dX0_movePairs_72 : decode cX0_movePairs 72 = .ok (.iconst 1, 1) := by decide +kernel
theorem dX0_movePairs_73 : decode cX0_movePairs 73 = .ok (.iconst 2, 1) := by decide +kernel
theorem dX0_movePairs_74 : decode cX0_movePairs 74 = .ok (.aload_n 0, 1) := by decide +kernel
theorem dX0_movePairs_75 : decode cX0_movePairs 75 = .ok (.getfield 29, 3) := by decide +kernel
theorem dX0_movePairs_78 : decode cX0_movePairs 78 = .ok (.iload 7, 2) := by decide +kernel
theorem dX0_movePairs_80 : decode cX0_movePairs 80 = .ok (.iaload, 1) := by decide +kernel
theorem dX0_movePairs_81 : decode cX0_movePairs 81 = .ok (.imul, 1) := by decide +kernel
theorem dX0_movePairs_82 : decode cX0_movePairs 82 = .ok (.iadd, 1) := by decide +kernel
theorem dX0_movePairs_83 : decode cX0_movePairs 83 = .ok (.iadd, 1) := by decide +kernel
theorem dX0_movePairs_84 : decode cX0_movePairs 84 = .ok (.istore 4, 2) := by decide +kernel
theorem dX0_movePairs_86 : decode cX0_movePairs 86 = .ok (.aload_n 0, 1) := by decide +kernel
theorem dX0_movePairs_87 : decode cX0_movePairs 87 = .ok (.getfield 29, 3) := by decide +kernel
theorem dX0_movePairs_90 : decode cX0_movePairs 90 = .ok (.iload 7, 2) := by decide +kernel
theorem dX0_movePairs_92 : decode cX0_movePairs 92 = .ok (.dup2, 1) := by decide +kernel
theorem dX0_movePairs_93 : decode cX0_movePairs 93 = .ok (.iaload, 1) := by decide +kernel
theorem dX0_movePairs_94 : decode cX0_movePairs 94 = .ok (.iconst 1, 1) := by decide +kernel
theorem dX0_movePairs_95 : decode cX0_movePairs 95 = .ok (.iadd, 1) := by decide +kernel
theorem dX0_movePairs_96 : decode cX0_movePairs 96 = .ok (.iastore, 1) := by decide +kernel
theorem dX0_movePairs_97 : decode cX0_movePairs 97 = .ok (.iinc 5 1, 3) := by decide +kernel
theorem dX0_movePairs_100 : decode cX0_movePairs 100 = .ok (.goto (-94), 3) := by decide +kernel
theorem dX0_movePairs_103 : decode cX0_movePairs 103 = .ok (.iload 4, 2) := by decide +kernel
theorem dX0_movePairs_105 : decode cX0_movePairs 105 = .ok (.ireturn, 1) := by decide +kernel
end
section
theorem dX8_thrown_0 : decode cX8_thrown 0 = .ok (.aload_n 0, 1) := by decide +kernel
theorem dX8_thrown_1 : decode cX8_thrown 1 = .ok (.getfield 1, 3) := by decide +kernel
theorem dX8_thrown_4 : decode cX8_thrown 4 = .ok (.ireturn, 1) := by decide +kernel
theorem dX8_refuse_0 : decode cX8_refuse 0 = .ok (.aload_n 0, 1) := by decide +kernel
theorem dX8_refuse_1 : decode cX8_refuse 1 = .ok (.iconst 1, 1) := by decide +kernel
theorem dX8_refuse_2 : decode cX8_refuse 2 = .ok (.putfield 1, 3) := by decide +kernel
theorem dX8_refuse_5 : decode cX8_refuse 5 = .ok (.iconst 0, 1) := by decide +kernel
theorem dX8_refuse_6 : decode cX8_refuse 6 = .ok (.ireturn, 1) := by decide +kernel
theorem dX8_isIn_0 : decode cX8_isIn 0 = .ok (.iload_n 0, 1) := by decide +kernel
theorem dX8_isIn_1 : decode cX8_isIn 1 = .ok (.iload_n 1, 1) := by decide +kernel
theorem dX8_isIn_2 : decode cX8_isIn 2 = .ok (.if_icmp .lt 12, 3) := by decide +kernel
theorem dX8_isIn_5 : decode cX8_isIn 5 = .ok (.iload_n 0, 1) := by decide +kernel
theorem dX8_isIn_6 : decode cX8_isIn 6 = .ok (.iload_n 2, 1) := by decide +kernel
theorem dX8_isIn_7 : decode cX8_isIn 7 = .ok (.if_icmp .gt 7, 3) := by decide +kernel
theorem dX8_isIn_10 : decode cX8_isIn 10 = .ok (.iconst 1, 1) := by decide +kernel
theorem dX8_isIn_11 : decode cX8_isIn 11 = .ok (.goto 4, 3) := by decide +kernel
theorem dX8_isIn_14 : decode cX8_isIn 14 = .ok (.iconst 0, 1) := by decide +kernel
theorem dX8_isIn_15 : decode cX8_isIn 15 = .ok (.ireturn, 1) := by decide +kernel
theorem dX8_has_0 : decode cX8_has 0 = .ok (.iload_n 0, 1) := by decide +kernel
theorem dX8_has_1 : decode cX8_has 1 = .ok (.iload_n 1, 1) := by decide +kernel
theorem dX8_has_2 : decode cX8_has 2 = .ok (.ishr, 1) := by decide +kernel
theorem dX8_has_3 : decode cX8_has 3 = .ok (.iconst 1, 1) := by decide +kernel
theorem dX8_has_4 : decode cX8_has 4 = .ok (.iand, 1) := by decide +kernel
theorem dX8_has_5 : decode cX8_has 5 = .ok (.iconst 1, 1) := by decide +kernel
theorem dX8_has_6 : decode cX8_has 6 = .ok (.if_icmp .ne 7, 3) := by decide +kernel
theorem dX8_has_9 : decode cX8_has 9 = .ok (.iconst 1, 1) := by decide +kernel
theorem dX8_has_10 : decode cX8_has 10 = .ok (.goto 4, 3) := by decide +kernel
theorem dX8_has_13 : decode cX8_has 13 = .ok (.iconst 0, 1) := by decide +kernel
theorem dX8_has_14 : decode cX8_has 14 = .ok (.ireturn, 1) := by decide +kernel
theorem dX8_bits_0 : decode cX8_bits 0 = .ok (.iconst 0, 1) := by decide +kernel
theorem dX8_bits_1 : decode cX8_bits 1 = .ok (.istore_n 1, 1) := by decide +kernel
theorem dX8_bits_2 : decode cX8_bits 2 = .ok (.iload_n 0, 1) := by decide +kernel
theorem dX8_bits_3 : decode cX8_bits 3 = .ok (.istore_n 2, 1) := by decide +kernel
theorem dX8_bits_4 : decode cX8_bits 4 = .ok (.iload_n 2, 1) := by decide +kernel
theorem dX8_bits_5 : decode cX8_bits 5 = .ok (.ifCond .eq 15, 3) := by decide +kernel
theorem dX8_bits_8 : decode cX8_bits 8 = .ok (.iinc 1 1, 3) := by decide +kernel
theorem dX8_bits_11 : decode cX8_bits 11 = .ok (.iload_n 2, 1) := by decide +kernel
theorem dX8_bits_12 : decode cX8_bits 12 = .ok (.iload_n 2, 1) := by decide +kernel
theorem dX8_bits_13 : decode cX8_bits 13 = .ok (.iconst 1, 1) := by decide +kernel
theorem dX8_bits_14 : decode cX8_bits 14 = .ok (.isub, 1) := by decide +kernel
theorem dX8_bits_15 : decode cX8_bits 15 = .ok (.iand, 1) := by decide +kernel
theorem dX8_bits_16 : decode cX8_bits 16 = .ok (.istore_n 2, 1) := by decide +kernel
theorem dX8_bits_17 : decode cX8_bits 17 = .ok (.goto (-13), 3) := by decide +kernel
theorem dX8_bits_20 : decode cX8_bits 20 = .ok (.iload_n 1, 1) := by decide +kernel
theorem dX8_bits_21 : decode cX8_bits 21 = .ok (.ireturn, 1) := by decide +kernel
theorem dX8_lays_0 : decode cX8_lays 0 = .ok (.bipush 24, 2) := by decide +kernel
theorem dX8_lays_2 : decode cX8_lays 2 = .ok (.istore_n 2, 1) := by decide +kernel
theorem dX8_lays_3 : decode cX8_lays 3 = .ok (.iload_n 2, 1) := by decide +kernel
theorem dX8_lays_4 : decode cX8_lays 4 = .ok (.ifCond .lt 35, 3) := by decide +kernel
theorem dX8_lays_7 : decode cX8_lays 7 = .ok (.aload_n 0, 1) := by decide +kernel
theorem dX8_lays_8 : decode cX8_lays 8 = .ok (.getfield 7, 3) := by decide +kernel
theorem dX8_lays_11 : decode cX8_lays 11 = .ok (.aload_n 0, 1) := by decide +kernel
theorem dX8_lays_12 : decode cX8_lays 12 = .ok (.getfield 11, 3) := by decide +kernel
theorem dX8_lays_15 : decode cX8_lays 15 = .ok (.iload_n 1, 1) := by decide +kernel
theorem dX8_lays_16 : decode cX8_lays 16 = .ok (.iload_n 2, 1) := by decide +kernel
theorem dX8_lays_17 : decode cX8_lays 17 = .ok (.iushr, 1) := by decide +kernel
theorem dX8_lays_18 : decode cX8_lays 18 = .ok (.sipush 255, 3) := by decide +kernel
theorem dX8_lays_21 : decode cX8_lays 21 = .ok (.iand, 1) := by decide +kernel
theorem dX8_lays_22 : decode cX8_lays 22 = .ok (.iastore, 1) := by decide +kernel
theorem dX8_lays_23 : decode cX8_lays 23 = .ok (.aload_n 0, 1) := by decide +kernel
theorem dX8_lays_24 : decode cX8_lays 24 = .ok (.dup, 1) := by decide +kernel
theorem dX8_lays_25 : decode cX8_lays 25 = .ok (.getfield 11, 3) := by decide +kernel
theorem dX8_lays_28 : decode cX8_lays 28 = .ok (.iconst 1, 1) := by decide +kernel
theorem dX8_lays_29 : decode cX8_lays 29 = .ok (.iadd, 1) := by decide +kernel
theorem dX8_lays_30 : decode cX8_lays 30 = .ok (.putfield 11, 3) := by decide +kernel
theorem dX8_lays_33 : decode cX8_lays 33 = .ok (.iinc 2 (-8), 3) := by decide +kernel
theorem dX8_lays_36 : decode cX8_lays 36 = .ok (.goto (-33), 3) := by decide +kernel
theorem dX8_lays_39 : decode cX8_lays 39 = .ok (.return_, 1) := by decide +kernel
theorem dX8_feed_0 : decode cX8_feed 0 = .ok (.aload_n 0, 1) := by decide +kernel
theorem dX8_feed_1 : decode cX8_feed 1 = .ok (.iconst 0, 1) := by decide +kernel
theorem dX8_feed_2 : decode cX8_feed 2 = .ok (.putfield 1, 3) := by decide +kernel
theorem dX8_feed_5 : decode cX8_feed 5 = .ok (.aload_n 0, 1) := by decide +kernel
theorem dX8_feed_6 : decode cX8_feed 6 = .ok (.getfield 11, 3) := by decide +kernel
theorem dX8_feed_9 : decode cX8_feed 9 = .ok (.bipush 20, 2) := by decide +kernel
theorem dX8_feed_11 : decode cX8_feed 11 = .ok (.iadd, 1) := by decide +kernel
theorem dX8_feed_12 : decode cX8_feed 12 = .ok (.sipush 540, 3) := by decide +kernel
theorem dX8_feed_15 : decode cX8_feed 15 = .ok (.if_icmp .le 5, 3) := by decide +kernel
theorem dX8_feed_18 : decode cX8_feed 18 = .ok (.iconst (-1), 1) := by decide +kernel
theorem dX8_feed_19 : decode cX8_feed 19 = .ok (.ireturn, 1) := by decide +kernel
theorem dX8_feed_20 : decode cX8_feed 20 = .ok (.aload_n 0, 1) := by decide +kernel
theorem dX8_feed_21 : decode cX8_feed 21 = .ok (.iload_n 1, 1) := by decide +kernel
theorem dX8_feed_22 : decode cX8_feed 22 = .ok (.invokevirtual 14, 3) := by decide +kernel
theorem dX8_feed_25 : decode cX8_feed 25 = .ok (.aload_n 0, 1) := by decide +kernel
theorem dX8_feed_26 : decode cX8_feed 26 = .ok (.iload_n 2, 1) := by decide +kernel
theorem dX8_feed_27 : decode cX8_feed 27 = .ok (.invokevirtual 14, 3) := by decide +kernel
theorem dX8_feed_30 : decode cX8_feed 30 = .ok (.aload_n 0, 1) := by decide +kernel
theorem dX8_feed_31 : decode cX8_feed 31 = .ok (.iload_n 3, 1) := by decide +kernel
theorem dX8_feed_32 : decode cX8_feed 32 = .ok (.invokevirtual 14, 3) := by decide +kernel
theorem dX8_feed_35 : decode cX8_feed 35 = .ok (.aload_n 0, 1) := by decide +kernel
theorem dX8_feed_36 : decode cX8_feed 36 = .ok (.iload 4, 2) := by decide +kernel
theorem dX8_feed_38 : decode cX8_feed 38 = .ok (.invokevirtual 14, 3) := by decide +kernel
theorem dX8_feed_41 : decode cX8_feed 41 = .ok (.aload_n 0, 1) := by decide +kernel
theorem dX8_feed_42 : decode cX8_feed 42 = .ok (.iload 5, 2) := by decide +kernel
theorem dX8_feed_44 : decode cX8_feed 44 = .ok (.invokevirtual 14, 3) := by decide +kernel
theorem dX8_feed_47 : decode cX8_feed 47 = .ok (.aload_n 0, 1) := by decide +kernel
theorem dX8_feed_48 : decode cX8_feed 48 = .ok (.getfield 11, 3) := by decide +kernel
theorem dX8_feed_51 : decode cX8_feed 51 = .ok (.ireturn, 1) := by decide +kernel
theorem dX8_end_0 : decode cX8_end 0 = .ok (.aload_n 0, 1) := by decide +kernel
theorem dX8_end_1 : decode cX8_end 1 = .ok (.iconst 0, 1) := by decide +kernel
theorem dX8_end_2 : decode cX8_end 2 = .ok (.putfield 1, 3) := by decide +kernel
theorem dX8_end_5 : decode cX8_end 5 = .ok (.iload_n 1, 1) := by decide +kernel
theorem dX8_end_6 : decode cX8_end 6 = .ok (.ifCond .lt 11, 3) := by decide +kernel
theorem dX8_end_9 : decode cX8_end 9 = .ok (.iload_n 1, 1) := by decide +kernel
theorem dX8_end_10 : decode cX8_end 10 = .ok (.aload_n 0, 1) := by decide +kernel
theorem dX8_end_11 : decode cX8_end 11 = .ok (.getfield 11, 3) := by decide +kernel
theorem dX8_end_14 : decode cX8_end 14 = .ok (.if_icmp .le 5, 3) := by decide +kernel
theorem dX8_end_17 : decode cX8_end 17 = .ok (.iconst 0, 1) := by decide +kernel
theorem dX8_end_18 : decode cX8_end 18 = .ok (.ireturn, 1) := by decide +kernel
theorem dX8_end_19 : decode cX8_end 19 = .ok (.aload_n 0, 1) := by decide +kernel
theorem dX8_end_20 : decode cX8_end 20 = .ok (.iload_n 1, 1) := by decide +kernel
theorem dX8_end_21 : decode cX8_end 21 = .ok (.putfield 11, 3) := by decide +kernel
theorem dX8_end_24 : decode cX8_end 24 = .ok (.iconst 1, 1) := by decide +kernel
theorem dX8_end_25 : decode cX8_end 25 = .ok (.ireturn, 1) := by decide +kernel
theorem dX8_tapeAt_0 : decode cX8_tapeAt 0 = .ok (.iload_n 1, 1) := by decide +kernel
theorem dX8_tapeAt_1 : decode cX8_tapeAt 1 = .ok (.aload_n 0, 1) := by decide +kernel
theorem dX8_tapeAt_2 : decode cX8_tapeAt 2 = .ok (.getfield 18, 3) := by decide +kernel
theorem dX8_tapeAt_5 : decode cX8_tapeAt 5 = .ok (.if_icmp .ge 12, 3) := by decide +kernel
theorem dX8_tapeAt_8 : decode cX8_tapeAt 8 = .ok (.aload_n 0, 1) := by decide +kernel
theorem dX8_tapeAt_9 : decode cX8_tapeAt 9 = .ok (.getfield 7, 3) := by decide +kernel
theorem dX8_tapeAt_12 : decode cX8_tapeAt 12 = .ok (.iload_n 1, 1) := by decide +kernel
theorem dX8_tapeAt_13 : decode cX8_tapeAt 13 = .ok (.iaload, 1) := by decide +kernel
theorem dX8_tapeAt_14 : decode cX8_tapeAt 14 = .ok (.goto 4, 3) := by decide +kernel
theorem dX8_tapeAt_17 : decode cX8_tapeAt 17 = .ok (.iconst 0, 1) := by decide +kernel
theorem dX8_tapeAt_18 : decode cX8_tapeAt 18 = .ok (.ireturn, 1) := by decide +kernel
theorem dX8_isDigit_0 : decode cX8_isDigit 0 = .ok (.iload_n 0, 1) := by decide +kernel
theorem dX8_isDigit_1 : decode cX8_isDigit 1 = .ok (.bipush 48, 2) := by decide +kernel
theorem dX8_isDigit_3 : decode cX8_isDigit 3 = .ok (.if_icmp .lt 13, 3) := by decide +kernel
theorem dX8_isDigit_6 : decode cX8_isDigit 6 = .ok (.iload_n 0, 1) := by decide +kernel
theorem dX8_isDigit_7 : decode cX8_isDigit 7 = .ok (.bipush 57, 2) := by decide +kernel
theorem dX8_isDigit_9 : decode cX8_isDigit 9 = .ok (.if_icmp .gt 7, 3) := by decide +kernel
theorem dX8_isDigit_12 : decode cX8_isDigit 12 = .ok (.iconst 1, 1) := by decide +kernel
theorem dX8_isDigit_13 : decode cX8_isDigit 13 = .ok (.goto 4, 3) := by decide +kernel
theorem dX8_isDigit_16 : decode cX8_isDigit 16 = .ok (.iconst 0, 1) := by decide +kernel
theorem dX8_isDigit_17 : decode cX8_isDigit 17 = .ok (.ireturn, 1) := by decide +kernel
theorem dX8_isLetter_0 : decode cX8_isLetter 0 = .ok (.iload_n 0, 1) := by decide +kernel
theorem dX8_isLetter_1 : decode cX8_isLetter 1 = .ok (.bipush 97, 2) := by decide +kernel
theorem dX8_isLetter_3 : decode cX8_isLetter 3 = .ok (.if_icmp .lt 13, 3) := by decide +kernel
theorem dX8_isLetter_6 : decode cX8_isLetter 6 = .ok (.iload_n 0, 1) := by decide +kernel
theorem dX8_isLetter_7 : decode cX8_isLetter 7 = .ok (.bipush 122, 2) := by decide +kernel
theorem dX8_isLetter_9 : decode cX8_isLetter 9 = .ok (.if_icmp .gt 7, 3) := by decide +kernel
theorem dX8_isLetter_12 : decode cX8_isLetter 12 = .ok (.iconst 1, 1) := by decide +kernel
theorem dX8_isLetter_13 : decode cX8_isLetter 13 = .ok (.goto 4, 3) := by decide +kernel
theorem dX8_isLetter_16 : decode cX8_isLetter 16 = .ok (.iconst 0, 1) := by decide +kernel
theorem dX8_isLetter_17 : decode cX8_isLetter 17 = .ok (.ireturn, 1) := by decide +kernel
theorem dX8_go_0 : decode cX8_go 0 = .ok (.aload_n 0, 1) := by decide +kernel
theorem dX8_go_1 : decode cX8_go 1 = .ok (.getfield 21, 3) := by decide +kernel
theorem dX8_go_4 : decode cX8_go 4 = .ok (.aload_n 0, 1) := by decide +kernel
theorem dX8_go_5 : decode cX8_go 5 = .ok (.getfield 18, 3) := by decide +kernel
theorem dX8_go_8 : decode cX8_go 8 = .ok (.if_icmp .ge 44, 3) := by decide +kernel
theorem dX8_go_11 : decode cX8_go 11 = .ok (.aload_n 0, 1) := by decide +kernel
theorem dX8_go_12 : decode cX8_go 12 = .ok (.getfield 7, 3) := by decide +kernel
theorem dX8_go_15 : decode cX8_go 15 = .ok (.aload_n 0, 1) := by decide +kernel
theorem dX8_go_16 : decode cX8_go 16 = .ok (.getfield 21, 3) := by decide +kernel
theorem dX8_go_19 : decode cX8_go 19 = .ok (.iaload, 1) := by decide +kernel
theorem dX8_go_20 : decode cX8_go 20 = .ok (.bipush 32, 2) := by decide +kernel
theorem dX8_go_22 : decode cX8_go 22 = .ok (.if_icmp .eq 17, 3) := by decide +kernel
theorem dX8_go_25 : decode cX8_go 25 = .ok (.aload_n 0, 1) := by decide +kernel
theorem dX8_go_26 : decode cX8_go 26 = .ok (.getfield 7, 3) := by decide +kernel
theorem dX8_go_29 : decode cX8_go 29 = .ok (.aload_n 0, 1) := by decide +kernel
theorem dX8_go_30 : decode cX8_go 30 = .ok (.getfield 21, 3) := by decide +kernel
theorem dX8_go_33 : decode cX8_go 33 = .ok (.iaload, 1) := by decide +kernel
theorem dX8_go_34 : decode cX8_go 34 = .ok (.bipush 10, 2) := by decide +kernel
theorem dX8_go_36 : decode cX8_go 36 = .ok (.if_icmp .ne 16, 3) := by decide +kernel
theorem dX8_go_39 : decode cX8_go 39 = .ok (.aload_n 0, 1) := by decide +kernel
theorem dX8_go_40 : decode cX8_go 40 = .ok (.dup, 1) := by decide +kernel
theorem dX8_go_41 : decode cX8_go 41 = .ok (.getfield 21, 3) := by decide +kernel
theorem dX8_go_44 : decode cX8_go 44 = .ok (.iconst 1, 1) := by decide +kernel
theorem dX8_go_45 : decode cX8_go 45 = .ok (.iadd, 1) := by decide +kernel
theorem dX8_go_46 : decode cX8_go 46 = .ok (.putfield 21, 3) := by decide +kernel
theorem dX8_go_49 : decode cX8_go 49 = .ok (.goto (-49), 3) := by decide +kernel
theorem dX8_go_52 : decode cX8_go 52 = .ok (.aload_n 0, 1) := by decide +kernel
theorem dX8_go_53 : decode cX8_go 53 = .ok (.aload_n 0, 1) := by decide +kernel
theorem dX8_go_54 : decode cX8_go 54 = .ok (.getfield 21, 3) := by decide +kernel
theorem dX8_go_57 : decode cX8_go 57 = .ok (.putfield 24, 3) := by decide +kernel
theorem dX8_go_60 : decode cX8_go 60 = .ok (.aload_n 0, 1) := by decide +kernel
theorem dX8_go_61 : decode cX8_go 61 = .ok (.getfield 18, 3) := by decide +kernel
theorem dX8_go_64 : decode cX8_go 64 = .ok (.sipush 500, 3) := by decide +kernel
theorem dX8_go_67 : decode cX8_go 67 = .ok (.if_icmp .le 26, 3) := by decide +kernel
theorem dX8_go_70 : decode cX8_go 70 = .ok (.aload_n 0, 1) := by decide +kernel
theorem dX8_go_71 : decode cX8_go 71 = .ok (.getfield 24, 3) := by decide +kernel
theorem dX8_go_74 : decode cX8_go 74 = .ok (.sipush 500, 3) := by decide +kernel
theorem dX8_go_77 : decode cX8_go 77 = .ok (.if_icmp .lt 16, 3) := by decide +kernel
theorem dX8_go_80 : decode cX8_go 80 = .ok (.aload_n 0, 1) := by decide +kernel
theorem dX8_go_81 : decode cX8_go 81 = .ok (.sipush 500, 3) := by decide +kernel
theorem dX8_go_84 : decode cX8_go 84 = .ok (.putfield 24, 3) := by decide +kernel
theorem dX8_go_87 : decode cX8_go 87 = .ok (.aload_n 0, 1) := by decide +kernel
theorem dX8_go_88 : decode cX8_go 88 = .ok (.iconst 1, 1) := by decide +kernel
theorem dX8_go_89 : decode cX8_go 89 = .ok (.putfield 27, 3) := by decide +kernel
theorem dX8_go_92 : decode cX8_go 92 = .ok (.return_, 1) := by decide +kernel
theorem dX8_go_93 : decode cX8_go 93 = .ok (.aload_n 0, 1) := by decide +kernel
theorem dX8_go_94 : decode cX8_go 94 = .ok (.getfield 21, 3) := by decide +kernel
theorem dX8_go_97 : decode cX8_go 97 = .ok (.aload_n 0, 1) := by decide +kernel
theorem dX8_go_98 : decode cX8_go 98 = .ok (.getfield 18, 3) := by decide +kernel
theorem dX8_go_101 : decode cX8_go 101 = .ok (.if_icmp .lt 9, 3) := by decide +kernel
theorem dX8_go_104 : decode cX8_go 104 = .ok (.aload_n 0, 1) := by decide +kernel
theorem dX8_go_105 : decode cX8_go 105 = .ok (.iconst 0, 1) := by decide +kernel
theorem dX8_go_106 : decode cX8_go 106 = .ok (.putfield 27, 3) := by decide +kernel
theorem dX8_go_109 : decode cX8_go 109 = .ok (.return_, 1) := by decide +kernel
theorem dX8_go_110 : decode cX8_go 110 = .ok (.aload_n 0, 1) := by decide +kernel
theorem dX8_go_111 : decode cX8_go 111 = .ok (.getfield 7, 3) := by decide +kernel
theorem dX8_go_114 : decode cX8_go 114 = .ok (.aload_n 0, 1) := by decide +kernel
theorem dX8_go_115 : decode cX8_go 115 = .ok (.getfield 21, 3) := by decide +kernel
theorem dX8_go_118 : decode cX8_go 118 = .ok (.iaload, 1) := by decide +kernel
theorem dX8_go_119 : decode cX8_go 119 = .ok (.istore_n 1, 1) := by decide +kernel
theorem dX8_go_120 : decode cX8_go 120 = .ok (.iload_n 1, 1) := by decide +kernel
theorem dX8_go_121 : decode cX8_go 121 = .ok (.invokestatic 30, 3) := by decide +kernel
theorem dX8_go_124 : decode cX8_go 124 = .ok (.ifCond .ne 36, 3) := by decide +kernel
theorem dX8_go_127 : decode cX8_go 127 = .ok (.iload_n 1, 1) := by decide +kernel
theorem dX8_go_128 : decode cX8_go 128 = .ok (.invokestatic 34, 3) := by decide +kernel
theorem dX8_go_131 : decode cX8_go 131 = .ok (.ifCond .ne 29, 3) := by decide +kernel
theorem dX8_go_134 : decode cX8_go 134 = .ok (.aload_n 0, 1) := by decide +kernel
theorem dX8_go_135 : decode cX8_go 135 = .ok (.iload_n 1, 1) := by decide +kernel
theorem dX8_go_136 : decode cX8_go 136 = .ok (.bipush 59, 2) := by decide +kernel
theorem dX8_go_138 : decode cX8_go 138 = .ok (.if_icmp .ne 7, 3) := by decide +kernel
theorem dX8_go_141 : decode cX8_go 141 = .ok (.iconst 4, 1) := by decide +kernel
theorem dX8_go_142 : decode cX8_go 142 = .ok (.goto 4, 3) := by decide +kernel
theorem dX8_go_145 : decode cX8_go 145 = .ok (.iconst 1, 1) := by decide +kernel
theorem dX8_go_146 : decode cX8_go 146 = .ok (.putfield 27, 3) := by decide +kernel
theorem dX8_go_149 : decode cX8_go 149 = .ok (.aload_n 0, 1) := by decide +kernel
theorem dX8_go_150 : decode cX8_go 150 = .ok (.dup, 1) := by decide +kernel
theorem dX8_go_151 : decode cX8_go 151 = .ok (.getfield 21, 3) := by decide +kernel
theorem dX8_go_154 : decode cX8_go 154 = .ok (.iconst 1, 1) := by decide +kernel
theorem dX8_go_155 : decode cX8_go 155 = .ok (.iadd, 1) := by decide +kernel
theorem dX8_go_156 : decode cX8_go 156 = .ok (.putfield 21, 3) := by decide +kernel
theorem dX8_go_159 : decode cX8_go 159 = .ok (.return_, 1) := by decide +kernel
theorem dX8_go_160 : decode cX8_go 160 = .ok (.iload_n 1, 1) := by decide +kernel
theorem dX8_go_161 : decode cX8_go 161 = .ok (.invokestatic 30, 3) := by decide +kernel
theorem dX8_go_164 : decode cX8_go 164 = .ok (.istore_n 2, 1) := by decide +kernel
theorem dX8_go_165 : decode cX8_go 165 = .ok (.iconst 1, 1) := by decide +kernel
theorem dX8_go_166 : decode cX8_go 166 = .ok (.istore_n 3, 1) := by decide +kernel
theorem dX8_go_167 : decode cX8_go 167 = .ok (.aload_n 0, 1) := by decide +kernel
theorem dX8_go_168 : decode cX8_go 168 = .ok (.lconst 0, 1) := by decide +kernel
theorem dX8_go_169 : decode cX8_go 169 = .ok (.putfield 37, 3) := by decide +kernel
theorem dX8_go_172 : decode cX8_go 172 = .ok (.aload_n 0, 1) := by decide +kernel
theorem dX8_go_173 : decode cX8_go 173 = .ok (.iconst 0, 1) := by decide +kernel
theorem dX8_go_174 : decode cX8_go 174 = .ok (.putfield 41, 3) := by decide +kernel
theorem dX8_go_177 : decode cX8_go 177 = .ok (.aload_n 0, 1) := by decide +kernel
theorem dX8_go_178 : decode cX8_go 178 = .ok (.aload_n 0, 1) := by decide +kernel
theorem dX8_go_179 : decode cX8_go 179 = .ok (.getfield 21, 3) := by decide +kernel
theorem dX8_go_182 : decode cX8_go 182 = .ok (.invokevirtual 44, 3) := by decide +kernel
theorem dX8_go_185 : decode cX8_go 185 = .ok (.invokestatic 30, 3) := by decide +kernel
theorem dX8_go_188 : decode cX8_go 188 = .ok (.ifCond .ne 17, 3) := by decide +kernel
theorem dX8_go_191 : decode cX8_go 191 = .ok (.aload_n 0, 1) := by decide +kernel
theorem dX8_go_192 : decode cX8_go 192 = .ok (.aload_n 0, 1) := by decide +kernel
theorem dX8_go_193 : decode cX8_go 193 = .ok (.getfield 21, 3) := by decide +kernel
theorem dX8_go_196 : decode cX8_go 196 = .ok (.invokevirtual 44, 3) := by decide +kernel
theorem dX8_go_199 : decode cX8_go 199 = .ok (.invokestatic 34, 3) := by decide +kernel
theorem dX8_go_202 : decode cX8_go 202 = .ok (.ifCond .eq 110, 3) := by decide +kernel
theorem dX8_go_205 : decode cX8_go 205 = .ok (.aload_n 0, 1) := by decide +kernel
theorem dX8_go_206 : decode cX8_go 206 = .ok (.getfield 7, 3) := by decide +kernel
theorem dX8_go_209 : decode cX8_go 209 = .ok (.aload_n 0, 1) := by decide +kernel
theorem dX8_go_210 : decode cX8_go 210 = .ok (.getfield 21, 3) := by decide +kernel
theorem dX8_go_213 : decode cX8_go 213 = .ok (.iaload, 1) := by decide +kernel
theorem dX8_go_214 : decode cX8_go 214 = .ok (.istore 4, 2) := by decide +kernel
theorem dX8_go_216 : decode cX8_go 216 = .ok (.iload_n 3, 1) := by decide +kernel
theorem dX8_go_217 : decode cX8_go 217 = .ok (.ifCond .eq 16, 3) := by decide +kernel
theorem dX8_go_220 : decode cX8_go 220 = .ok (.iload 4, 2) := by decide +kernel
theorem dX8_go_222 : decode cX8_go 222 = .ok (.invokestatic 30, 3) := by decide +kernel
theorem dX8_go_225 : decode cX8_go 225 = .ok (.iload_n 2, 1) := by decide +kernel
theorem dX8_go_226 : decode cX8_go 226 = .ok (.if_icmp .ne 7, 3) := by decide +kernel
theorem dX8_go_229 : decode cX8_go 229 = .ok (.iconst 1, 1) := by decide +kernel
theorem dX8_go_230 : decode cX8_go 230 = .ok (.goto 4, 3) := by decide +kernel
theorem dX8_go_233 : decode cX8_go 233 = .ok (.iconst 0, 1) := by decide +kernel
theorem dX8_go_234 : decode cX8_go 234 = .ok (.istore_n 3, 1) := by decide +kernel
theorem dX8_go_235 : decode cX8_go 235 = .ok (.aload_n 0, 1) := by decide +kernel
theorem dX8_go_236 : decode cX8_go 236 = .ok (.getfield 21, 3) := by decide +kernel
theorem dX8_go_239 : decode cX8_go 239 = .ok (.aload_n 0, 1) := by decide +kernel
theorem dX8_go_240 : decode cX8_go 240 = .ok (.getfield 24, 3) := by decide +kernel
theorem dX8_go_243 : decode cX8_go 243 = .ok (.isub, 1) := by decide +kernel
theorem dX8_go_244 : decode cX8_go 244 = .ok (.bipush 7, 2) := by decide +kernel
theorem dX8_go_246 : decode cX8_go 246 = .ok (.if_icmp .ge 23, 3) := by decide +kernel
theorem dX8_go_249 : decode cX8_go 249 = .ok (.aload_n 0, 1) := by decide +kernel
theorem dX8_go_250 : decode cX8_go 250 = .ok (.ldc2_w 48, 3) := by decide +kernel
theorem dX8_go_253 : decode cX8_go 253 = .ok (.aload_n 0, 1) := by decide +kernel
theorem dX8_go_254 : decode cX8_go 254 = .ok (.getfield 37, 3) := by decide +kernel
theorem dX8_go_257 : decode cX8_go 257 = .ok (.lmul, 1) := by decide +kernel
theorem dX8_go_258 : decode cX8_go 258 = .ok (.iload 4, 2) := by decide +kernel
theorem dX8_go_260 : decode cX8_go 260 = .ok (.i2l, 1) := by decide +kernel
theorem dX8_go_261 : decode cX8_go 261 = .ok (.ladd, 1) := by decide +kernel
theorem dX8_go_262 : decode cX8_go 262 = .ok (.ldc2_w 50, 3) := by decide +kernel
theorem dX8_go_265 : decode cX8_go 265 = .ok (.lsub, 1) := by decide +kernel
theorem dX8_go_266 : decode cX8_go 266 = .ok (.putfield 37, 3) := by decide +kernel
theorem dX8_go_269 : decode cX8_go 269 = .ok (.aload_n 0, 1) := by decide +kernel
theorem dX8_go_270 : decode cX8_go 270 = .ok (.getfield 21, 3) := by decide +kernel
theorem dX8_go_273 : decode cX8_go 273 = .ok (.aload_n 0, 1) := by decide +kernel
theorem dX8_go_274 : decode cX8_go 274 = .ok (.getfield 24, 3) := by decide +kernel
theorem dX8_go_277 : decode cX8_go 277 = .ok (.isub, 1) := by decide +kernel
theorem dX8_go_278 : decode cX8_go 278 = .ok (.iconst 4, 1) := by decide +kernel
theorem dX8_go_279 : decode cX8_go 279 = .ok (.if_icmp .ge 20, 3) := by decide +kernel
theorem dX8_go_282 : decode cX8_go 282 = .ok (.aload_n 0, 1) := by decide +kernel
theorem dX8_go_283 : decode cX8_go 283 = .ok (.bipush 10, 2) := by decide +kernel
theorem dX8_go_285 : decode cX8_go 285 = .ok (.aload_n 0, 1) := by decide +kernel
theorem dX8_go_286 : decode cX8_go 286 = .ok (.getfield 41, 3) := by decide +kernel
theorem dX8_go_289 : decode cX8_go 289 = .ok (.imul, 1) := by decide +kernel
theorem dX8_go_290 : decode cX8_go 290 = .ok (.iload 4, 2) := by decide +kernel
theorem dX8_go_292 : decode cX8_go 292 = .ok (.iadd, 1) := by decide +kernel
theorem dX8_go_293 : decode cX8_go 293 = .ok (.bipush 48, 2) := by decide +kernel
theorem dX8_go_295 : decode cX8_go 295 = .ok (.isub, 1) := by decide +kernel
theorem dX8_go_296 : decode cX8_go 296 = .ok (.putfield 41, 3) := by decide +kernel
theorem dX8_go_299 : decode cX8_go 299 = .ok (.aload_n 0, 1) := by decide +kernel
theorem dX8_go_300 : decode cX8_go 300 = .ok (.dup, 1) := by decide +kernel
theorem dX8_go_301 : decode cX8_go 301 = .ok (.getfield 21, 3) := by decide +kernel
theorem dX8_go_304 : decode cX8_go 304 = .ok (.iconst 1, 1) := by decide +kernel
theorem dX8_go_305 : decode cX8_go 305 = .ok (.iadd, 1) := by decide +kernel
theorem dX8_go_306 : decode cX8_go 306 = .ok (.putfield 21, 3) := by decide +kernel
theorem dX8_go_309 : decode cX8_go 309 = .ok (.goto (-132), 3) := by decide +kernel
theorem dX8_go_312 : decode cX8_go 312 = .ok (.aload_n 0, 1) := by decide +kernel
theorem dX8_go_313 : decode cX8_go 313 = .ok (.iload_n 3, 1) := by decide +kernel
theorem dX8_go_314 : decode cX8_go 314 = .ok (.ifCond .eq 20, 3) := by decide +kernel
theorem dX8_go_317 : decode cX8_go 317 = .ok (.iload_n 2, 1) := by decide +kernel
theorem dX8_go_318 : decode cX8_go 318 = .ok (.ifCond .ne 20, 3) := by decide +kernel
theorem dX8_go_321 : decode cX8_go 321 = .ok (.aload_n 0, 1) := by decide +kernel
theorem dX8_go_322 : decode cX8_go 322 = .ok (.getfield 21, 3) := by decide +kernel
theorem dX8_go_325 : decode cX8_go 325 = .ok (.aload_n 0, 1) := by decide +kernel
theorem dX8_go_326 : decode cX8_go 326 = .ok (.getfield 24, 3) := by decide +kernel
theorem dX8_go_329 : decode cX8_go 329 = .ok (.isub, 1) := by decide +kernel
theorem dX8_go_330 : decode cX8_go 330 = .ok (.iconst 4, 1) := by decide +kernel
theorem dX8_go_331 : decode cX8_go 331 = .ok (.if_icmp .le 7, 3) := by decide +kernel
theorem dX8_go_334 : decode cX8_go 334 = .ok (.iconst 1, 1) := by decide +kernel
theorem dX8_go_335 : decode cX8_go 335 = .ok (.goto 12, 3) := by decide +kernel
theorem dX8_go_338 : decode cX8_go 338 = .ok (.iload_n 2, 1) := by decide +kernel
theorem dX8_go_339 : decode cX8_go 339 = .ok (.ifCond .eq 7, 3) := by decide +kernel
theorem dX8_go_342 : decode cX8_go 342 = .ok (.iconst 2, 1) := by decide +kernel
theorem dX8_go_343 : decode cX8_go 343 = .ok (.goto 4, 3) := by decide +kernel
theorem dX8_go_346 : decode cX8_go 346 = .ok (.iconst 3, 1) := by decide +kernel
theorem dX8_go_347 : decode cX8_go 347 = .ok (.putfield 27, 3) := by decide +kernel
theorem dX8_go_350 : decode cX8_go 350 = .ok (.return_, 1) := by decide +kernel
theorem dX8_is_0 : decode cX8_is 0 = .ok (.ldc2_w 48, 3) := by decide +kernel
theorem dX8_is_3 : decode cX8_is 3 = .ok (.ldc2_w 48, 3) := by decide +kernel
theorem dX8_is_6 : decode cX8_is 6 = .ok (.iload_n 1, 1) := by decide +kernel
theorem dX8_is_7 : decode cX8_is 7 = .ok (.i2l, 1) := by decide +kernel
theorem dX8_is_8 : decode cX8_is 8 = .ok (.ldc2_w 50, 3) := by decide +kernel
theorem dX8_is_11 : decode cX8_is 11 = .ok (.lsub, 1) := by decide +kernel
theorem dX8_is_12 : decode cX8_is 12 = .ok (.lmul, 1) := by decide +kernel
theorem dX8_is_13 : decode cX8_is 13 = .ok (.iload_n 2, 1) := by decide +kernel
theorem dX8_is_14 : decode cX8_is 14 = .ok (.i2l, 1) := by decide +kernel
theorem dX8_is_15 : decode cX8_is 15 = .ok (.ladd, 1) := by decide +kernel
theorem dX8_is_16 : decode cX8_is 16 = .ok (.ldc2_w 50, 3) := by decide +kernel
theorem dX8_is_19 : decode cX8_is 19 = .ok (.lsub, 1) := by decide +kernel
theorem dX8_is_20 : decode cX8_is 20 = .ok (.lmul, 1) := by decide +kernel
theorem dX8_is_21 : decode cX8_is 21 = .ok (.iload_n 3, 1) := by decide +kernel
theorem dX8_is_22 : decode cX8_is 22 = .ok (.i2l, 1) := by decide +kernel
theorem dX8_is_23 : decode cX8_is 23 = .ok (.ladd, 1) := by decide +kernel
theorem dX8_is_24 : decode cX8_is 24 = .ok (.ldc2_w 50, 3) := by decide +kernel
theorem dX8_is_27 : decode cX8_is 27 = .ok (.lsub, 1) := by decide +kernel
theorem dX8_is_28 : decode cX8_is 28 = .ok (.lstore 7, 2) := by decide +kernel
theorem dX8_is_30 : decode cX8_is 30 = .ok (.iload 4, 2) := by decide +kernel
theorem dX8_is_32 : decode cX8_is 32 = .ok (.ifCond .le 19, 3) := by decide +kernel
theorem dX8_is_35 : decode cX8_is 35 = .ok (.ldc2_w 48, 3) := by decide +kernel
theorem dX8_is_38 : decode cX8_is 38 = .ok (.lload 7, 2) := by decide +kernel
theorem dX8_is_40 : decode cX8_is 40 = .ok (.lmul, 1) := by decide +kernel
theorem dX8_is_41 : decode cX8_is 41 = .ok (.iload 4, 2) := by decide +kernel
theorem dX8_is_43 : decode cX8_is 43 = .ok (.i2l, 1) := by decide +kernel
theorem dX8_is_44 : decode cX8_is 44 = .ok (.ladd, 1) := by decide +kernel
theorem dX8_is_45 : decode cX8_is 45 = .ok (.ldc2_w 50, 3) := by decide +kernel
theorem dX8_is_48 : decode cX8_is 48 = .ok (.lsub, 1) := by decide +kernel
theorem dX8_is_49 : decode cX8_is 49 = .ok (.lstore 7, 2) := by decide +kernel
theorem dX8_is_51 : decode cX8_is 51 = .ok (.iload 5, 2) := by decide +kernel
theorem dX8_is_53 : decode cX8_is 53 = .ok (.ifCond .le 19, 3) := by decide +kernel
theorem dX8_is_56 : decode cX8_is 56 = .ok (.ldc2_w 48, 3) := by decide +kernel
theorem dX8_is_59 : decode cX8_is 59 = .ok (.lload 7, 2) := by decide +kernel
theorem dX8_is_61 : decode cX8_is 61 = .ok (.lmul, 1) := by decide +kernel
theorem dX8_is_62 : decode cX8_is 62 = .ok (.iload 5, 2) := by decide +kernel
theorem dX8_is_64 : decode cX8_is 64 = .ok (.i2l, 1) := by decide +kernel
theorem dX8_is_65 : decode cX8_is 65 = .ok (.ladd, 1) := by decide +kernel
theorem dX8_is_66 : decode cX8_is 66 = .ok (.ldc2_w 50, 3) := by decide +kernel
theorem dX8_is_69 : decode cX8_is 69 = .ok (.lsub, 1) := by decide +kernel
theorem dX8_is_70 : decode cX8_is 70 = .ok (.lstore 7, 2) := by decide +kernel
theorem dX8_is_72 : decode cX8_is 72 = .ok (.iload 6, 2) := by decide +kernel
theorem dX8_is_74 : decode cX8_is 74 = .ok (.ifCond .le 19, 3) := by decide +kernel
theorem dX8_is_77 : decode cX8_is 77 = .ok (.ldc2_w 48, 3) := by decide +kernel
theorem dX8_is_80 : decode cX8_is 80 = .ok (.lload 7, 2) := by decide +kernel
theorem dX8_is_82 : decode cX8_is 82 = .ok (.lmul, 1) := by decide +kernel
theorem dX8_is_83 : decode cX8_is 83 = .ok (.iload 6, 2) := by decide +kernel
theorem dX8_is_85 : decode cX8_is 85 = .ok (.i2l, 1) := by decide +kernel
theorem dX8_is_86 : decode cX8_is 86 = .ok (.ladd, 1) := by decide +kernel
theorem dX8_is_87 : decode cX8_is 87 = .ok (.ldc2_w 50, 3) := by decide +kernel
theorem dX8_is_90 : decode cX8_is 90 = .ok (.lsub, 1) := by decide +kernel
theorem dX8_is_91 : decode cX8_is 91 = .ok (.lstore 7, 2) := by decide +kernel
theorem dX8_is_93 : decode cX8_is 93 = .ok (.aload_n 0, 1) := by decide +kernel
theorem dX8_is_94 : decode cX8_is 94 = .ok (.getfield 27, 3) := by decide +kernel
theorem dX8_is_97 : decode cX8_is 97 = .ok (.iconst 2, 1) := by decide +kernel
theorem dX8_is_98 : decode cX8_is 98 = .ok (.if_icmp .ne 17, 3) := by decide +kernel
theorem dX8_is_101 : decode cX8_is 101 = .ok (.aload_n 0, 1) := by decide +kernel
theorem dX8_is_102 : decode cX8_is 102 = .ok (.getfield 37, 3) := by decide +kernel
theorem dX8_is_105 : decode cX8_is 105 = .ok (.lload 7, 2) := by decide +kernel
theorem dX8_is_107 : decode cX8_is 107 = .ok (.lcmp, 1) := by decide +kernel
theorem dX8_is_108 : decode cX8_is 108 = .ok (.ifCond .ne 7, 3) := by decide +kernel
theorem dX8_is_111 : decode cX8_is 111 = .ok (.iconst 1, 1) := by decide +kernel
theorem dX8_is_112 : decode cX8_is 112 = .ok (.goto 4, 3) := by decide +kernel
theorem dX8_is_115 : decode cX8_is 115 = .ok (.iconst 0, 1) := by decide +kernel
theorem dX8_is_116 : decode cX8_is 116 = .ok (.ireturn, 1) := by decide +kernel
theorem dX8_bad_0 : decode cX8_bad 0 = .ok (.aload_n 0, 1) := by decide +kernel
theorem dX8_bad_1 : decode cX8_bad 1 = .ok (.aload_n 0, 1) := by decide +kernel
theorem dX8_bad_2 : decode cX8_bad 2 = .ok (.getfield 27, 3) := by decide +kernel
theorem dX8_bad_5 : decode cX8_bad 5 = .ok (.iconst 1, 1) := by decide +kernel
theorem dX8_bad_6 : decode cX8_bad 6 = .ok (.if_icmp .ne 7, 3) := by decide +kernel
theorem dX8_bad_9 : decode cX8_bad 9 = .ok (.iconst 1, 1) := by decide +kernel
theorem dX8_bad_10 : decode cX8_bad 10 = .ok (.goto 4, 3) := by decide +kernel
theorem dX8_bad_13 : decode cX8_bad 13 = .ok (.iload_n 1, 1) := by decide +kernel
theorem dX8_bad_14 : decode cX8_bad 14 = .ok (.putfield 52, 3) := by decide +kernel
theorem dX8_bad_17 : decode cX8_bad 17 = .ok (.aload_n 0, 1) := by decide +kernel
theorem dX8_bad_18 : decode cX8_bad 18 = .ok (.aload_n 0, 1) := by decide +kernel
theorem dX8_bad_19 : decode cX8_bad 19 = .ok (.getfield 24, 3) := by decide +kernel
theorem dX8_bad_22 : decode cX8_bad 22 = .ok (.putfield 55, 3) := by decide +kernel
theorem dX8_bad_25 : decode cX8_bad 25 = .ok (.iconst 0, 1) := by decide +kernel
theorem dX8_bad_26 : decode cX8_bad 26 = .ok (.ireturn, 1) := by decide +kernel
theorem dX8_init_0 : decode cX8_init 0 = .ok (.aload_n 0, 1) := by decide +kernel
theorem dX8_init_1 : decode cX8_init 1 = .ok (.invokespecial 58, 3) := by decide +kernel
theorem dX8_init_4 : decode cX8_init 4 = .ok (.aload_n 0, 1) := by decide +kernel
theorem dX8_init_5 : decode cX8_init 5 = .ok (.sipush 540, 3) := by decide +kernel
theorem dX8_init_8 : decode cX8_init 8 = .ok (.newarray .int, 2) := by decide +kernel
theorem dX8_init_10 : decode cX8_init 10 = .ok (.putfield 7, 3) := by decide +kernel
theorem dX8_init_13 : decode cX8_init 13 = .ok (.aload_n 0, 1) := by decide +kernel
theorem dX8_init_14 : decode cX8_init 14 = .ok (.bipush 89, 2) := by decide +kernel
theorem dX8_init_16 : decode cX8_init 16 = .ok (.newarray .int, 2) := by decide +kernel
theorem dX8_init_18 : decode cX8_init 18 = .ok (.putfield 64, 3) := by decide +kernel
theorem dX8_init_21 : decode cX8_init 21 = .ok (.aload_n 0, 1) := by decide +kernel
theorem dX8_init_22 : decode cX8_init 22 = .ok (.bipush 89, 2) := by decide +kernel
theorem dX8_init_24 : decode cX8_init 24 = .ok (.newarray .int, 2) := by decide +kernel
theorem dX8_init_26 : decode cX8_init 26 = .ok (.putfield 67, 3) := by decide +kernel
theorem dX8_init_29 : decode cX8_init 29 = .ok (.aload_n 0, 1) := by decide +kernel
theorem dX8_init_30 : decode cX8_init 30 = .ok (.bipush 89, 2) := by decide +kernel
theorem dX8_init_32 : decode cX8_init 32 = .ok (.newarray .int, 2) := by decide +kernel
theorem dX8_init_34 : decode cX8_init 34 = .ok (.putfield 70, 3) := by decide +kernel
theorem dX8_init_37 : decode cX8_init 37 = .ok (.aload_n 0, 1) := by decide +kernel
theorem dX8_init_38 : decode cX8_init 38 = .ok (.sipush 890, 3) := by decide +kernel
theorem dX8_init_41 : decode cX8_init 41 = .ok (.newarray .int, 2) := by decide +kernel
theorem dX8_init_43 : decode cX8_init 43 = .ok (.putfield 73, 3) := by decide +kernel
theorem dX8_init_46 : decode cX8_init 46 = .ok (.aload_n 0, 1) := by decide +kernel
theorem dX8_init_47 : decode cX8_init 47 = .ok (.bipush 89, 2) := by decide +kernel
theorem dX8_init_49 : decode cX8_init 49 = .ok (.newarray .int, 2) := by decide +kernel
theorem dX8_init_51 : decode cX8_init 51 = .ok (.putfield 76, 3) := by decide +kernel
theorem dX8_init_54 : decode cX8_init 54 = .ok (.aload_n 0, 1) := by decide +kernel
theorem dX8_init_55 : decode cX8_init 55 = .ok (.bipush 89, 2) := by decide +kernel
theorem dX8_init_57 : decode cX8_init 57 = .ok (.newarray .int, 2) := by decide +kernel
theorem dX8_init_59 : decode cX8_init 59 = .ok (.putfield 79, 3) := by decide +kernel
theorem dX8_init_62 : decode cX8_init 62 = .ok (.aload_n 0, 1) := by decide +kernel
theorem dX8_init_63 : decode cX8_init 63 = .ok (.bipush 84, 2) := by decide +kernel
theorem dX8_init_65 : decode cX8_init 65 = .ok (.newarray .int, 2) := by decide +kernel
theorem dX8_init_67 : decode cX8_init 67 = .ok (.putfield 82, 3) := by decide +kernel
theorem dX8_init_70 : decode cX8_init 70 = .ok (.aload_n 0, 1) := by decide +kernel
theorem dX8_init_71 : decode cX8_init 71 = .ok (.bipush 84, 2) := by decide +kernel
theorem dX8_init_73 : decode cX8_init 73 = .ok (.newarray .int, 2) := by decide +kernel
theorem dX8_init_75 : decode cX8_init 75 = .ok (.putfield 85, 3) := by decide +kernel
theorem dX8_init_78 : decode cX8_init 78 = .ok (.return_, 1) := by decide +kernel
theorem dX8_copy_0 : decode cX8_copy 0 = .ok (.iconst 0, 1) := by decide +kernel
theorem dX8_copy_1 : decode cX8_copy 1 = .ok (.istore 4, 2) := by decide +kernel
theorem dX8_copy_3 : decode cX8_copy 3 = .ok (.iload 4, 2) := by decide +kernel
theorem dX8_copy_5 : decode cX8_copy 5 = .ok (.bipush 89, 2) := by decide +kernel
theorem dX8_copy_7 : decode cX8_copy 7 = .ok (.if_icmp .ge 21, 3) := by decide +kernel
theorem dX8_copy_10 : decode cX8_copy 10 = .ok (.aload_n 2, 1) := by decide +kernel
theorem dX8_copy_11 : decode cX8_copy 11 = .ok (.iload_n 3, 1) := by decide +kernel
theorem dX8_copy_12 : decode cX8_copy 12 = .ok (.iload 4, 2) := by decide +kernel
theorem dX8_copy_14 : decode cX8_copy 14 = .ok (.iadd, 1) := by decide +kernel
theorem dX8_copy_15 : decode cX8_copy 15 = .ok (.aload_n 0, 1) := by decide +kernel
theorem dX8_copy_16 : decode cX8_copy 16 = .ok (.iload_n 1, 1) := by decide +kernel
theorem dX8_copy_17 : decode cX8_copy 17 = .ok (.iload 4, 2) := by decide +kernel
theorem dX8_copy_19 : decode cX8_copy 19 = .ok (.iadd, 1) := by decide +kernel
theorem dX8_copy_20 : decode cX8_copy 20 = .ok (.iaload, 1) := by decide +kernel
theorem dX8_copy_21 : decode cX8_copy 21 = .ok (.iastore, 1) := by decide +kernel
theorem dX8_copy_22 : decode cX8_copy 22 = .ok (.iinc 4 1, 3) := by decide +kernel
theorem dX8_copy_25 : decode cX8_copy 25 = .ok (.goto (-22), 3) := by decide +kernel
theorem dX8_copy_28 : decode cX8_copy 28 = .ok (.return_, 1) := by decide +kernel
theorem dX8_told_0 : decode cX8_told 0 = .ok (.aload_n 0, 1) := by decide +kernel
theorem dX8_told_1 : decode cX8_told 1 = .ok (.getfield 27, 3) := by decide +kernel
theorem dX8_told_4 : decode cX8_told 4 = .ok (.iconst 3, 1) := by decide +kernel
theorem dX8_told_5 : decode cX8_told 5 = .ok (.if_icmp .eq 9, 3) := by decide +kernel
theorem dX8_told_8 : decode cX8_told 8 = .ok (.aload_n 0, 1) := by decide +kernel
theorem dX8_told_9 : decode cX8_told 9 = .ok (.iconst 1, 1) := by decide +kernel
theorem dX8_told_10 : decode cX8_told 10 = .ok (.invokevirtual 88, 3) := by decide +kernel
theorem dX8_told_13 : decode cX8_told 13 = .ok (.ireturn, 1) := by decide +kernel
theorem dX8_told_14 : decode cX8_told 14 = .ok (.aload_n 0, 1) := by decide +kernel
theorem dX8_told_15 : decode cX8_told 15 = .ok (.getfield 41, 3) := by decide +kernel
theorem dX8_told_18 : decode cX8_told 18 = .ok (.iload_n 2, 1) := by decide +kernel
theorem dX8_told_19 : decode cX8_told 19 = .ok (.iload_n 3, 1) := by decide +kernel
theorem dX8_told_20 : decode cX8_told 20 = .ok (.invokestatic 91, 3) := by decide +kernel
theorem dX8_told_23 : decode cX8_told 23 = .ok (.ifCond .ne 9, 3) := by decide +kernel
theorem dX8_told_26 : decode cX8_told 26 = .ok (.aload_n 0, 1) := by decide +kernel
theorem dX8_told_27 : decode cX8_told 27 = .ok (.iconst 2, 1) := by decide +kernel
theorem dX8_told_28 : decode cX8_told 28 = .ok (.invokevirtual 88, 3) := by decide +kernel
theorem dX8_told_31 : decode cX8_told 31 = .ok (.ireturn, 1) := by decide +kernel
theorem dX8_told_32 : decode cX8_told 32 = .ok (.aload_n 0, 1) := by decide +kernel
theorem dX8_told_33 : decode cX8_told 33 = .ok (.getfield 67, 3) := by decide +kernel
theorem dX8_told_36 : decode cX8_told 36 = .ok (.iload_n 1, 1) := by decide +kernel
theorem dX8_told_37 : decode cX8_told 37 = .ok (.aload_n 0, 1) := by decide +kernel
theorem dX8_told_38 : decode cX8_told 38 = .ok (.getfield 41, 3) := by decide +kernel
theorem dX8_told_41 : decode cX8_told 41 = .ok (.iastore, 1) := by decide +kernel
theorem dX8_told_42 : decode cX8_told 42 = .ok (.aload_n 0, 1) := by decide +kernel
theorem dX8_told_43 : decode cX8_told 43 = .ok (.invokevirtual 95, 3) := by decide +kernel
theorem dX8_told_46 : decode cX8_told 46 = .ok (.iconst 1, 1) := by decide +kernel
theorem dX8_told_47 : decode cX8_told 47 = .ok (.ireturn, 1) := by decide +kernel
theorem dX8_readCourt_0 : decode cX8_readCourt 0 = .ok (.aload_n 0, 1) := by decide +kernel
theorem dX8_readCourt_1 : decode cX8_readCourt 1 = .ok (.invokevirtual 95, 3) := by decide +kernel
theorem dX8_readCourt_4 : decode cX8_readCourt 4 = .ok (.aload_n 0, 1) := by decide +kernel
theorem dX8_readCourt_5 : decode cX8_readCourt 5 = .ok (.iconst 4, 1) := by decide +kernel
theorem dX8_readCourt_6 : decode cX8_readCourt 6 = .ok (.iconst 0, 1) := by decide +kernel
theorem dX8_readCourt_7 : decode cX8_readCourt 7 = .ok (.sipush 9999, 3) := by decide +kernel
theorem dX8_readCourt_10 : decode cX8_readCourt 10 = .ok (.invokevirtual 98, 3) := by decide +kernel
theorem dX8_readCourt_13 : decode cX8_readCourt 13 = .ok (.ifCond .ne 5, 3) := by decide +kernel
theorem dX8_readCourt_16 : decode cX8_readCourt 16 = .ok (.iconst 0, 1) := by decide +kernel
theorem dX8_readCourt_17 : decode cX8_readCourt 17 = .ok (.ireturn, 1) := by decide +kernel
theorem dX8_readCourt_18 : decode cX8_readCourt 18 = .ok (.aload_n 0, 1) := by decide +kernel
theorem dX8_readCourt_19 : decode cX8_readCourt 19 = .ok (.iconst 0, 1) := by decide +kernel
theorem dX8_readCourt_20 : decode cX8_readCourt 20 = .ok (.iconst 1, 1) := by decide +kernel
theorem dX8_readCourt_21 : decode cX8_readCourt 21 = .ok (.bipush 20, 2) := by decide +kernel
theorem dX8_readCourt_23 : decode cX8_readCourt 23 = .ok (.invokevirtual 98, 3) := by decide +kernel
theorem dX8_readCourt_26 : decode cX8_readCourt 26 = .ok (.ifCond .eq 36, 3) := by decide +kernel
theorem dX8_readCourt_29 : decode cX8_readCourt 29 = .ok (.aload_n 0, 1) := by decide +kernel
theorem dX8_readCourt_30 : decode cX8_readCourt 30 = .ok (.iconst 1, 1) := by decide +kernel
theorem dX8_readCourt_31 : decode cX8_readCourt 31 = .ok (.iconst 0, 1) := by decide +kernel
theorem dX8_readCourt_32 : decode cX8_readCourt 32 = .ok (.bipush 9, 2) := by decide +kernel
theorem dX8_readCourt_34 : decode cX8_readCourt 34 = .ok (.invokevirtual 98, 3) := by decide +kernel
theorem dX8_readCourt_37 : decode cX8_readCourt 37 = .ok (.ifCond .eq 25, 3) := by decide +kernel
theorem dX8_readCourt_40 : decode cX8_readCourt 40 = .ok (.aload_n 0, 1) := by decide +kernel
theorem dX8_readCourt_41 : decode cX8_readCourt 41 = .ok (.iconst 2, 1) := by decide +kernel
theorem dX8_readCourt_42 : decode cX8_readCourt 42 = .ok (.iconst 0, 1) := by decide +kernel
theorem dX8_readCourt_43 : decode cX8_readCourt 43 = .ok (.bipush 9, 2) := by decide +kernel
theorem dX8_readCourt_45 : decode cX8_readCourt 45 = .ok (.invokevirtual 98, 3) := by decide +kernel
theorem dX8_readCourt_48 : decode cX8_readCourt 48 = .ok (.ifCond .eq 14, 3) := by decide +kernel
theorem dX8_readCourt_51 : decode cX8_readCourt 51 = .ok (.aload_n 0, 1) := by decide +kernel
theorem dX8_readCourt_52 : decode cX8_readCourt 52 = .ok (.iconst 3, 1) := by decide +kernel
theorem dX8_readCourt_53 : decode cX8_readCourt 53 = .ok (.iconst 0, 1) := by decide +kernel
theorem dX8_readCourt_54 : decode cX8_readCourt 54 = .ok (.bipush 9, 2) := by decide +kernel
theorem dX8_readCourt_56 : decode cX8_readCourt 56 = .ok (.invokevirtual 98, 3) := by decide +kernel
theorem dX8_readCourt_59 : decode cX8_readCourt 59 = .ok (.ifCond .ne 5, 3) := by decide +kernel
theorem dX8_readCourt_62 : decode cX8_readCourt 62 = .ok (.iconst 0, 1) := by decide +kernel
theorem dX8_readCourt_63 : decode cX8_readCourt 63 = .ok (.ireturn, 1) := by decide +kernel
theorem dX8_readCourt_64 : decode cX8_readCourt 64 = .ok (.aload_n 0, 1) := by decide +kernel
theorem dX8_readCourt_65 : decode cX8_readCourt 65 = .ok (.getfield 67, 3) := by decide +kernel
theorem dX8_readCourt_68 : decode cX8_readCourt 68 = .ok (.iconst 5, 1) := by decide +kernel
theorem dX8_readCourt_69 : decode cX8_readCourt 69 = .ok (.aload_n 0, 1) := by decide +kernel
theorem dX8_readCourt_70 : decode cX8_readCourt 70 = .ok (.getfield 67, 3) := by decide +kernel
theorem dX8_readCourt_73 : decode cX8_readCourt 73 = .ok (.iconst 4, 1) := by decide +kernel
theorem dX8_readCourt_74 : decode cX8_readCourt 74 = .ok (.iaload, 1) := by decide +kernel
theorem dX8_readCourt_75 : decode cX8_readCourt 75 = .ok (.iastore, 1) := by decide +kernel
theorem dX8_readCourt_76 : decode cX8_readCourt 76 = .ok (.iconst 1, 1) := by decide +kernel
theorem dX8_readCourt_77 : decode cX8_readCourt 77 = .ok (.ireturn, 1) := by decide +kernel
theorem dX8_readJudge_0 : decode cX8_readJudge 0 = .ok (.aload_n 0, 1) := by decide +kernel
theorem dX8_readJudge_1 : decode cX8_readJudge 1 = .ok (.getfield 67, 3) := by decide +kernel
theorem dX8_readJudge_4 : decode cX8_readJudge 4 = .ok (.bipush 7, 2) := by decide +kernel
theorem dX8_readJudge_6 : decode cX8_readJudge 6 = .ok (.iaload, 1) := by decide +kernel
theorem dX8_readJudge_7 : decode cX8_readJudge 7 = .ok (.bipush 9, 2) := by decide +kernel
theorem dX8_readJudge_9 : decode cX8_readJudge 9 = .ok (.if_icmp .ne 9, 3) := by decide +kernel
theorem dX8_readJudge_12 : decode cX8_readJudge 12 = .ok (.aload_n 0, 1) := by decide +kernel
theorem dX8_readJudge_13 : decode cX8_readJudge 13 = .ok (.iconst 3, 1) := by decide +kernel
theorem dX8_readJudge_14 : decode cX8_readJudge 14 = .ok (.invokevirtual 88, 3) := by decide +kernel
theorem dX8_readJudge_17 : decode cX8_readJudge 17 = .ok (.ireturn, 1) := by decide +kernel
theorem dX8_readJudge_18 : decode cX8_readJudge 18 = .ok (.aload_n 0, 1) := by decide +kernel
theorem dX8_readJudge_19 : decode cX8_readJudge 19 = .ok (.invokevirtual 95, 3) := by decide +kernel
theorem dX8_readJudge_22 : decode cX8_readJudge 22 = .ok (.aload_n 0, 1) := by decide +kernel
theorem dX8_readJudge_23 : decode cX8_readJudge 23 = .ok (.bipush 8, 2) := by decide +kernel
theorem dX8_readJudge_25 : decode cX8_readJudge 25 = .ok (.aload_n 0, 1) := by decide +kernel
theorem dX8_readJudge_26 : decode cX8_readJudge 26 = .ok (.getfield 67, 3) := by decide +kernel
theorem dX8_readJudge_29 : decode cX8_readJudge 29 = .ok (.bipush 7, 2) := by decide +kernel
theorem dX8_readJudge_31 : decode cX8_readJudge 31 = .ok (.iaload, 1) := by decide +kernel
theorem dX8_readJudge_32 : decode cX8_readJudge 32 = .ok (.iadd, 1) := by decide +kernel
theorem dX8_readJudge_33 : decode cX8_readJudge 33 = .ok (.iconst 1, 1) := by decide +kernel
theorem dX8_readJudge_34 : decode cX8_readJudge 34 = .ok (.bipush 99, 2) := by decide +kernel
theorem dX8_readJudge_36 : decode cX8_readJudge 36 = .ok (.invokevirtual 98, 3) := by decide +kernel
theorem dX8_readJudge_39 : decode cX8_readJudge 39 = .ok (.ifCond .ne 5, 3) := by decide +kernel
theorem dX8_readJudge_42 : decode cX8_readJudge 42 = .ok (.iconst 0, 1) := by decide +kernel
theorem dX8_readJudge_43 : decode cX8_readJudge 43 = .ok (.ireturn, 1) := by decide +kernel
theorem dX8_readJudge_44 : decode cX8_readJudge 44 = .ok (.aload_n 0, 1) := by decide +kernel
theorem dX8_readJudge_45 : decode cX8_readJudge 45 = .ok (.getfield 67, 3) := by decide +kernel
theorem dX8_readJudge_48 : decode cX8_readJudge 48 = .ok (.bipush 7, 2) := by decide +kernel
theorem dX8_readJudge_50 : decode cX8_readJudge 50 = .ok (.dup2, 1) := by decide +kernel
theorem dX8_readJudge_51 : decode cX8_readJudge 51 = .ok (.iaload, 1) := by decide +kernel
theorem dX8_readJudge_52 : decode cX8_readJudge 52 = .ok (.iconst 1, 1) := by decide +kernel
theorem dX8_readJudge_53 : decode cX8_readJudge 53 = .ok (.iadd, 1) := by decide +kernel
theorem dX8_readJudge_54 : decode cX8_readJudge 54 = .ok (.iastore, 1) := by decide +kernel
theorem dX8_readJudge_55 : decode cX8_readJudge 55 = .ok (.iconst 1, 1) := by decide +kernel
theorem dX8_readJudge_56 : decode cX8_readJudge 56 = .ok (.ireturn, 1) := by decide +kernel
theorem dX8_readCase_0 : decode cX8_readCase 0 = .ok (.aload_n 0, 1) := by decide +kernel
theorem dX8_readCase_1 : decode cX8_readCase 1 = .ok (.getfield 67, 3) := by decide +kernel
theorem dX8_readCase_4 : decode cX8_readCase 4 = .ok (.bipush 18, 2) := by decide +kernel
theorem dX8_readCase_6 : decode cX8_readCase 6 = .ok (.iaload, 1) := by decide +kernel
theorem dX8_readCase_7 : decode cX8_readCase 7 = .ok (.istore_n 1, 1) := by decide +kernel
theorem dX8_readCase_8 : decode cX8_readCase 8 = .ok (.iload_n 1, 1) := by decide +kernel
theorem dX8_readCase_9 : decode cX8_readCase 9 = .ok (.bipush 14, 2) := by decide +kernel
theorem dX8_readCase_11 : decode cX8_readCase 11 = .ok (.if_icmp .ne 9, 3) := by decide +kernel
theorem dX8_readCase_14 : decode cX8_readCase 14 = .ok (.aload_n 0, 1) := by decide +kernel
theorem dX8_readCase_15 : decode cX8_readCase 15 = .ok (.iconst 3, 1) := by decide +kernel
theorem dX8_readCase_16 : decode cX8_readCase 16 = .ok (.invokevirtual 88, 3) := by decide +kernel
theorem dX8_readCase_19 : decode cX8_readCase 19 = .ok (.ireturn, 1) := by decide +kernel
theorem dX8_readCase_20 : decode cX8_readCase 20 = .ok (.aload_n 0, 1) := by decide +kernel
theorem dX8_readCase_21 : decode cX8_readCase 21 = .ok (.invokevirtual 95, 3) := by decide +kernel
theorem dX8_readCase_24 : decode cX8_readCase 24 = .ok (.aload_n 0, 1) := by decide +kernel
theorem dX8_readCase_25 : decode cX8_readCase 25 = .ok (.bipush 19, 2) := by decide +kernel
theorem dX8_readCase_27 : decode cX8_readCase 27 = .ok (.iload_n 1, 1) := by decide +kernel
theorem dX8_readCase_28 : decode cX8_readCase 28 = .ok (.iadd, 1) := by decide +kernel
theorem dX8_readCase_29 : decode cX8_readCase 29 = .ok (.iconst 1, 1) := by decide +kernel
theorem dX8_readCase_30 : decode cX8_readCase 30 = .ok (.bipush 9, 2) := by decide +kernel
theorem dX8_readCase_32 : decode cX8_readCase 32 = .ok (.invokevirtual 98, 3) := by decide +kernel
theorem dX8_readCase_35 : decode cX8_readCase 35 = .ok (.ifCond .ne 5, 3) := by decide +kernel
theorem dX8_readCase_38 : decode cX8_readCase 38 = .ok (.iconst 0, 1) := by decide +kernel
theorem dX8_readCase_39 : decode cX8_readCase 39 = .ok (.ireturn, 1) := by decide +kernel
theorem dX8_readCase_40 : decode cX8_readCase 40 = .ok (.aload_n 0, 1) := by decide +kernel
theorem dX8_readCase_41 : decode cX8_readCase 41 = .ok (.bipush 110, 2) := by decide +kernel
theorem dX8_readCase_43 : decode cX8_readCase 43 = .ok (.bipush 111, 2) := by decide +kernel
theorem dX8_readCase_45 : decode cX8_readCase 45 = .ok (.bipush 116, 2) := by decide +kernel
theorem dX8_readCase_47 : decode cX8_readCase 47 = .ok (.iconst 0, 1) := by decide +kernel
theorem dX8_readCase_48 : decode cX8_readCase 48 = .ok (.iconst 0, 1) := by decide +kernel
theorem dX8_readCase_49 : decode cX8_readCase 49 = .ok (.iconst 0, 1) := by decide +kernel
theorem dX8_readCase_50 : decode cX8_readCase 50 = .ok (.invokevirtual 101, 3) := by decide +kernel
theorem dX8_readCase_53 : decode cX8_readCase 53 = .ok (.ifCond .eq 93, 3) := by decide +kernel
theorem dX8_readCase_56 : decode cX8_readCase 56 = .ok (.aload_n 0, 1) := by decide +kernel
theorem dX8_readCase_57 : decode cX8_readCase 57 = .ok (.invokevirtual 95, 3) := by decide +kernel
theorem dX8_readCase_60 : decode cX8_readCase 60 = .ok (.aload_n 0, 1) := by decide +kernel
theorem dX8_readCase_61 : decode cX8_readCase 61 = .ok (.getfield 27, 3) := by decide +kernel
theorem dX8_readCase_64 : decode cX8_readCase 64 = .ok (.iconst 3, 1) := by decide +kernel
theorem dX8_readCase_65 : decode cX8_readCase 65 = .ok (.if_icmp .eq 9, 3) := by decide +kernel
theorem dX8_readCase_68 : decode cX8_readCase 68 = .ok (.aload_n 0, 1) := by decide +kernel
theorem dX8_readCase_69 : decode cX8_readCase 69 = .ok (.iconst 1, 1) := by decide +kernel
theorem dX8_readCase_70 : decode cX8_readCase 70 = .ok (.invokevirtual 88, 3) := by decide +kernel
theorem dX8_readCase_73 : decode cX8_readCase 73 = .ok (.ireturn, 1) := by decide +kernel
theorem dX8_readCase_74 : decode cX8_readCase 74 = .ok (.aload_n 0, 1) := by decide +kernel
theorem dX8_readCase_75 : decode cX8_readCase 75 = .ok (.getfield 27, 3) := by decide +kernel
theorem dX8_readCase_78 : decode cX8_readCase 78 = .ok (.iconst 3, 1) := by decide +kernel
theorem dX8_readCase_79 : decode cX8_readCase 79 = .ok (.if_icmp .ne 67, 3) := by decide +kernel
theorem dX8_readCase_82 : decode cX8_readCase 82 = .ok (.aload_n 0, 1) := by decide +kernel
theorem dX8_readCase_83 : decode cX8_readCase 83 = .ok (.getfield 41, 3) := by decide +kernel
theorem dX8_readCase_86 : decode cX8_readCase 86 = .ok (.aload_n 0, 1) := by decide +kernel
theorem dX8_readCase_87 : decode cX8_readCase 87 = .ok (.getfield 67, 3) := by decide +kernel
theorem dX8_readCase_90 : decode cX8_readCase 90 = .ok (.bipush 7, 2) := by decide +kernel
theorem dX8_readCase_92 : decode cX8_readCase 92 = .ok (.iaload, 1) := by decide +kernel
theorem dX8_readCase_93 : decode cX8_readCase 93 = .ok (.if_icmp .ge 22, 3) := by decide +kernel
theorem dX8_readCase_96 : decode cX8_readCase 96 = .ok (.aload_n 0, 1) := by decide +kernel
theorem dX8_readCase_97 : decode cX8_readCase 97 = .ok (.getfield 67, 3) := by decide +kernel
theorem dX8_readCase_100 : decode cX8_readCase 100 = .ok (.bipush 33, 2) := by decide +kernel
theorem dX8_readCase_102 : decode cX8_readCase 102 = .ok (.iload_n 1, 1) := by decide +kernel
theorem dX8_readCase_103 : decode cX8_readCase 103 = .ok (.iadd, 1) := by decide +kernel
theorem dX8_readCase_104 : decode cX8_readCase 104 = .ok (.iaload, 1) := by decide +kernel
theorem dX8_readCase_105 : decode cX8_readCase 105 = .ok (.aload_n 0, 1) := by decide +kernel
theorem dX8_readCase_106 : decode cX8_readCase 106 = .ok (.getfield 41, 3) := by decide +kernel
theorem dX8_readCase_109 : decode cX8_readCase 109 = .ok (.invokestatic 105, 3) := by decide +kernel
theorem dX8_readCase_112 : decode cX8_readCase 112 = .ok (.ifCond .eq 9, 3) := by decide +kernel
theorem dX8_readCase_115 : decode cX8_readCase 115 = .ok (.aload_n 0, 1) := by decide +kernel
theorem dX8_readCase_116 : decode cX8_readCase 116 = .ok (.iconst 4, 1) := by decide +kernel
theorem dX8_readCase_117 : decode cX8_readCase 117 = .ok (.invokevirtual 88, 3) := by decide +kernel
theorem dX8_readCase_120 : decode cX8_readCase 120 = .ok (.ireturn, 1) := by decide +kernel
theorem dX8_readCase_121 : decode cX8_readCase 121 = .ok (.aload_n 0, 1) := by decide +kernel
theorem dX8_readCase_122 : decode cX8_readCase 122 = .ok (.getfield 67, 3) := by decide +kernel
theorem dX8_readCase_125 : decode cX8_readCase 125 = .ok (.bipush 33, 2) := by decide +kernel
theorem dX8_readCase_127 : decode cX8_readCase 127 = .ok (.iload_n 1, 1) := by decide +kernel
theorem dX8_readCase_128 : decode cX8_readCase 128 = .ok (.iadd, 1) := by decide +kernel
theorem dX8_readCase_129 : decode cX8_readCase 129 = .ok (.dup2, 1) := by decide +kernel
theorem dX8_readCase_130 : decode cX8_readCase 130 = .ok (.iaload, 1) := by decide +kernel
theorem dX8_readCase_131 : decode cX8_readCase 131 = .ok (.iconst 1, 1) := by decide +kernel
theorem dX8_readCase_132 : decode cX8_readCase 132 = .ok (.aload_n 0, 1) := by decide +kernel
theorem dX8_readCase_133 : decode cX8_readCase 133 = .ok (.getfield 41, 3) := by decide +kernel
theorem dX8_readCase_136 : decode cX8_readCase 136 = .ok (.ishl, 1) := by decide +kernel
theorem dX8_readCase_137 : decode cX8_readCase 137 = .ok (.ior, 1) := by decide +kernel
theorem dX8_readCase_138 : decode cX8_readCase 138 = .ok (.iastore, 1) := by decide +kernel
theorem dX8_readCase_139 : decode cX8_readCase 139 = .ok (.aload_n 0, 1) := by decide +kernel
theorem dX8_readCase_140 : decode cX8_readCase 140 = .ok (.invokevirtual 95, 3) := by decide +kernel
theorem dX8_readCase_143 : decode cX8_readCase 143 = .ok (.goto (-69), 3) := by decide +kernel
theorem dX8_readCase_146 : decode cX8_readCase 146 = .ok (.aload_n 0, 1) := by decide +kernel
theorem dX8_readCase_147 : decode cX8_readCase 147 = .ok (.getfield 67, 3) := by decide +kernel
theorem dX8_readCase_150 : decode cX8_readCase 150 = .ok (.bipush 47, 2) := by decide +kernel
theorem dX8_readCase_152 : decode cX8_readCase 152 = .ok (.iload_n 1, 1) := by decide +kernel
theorem dX8_readCase_153 : decode cX8_readCase 153 = .ok (.iadd, 1) := by decide +kernel
theorem dX8_readCase_154 : decode cX8_readCase 154 = .ok (.aload_n 0, 1) := by decide +kernel
theorem dX8_readCase_155 : decode cX8_readCase 155 = .ok (.getfield 67, 3) := by decide +kernel
theorem dX8_readCase_158 : decode cX8_readCase 158 = .ok (.bipush 33, 2) := by decide +kernel
theorem dX8_readCase_160 : decode cX8_readCase 160 = .ok (.iload_n 1, 1) := by decide +kernel
theorem dX8_readCase_161 : decode cX8_readCase 161 = .ok (.iadd, 1) := by decide +kernel
theorem dX8_readCase_162 : decode cX8_readCase 162 = .ok (.iaload, 1) := by decide +kernel
theorem dX8_readCase_163 : decode cX8_readCase 163 = .ok (.iastore, 1) := by decide +kernel
theorem dX8_readCase_164 : decode cX8_readCase 164 = .ok (.aload_n 0, 1) := by decide +kernel
theorem dX8_readCase_165 : decode cX8_readCase 165 = .ok (.getfield 67, 3) := by decide +kernel
theorem dX8_readCase_168 : decode cX8_readCase 168 = .ok (.bipush 18, 2) := by decide +kernel
theorem dX8_readCase_170 : decode cX8_readCase 170 = .ok (.dup2, 1) := by decide +kernel
theorem dX8_readCase_171 : decode cX8_readCase 171 = .ok (.iaload, 1) := by decide +kernel
theorem dX8_readCase_172 : decode cX8_readCase 172 = .ok (.iconst 1, 1) := by decide +kernel
theorem dX8_readCase_173 : decode cX8_readCase 173 = .ok (.iadd, 1) := by decide +kernel
theorem dX8_readCase_174 : decode cX8_readCase 174 = .ok (.iastore, 1) := by decide +kernel
theorem dX8_readCase_175 : decode cX8_readCase 175 = .ok (.iconst 1, 1) := by decide +kernel
theorem dX8_readCase_176 : decode cX8_readCase 176 = .ok (.ireturn, 1) := by decide +kernel
theorem dX8_readLine_0 : decode cX8_readLine 0 = .ok (.aload_n 0, 1) := by decide +kernel
theorem dX8_readLine_1 : decode cX8_readLine 1 = .ok (.getfield 67, 3) := by decide +kernel
theorem dX8_readLine_4 : decode cX8_readLine 4 = .ok (.iconst 0, 1) := by decide +kernel
theorem dX8_readLine_5 : decode cX8_readLine 5 = .ok (.iaload, 1) := by decide +kernel
theorem dX8_readLine_6 : decode cX8_readLine 6 = .ok (.ifCond .ne 34, 3) := by decide +kernel
theorem dX8_readLine_9 : decode cX8_readLine 9 = .ok (.aload_n 0, 1) := by decide +kernel
theorem dX8_readLine_10 : decode cX8_readLine 10 = .ok (.bipush 99, 2) := by decide +kernel
theorem dX8_readLine_12 : decode cX8_readLine 12 = .ok (.bipush 111, 2) := by decide +kernel
theorem dX8_readLine_14 : decode cX8_readLine 14 = .ok (.bipush 117, 2) := by decide +kernel
theorem dX8_readLine_16 : decode cX8_readLine 16 = .ok (.bipush 114, 2) := by decide +kernel
theorem dX8_readLine_18 : decode cX8_readLine 18 = .ok (.bipush 116, 2) := by decide +kernel
theorem dX8_readLine_20 : decode cX8_readLine 20 = .ok (.iconst 0, 1) := by decide +kernel
theorem dX8_readLine_21 : decode cX8_readLine 21 = .ok (.invokevirtual 101, 3) := by decide +kernel
theorem dX8_readLine_24 : decode cX8_readLine 24 = .ok (.ifCond .eq 10, 3) := by decide +kernel
theorem dX8_readLine_27 : decode cX8_readLine 27 = .ok (.aload_n 0, 1) := by decide +kernel
theorem dX8_readLine_28 : decode cX8_readLine 28 = .ok (.invokevirtual 109, 3) := by decide +kernel
theorem dX8_readLine_31 : decode cX8_readLine 31 = .ok (.goto 8, 3) := by decide +kernel
theorem dX8_readLine_34 : decode cX8_readLine 34 = .ok (.aload_n 0, 1) := by decide +kernel
theorem dX8_readLine_35 : decode cX8_readLine 35 = .ok (.iconst 1, 1) := by decide +kernel
theorem dX8_readLine_36 : decode cX8_readLine 36 = .ok (.invokevirtual 88, 3) := by decide +kernel
theorem dX8_readLine_39 : decode cX8_readLine 39 = .ok (.ireturn, 1) := by decide +kernel
theorem dX8_readLine_40 : decode cX8_readLine 40 = .ok (.aload_n 0, 1) := by decide +kernel
theorem dX8_readLine_41 : decode cX8_readLine 41 = .ok (.bipush 106, 2) := by decide +kernel
theorem dX8_readLine_43 : decode cX8_readLine 43 = .ok (.bipush 117, 2) := by decide +kernel
theorem dX8_readLine_45 : decode cX8_readLine 45 = .ok (.bipush 100, 2) := by decide +kernel
theorem dX8_readLine_47 : decode cX8_readLine 47 = .ok (.bipush 103, 2) := by decide +kernel
theorem dX8_readLine_49 : decode cX8_readLine 49 = .ok (.bipush 101, 2) := by decide +kernel
theorem dX8_readLine_51 : decode cX8_readLine 51 = .ok (.iconst 0, 1) := by decide +kernel
theorem dX8_readLine_52 : decode cX8_readLine 52 = .ok (.invokevirtual 101, 3) := by decide +kernel
theorem dX8_readLine_55 : decode cX8_readLine 55 = .ok (.ifCond .eq 8, 3) := by decide +kernel
theorem dX8_readLine_58 : decode cX8_readLine 58 = .ok (.aload_n 0, 1) := by decide +kernel
theorem dX8_readLine_59 : decode cX8_readLine 59 = .ok (.invokevirtual 113, 3) := by decide +kernel
theorem dX8_readLine_62 : decode cX8_readLine 62 = .ok (.ireturn, 1) := by decide +kernel
theorem dX8_readLine_63 : decode cX8_readLine 63 = .ok (.aload_n 0, 1) := by decide +kernel
theorem dX8_readLine_64 : decode cX8_readLine 64 = .ok (.bipush 99, 2) := by decide +kernel
theorem dX8_readLine_66 : decode cX8_readLine 66 = .ok (.bipush 97, 2) := by decide +kernel
theorem dX8_readLine_68 : decode cX8_readLine 68 = .ok (.bipush 115, 2) := by decide +kernel
theorem dX8_readLine_70 : decode cX8_readLine 70 = .ok (.bipush 101, 2) := by decide +kernel
theorem dX8_readLine_72 : decode cX8_readLine 72 = .ok (.iconst 0, 1) := by decide +kernel
theorem dX8_readLine_73 : decode cX8_readLine 73 = .ok (.iconst 0, 1) := by decide +kernel
theorem dX8_readLine_74 : decode cX8_readLine 74 = .ok (.invokevirtual 101, 3) := by decide +kernel
theorem dX8_readLine_77 : decode cX8_readLine 77 = .ok (.ifCond .eq 8, 3) := by decide +kernel
theorem dX8_readLine_80 : decode cX8_readLine 80 = .ok (.aload_n 0, 1) := by decide +kernel
theorem dX8_readLine_81 : decode cX8_readLine 81 = .ok (.invokevirtual 116, 3) := by decide +kernel
theorem dX8_readLine_84 : decode cX8_readLine 84 = .ok (.ireturn, 1) := by decide +kernel
theorem dX8_readLine_85 : decode cX8_readLine 85 = .ok (.aload_n 0, 1) := by decide +kernel
theorem dX8_readLine_86 : decode cX8_readLine 86 = .ok (.bipush 115, 2) := by decide +kernel
theorem dX8_readLine_88 : decode cX8_readLine 88 = .ok (.bipush 101, 2) := by decide +kernel
theorem dX8_readLine_90 : decode cX8_readLine 90 = .ok (.bipush 110, 2) := by decide +kernel
theorem dX8_readLine_92 : decode cX8_readLine 92 = .ok (.bipush 105, 2) := by decide +kernel
theorem dX8_readLine_94 : decode cX8_readLine 94 = .ok (.bipush 111, 2) := by decide +kernel
theorem dX8_readLine_96 : decode cX8_readLine 96 = .ok (.bipush 114, 2) := by decide +kernel
theorem dX8_readLine_98 : decode cX8_readLine 98 = .ok (.invokevirtual 101, 3) := by decide +kernel
theorem dX8_readLine_101 : decode cX8_readLine 101 = .ok (.ifCond .ne 9, 3) := by decide +kernel
theorem dX8_readLine_104 : decode cX8_readLine 104 = .ok (.aload_n 0, 1) := by decide +kernel
theorem dX8_readLine_105 : decode cX8_readLine 105 = .ok (.iconst 1, 1) := by decide +kernel
theorem dX8_readLine_106 : decode cX8_readLine 106 = .ok (.invokevirtual 88, 3) := by decide +kernel
theorem dX8_readLine_109 : decode cX8_readLine 109 = .ok (.ireturn, 1) := by decide +kernel
theorem dX8_readLine_110 : decode cX8_readLine 110 = .ok (.aload_n 0, 1) := by decide +kernel
theorem dX8_readLine_111 : decode cX8_readLine 111 = .ok (.getfield 67, 3) := by decide +kernel
theorem dX8_readLine_114 : decode cX8_readLine 114 = .ok (.bipush 6, 2) := by decide +kernel
theorem dX8_readLine_116 : decode cX8_readLine 116 = .ok (.iaload, 1) := by decide +kernel
theorem dX8_readLine_117 : decode cX8_readLine 117 = .ok (.ifCond .le 9, 3) := by decide +kernel
theorem dX8_readLine_120 : decode cX8_readLine 120 = .ok (.aload_n 0, 1) := by decide +kernel
theorem dX8_readLine_121 : decode cX8_readLine 121 = .ok (.iconst 3, 1) := by decide +kernel
theorem dX8_readLine_122 : decode cX8_readLine 122 = .ok (.invokevirtual 88, 3) := by decide +kernel
theorem dX8_readLine_125 : decode cX8_readLine 125 = .ok (.ireturn, 1) := by decide +kernel
theorem dX8_readLine_126 : decode cX8_readLine 126 = .ok (.aload_n 0, 1) := by decide +kernel
theorem dX8_readLine_127 : decode cX8_readLine 127 = .ok (.invokevirtual 95, 3) := by decide +kernel
theorem dX8_readLine_130 : decode cX8_readLine 130 = .ok (.aload_n 0, 1) := by decide +kernel
theorem dX8_readLine_131 : decode cX8_readLine 131 = .ok (.bipush 6, 2) := by decide +kernel
theorem dX8_readLine_133 : decode cX8_readLine 133 = .ok (.iconst 1, 1) := by decide +kernel
theorem dX8_readLine_134 : decode cX8_readLine 134 = .ok (.bipush 99, 2) := by decide +kernel
theorem dX8_readLine_136 : decode cX8_readLine 136 = .ok (.invokevirtual 98, 3) := by decide +kernel
theorem dX8_readLine_139 : decode cX8_readLine 139 = .ok (.ireturn, 1) := by decide +kernel
theorem dX8_readEnd_0 : decode cX8_readEnd 0 = .ok (.aload_n 0, 1) := by decide +kernel
theorem dX8_readEnd_1 : decode cX8_readEnd 1 = .ok (.getfield 27, 3) := by decide +kernel
theorem dX8_readEnd_4 : decode cX8_readEnd 4 = .ok (.iconst 4, 1) := by decide +kernel
theorem dX8_readEnd_5 : decode cX8_readEnd 5 = .ok (.if_icmp .eq 9, 3) := by decide +kernel
theorem dX8_readEnd_8 : decode cX8_readEnd 8 = .ok (.aload_n 0, 1) := by decide +kernel
theorem dX8_readEnd_9 : decode cX8_readEnd 9 = .ok (.iconst 1, 1) := by decide +kernel
theorem dX8_readEnd_10 : decode cX8_readEnd 10 = .ok (.invokevirtual 88, 3) := by decide +kernel
theorem dX8_readEnd_13 : decode cX8_readEnd 13 = .ok (.ireturn, 1) := by decide +kernel
theorem dX8_readEnd_14 : decode cX8_readEnd 14 = .ok (.aload_n 0, 1) := by decide +kernel
theorem dX8_readEnd_15 : decode cX8_readEnd 15 = .ok (.invokevirtual 95, 3) := by decide +kernel
theorem dX8_readEnd_18 : decode cX8_readEnd 18 = .ok (.iconst 1, 1) := by decide +kernel
theorem dX8_readEnd_19 : decode cX8_readEnd 19 = .ok (.ireturn, 1) := by decide +kernel
theorem dX8_text_0 : decode cX8_text 0 = .ok (.aload_n 0, 1) := by decide +kernel
theorem dX8_text_1 : decode cX8_text 1 = .ok (.iconst 0, 1) := by decide +kernel
theorem dX8_text_2 : decode cX8_text 2 = .ok (.putfield 1, 3) := by decide +kernel
theorem dX8_text_5 : decode cX8_text 5 = .ok (.aload_n 0, 1) := by decide +kernel
theorem dX8_text_6 : decode cX8_text 6 = .ok (.aload_n 0, 1) := by decide +kernel
theorem dX8_text_7 : decode cX8_text 7 = .ok (.getfield 11, 3) := by decide +kernel
theorem dX8_text_10 : decode cX8_text 10 = .ok (.putfield 18, 3) := by decide +kernel
theorem dX8_text_13 : decode cX8_text 13 = .ok (.aload_n 0, 1) := by decide +kernel
theorem dX8_text_14 : decode cX8_text 14 = .ok (.iconst 0, 1) := by decide +kernel
theorem dX8_text_15 : decode cX8_text 15 = .ok (.putfield 11, 3) := by decide +kernel
theorem dX8_text_18 : decode cX8_text 18 = .ok (.aload_n 0, 1) := by decide +kernel
theorem dX8_text_19 : decode cX8_text 19 = .ok (.iconst 0, 1) := by decide +kernel
theorem dX8_text_20 : decode cX8_text 20 = .ok (.putfield 52, 3) := by decide +kernel
theorem dX8_text_23 : decode cX8_text 23 = .ok (.aload_n 0, 1) := by decide +kernel
theorem dX8_text_24 : decode cX8_text 24 = .ok (.iconst 0, 1) := by decide +kernel
theorem dX8_text_25 : decode cX8_text 25 = .ok (.putfield 21, 3) := by decide +kernel
theorem dX8_text_28 : decode cX8_text 28 = .ok (.iconst 0, 1) := by decide +kernel
theorem dX8_text_29 : decode cX8_text 29 = .ok (.istore_n 1, 1) := by decide +kernel
theorem dX8_text_30 : decode cX8_text 30 = .ok (.iconst 0, 1) := by decide +kernel
theorem dX8_text_31 : decode cX8_text 31 = .ok (.istore_n 2, 1) := by decide +kernel
theorem dX8_text_32 : decode cX8_text 32 = .ok (.iload_n 2, 1) := by decide +kernel
theorem dX8_text_33 : decode cX8_text 33 = .ok (.bipush 89, 2) := by decide +kernel
theorem dX8_text_35 : decode cX8_text 35 = .ok (.if_icmp .ge 16, 3) := by decide +kernel
theorem dX8_text_38 : decode cX8_text 38 = .ok (.aload_n 0, 1) := by decide +kernel
theorem dX8_text_39 : decode cX8_text 39 = .ok (.getfield 67, 3) := by decide +kernel
theorem dX8_text_42 : decode cX8_text 42 = .ok (.iload_n 2, 1) := by decide +kernel
theorem dX8_text_43 : decode cX8_text 43 = .ok (.iconst 0, 1) := by decide +kernel
theorem dX8_text_44 : decode cX8_text 44 = .ok (.iastore, 1) := by decide +kernel
theorem dX8_text_45 : decode cX8_text 45 = .ok (.iinc 2 1, 3) := by decide +kernel
theorem dX8_text_48 : decode cX8_text 48 = .ok (.goto (-16), 3) := by decide +kernel
theorem dX8_text_51 : decode cX8_text 51 = .ok (.aload_n 0, 1) := by decide +kernel
theorem dX8_text_52 : decode cX8_text 52 = .ok (.invokevirtual 95, 3) := by decide +kernel
theorem dX8_text_55 : decode cX8_text 55 = .ok (.aload_n 0, 1) := by decide +kernel
theorem dX8_text_56 : decode cX8_text 56 = .ok (.getfield 27, 3) := by decide +kernel
theorem dX8_text_59 : decode cX8_text 59 = .ok (.ifCond .eq 30, 3) := by decide +kernel
theorem dX8_text_62 : decode cX8_text 62 = .ok (.aload_n 0, 1) := by decide +kernel
theorem dX8_text_63 : decode cX8_text 63 = .ok (.invokevirtual 119, 3) := by decide +kernel
theorem dX8_text_66 : decode cX8_text 66 = .ok (.ifCond .eq 10, 3) := by decide +kernel
theorem dX8_text_69 : decode cX8_text 69 = .ok (.aload_n 0, 1) := by decide +kernel
theorem dX8_text_70 : decode cX8_text 70 = .ok (.invokevirtual 122, 3) := by decide +kernel
theorem dX8_text_73 : decode cX8_text 73 = .ok (.ifCond .ne 10, 3) := by decide +kernel
theorem dX8_text_76 : decode cX8_text 76 = .ok (.iconst (-1), 1) := by decide +kernel
theorem dX8_text_77 : decode cX8_text 77 = .ok (.aload_n 0, 1) := by decide +kernel
theorem dX8_text_78 : decode cX8_text 78 = .ok (.getfield 55, 3) := by decide +kernel
theorem dX8_text_81 : decode cX8_text 81 = .ok (.isub, 1) := by decide +kernel
theorem dX8_text_82 : decode cX8_text 82 = .ok (.ireturn, 1) := by decide +kernel
theorem dX8_text_83 : decode cX8_text 83 = .ok (.iinc 1 1, 3) := by decide +kernel
theorem dX8_text_86 : decode cX8_text 86 = .ok (.goto (-31), 3) := by decide +kernel
theorem dX8_text_89 : decode cX8_text 89 = .ok (.aload_n 0, 1) := by decide +kernel
theorem dX8_text_90 : decode cX8_text 90 = .ok (.getfield 67, 3) := by decide +kernel
theorem dX8_text_93 : decode cX8_text 93 = .ok (.iconst 0, 1) := by decide +kernel
theorem dX8_text_94 : decode cX8_text 94 = .ok (.aload_n 0, 1) := by decide +kernel
theorem dX8_text_95 : decode cX8_text 95 = .ok (.getfield 64, 3) := by decide +kernel
theorem dX8_text_98 : decode cX8_text 98 = .ok (.iconst 0, 1) := by decide +kernel
theorem dX8_text_99 : decode cX8_text 99 = .ok (.invokestatic 125, 3) := by decide +kernel
theorem dX8_text_102 : decode cX8_text 102 = .ok (.aload_n 0, 1) := by decide +kernel
theorem dX8_text_103 : decode cX8_text 103 = .ok (.iconst 0, 1) := by decide +kernel
theorem dX8_text_104 : decode cX8_text 104 = .ok (.putfield 129, 3) := by decide +kernel
theorem dX8_text_107 : decode cX8_text 107 = .ok (.iload_n 1, 1) := by decide +kernel
theorem dX8_text_108 : decode cX8_text 108 = .ok (.ireturn, 1) := by decide +kernel
theorem dX8_fault_0 : decode cX8_fault 0 = .ok (.aload_n 0, 1) := by decide +kernel
theorem dX8_fault_1 : decode cX8_fault 1 = .ok (.iconst 0, 1) := by decide +kernel
theorem dX8_fault_2 : decode cX8_fault 2 = .ok (.putfield 1, 3) := by decide +kernel
theorem dX8_fault_5 : decode cX8_fault 5 = .ok (.aload_n 0, 1) := by decide +kernel
theorem dX8_fault_6 : decode cX8_fault 6 = .ok (.getfield 52, 3) := by decide +kernel
theorem dX8_fault_9 : decode cX8_fault 9 = .ok (.ireturn, 1) := by decide +kernel
theorem dX8_judges_0 : decode cX8_judges 0 = .ok (.aload_n 0, 1) := by decide +kernel
theorem dX8_judges_1 : decode cX8_judges 1 = .ok (.getfield 64, 3) := by decide +kernel
theorem dX8_judges_4 : decode cX8_judges 4 = .ok (.bipush 7, 2) := by decide +kernel
theorem dX8_judges_6 : decode cX8_judges 6 = .ok (.iaload, 1) := by decide +kernel
theorem dX8_judges_7 : decode cX8_judges 7 = .ok (.ireturn, 1) := by decide +kernel
theorem dX8_cases_0 : decode cX8_cases 0 = .ok (.aload_n 0, 1) := by decide +kernel
theorem dX8_cases_1 : decode cX8_cases 1 = .ok (.getfield 64, 3) := by decide +kernel
theorem dX8_cases_4 : decode cX8_cases 4 = .ok (.bipush 18, 2) := by decide +kernel
theorem dX8_cases_6 : decode cX8_cases 6 = .ok (.iaload, 1) := by decide +kernel
theorem dX8_cases_7 : decode cX8_cases 7 = .ok (.ireturn, 1) := by decide +kernel
theorem dX8_isJudge_0 : decode cX8_isJudge 0 = .ok (.iload_n 1, 1) := by decide +kernel
theorem dX8_isJudge_1 : decode cX8_isJudge 1 = .ok (.iconst 0, 1) := by decide +kernel
theorem dX8_isJudge_2 : decode cX8_isJudge 2 = .ok (.aload_n 0, 1) := by decide +kernel
theorem dX8_isJudge_3 : decode cX8_isJudge 3 = .ok (.invokevirtual 132, 3) := by decide +kernel
theorem dX8_isJudge_6 : decode cX8_isJudge 6 = .ok (.iconst 1, 1) := by decide +kernel
theorem dX8_isJudge_7 : decode cX8_isJudge 7 = .ok (.isub, 1) := by decide +kernel
theorem dX8_isJudge_8 : decode cX8_isJudge 8 = .ok (.invokestatic 91, 3) := by decide +kernel
theorem dX8_isJudge_11 : decode cX8_isJudge 11 = .ok (.ireturn, 1) := by decide +kernel
theorem dX8_isCase_0 : decode cX8_isCase 0 = .ok (.iload_n 1, 1) := by decide +kernel
theorem dX8_isCase_1 : decode cX8_isCase 1 = .ok (.iconst 0, 1) := by decide +kernel
theorem dX8_isCase_2 : decode cX8_isCase 2 = .ok (.aload_n 0, 1) := by decide +kernel
theorem dX8_isCase_3 : decode cX8_isCase 3 = .ok (.invokevirtual 136, 3) := by decide +kernel
theorem dX8_isCase_6 : decode cX8_isCase 6 = .ok (.iconst 1, 1) := by decide +kernel
theorem dX8_isCase_7 : decode cX8_isCase 7 = .ok (.isub, 1) := by decide +kernel
theorem dX8_isCase_8 : decode cX8_isCase 8 = .ok (.invokestatic 91, 3) := by decide +kernel
theorem dX8_isCase_11 : decode cX8_isCase 11 = .ok (.ireturn, 1) := by decide +kernel
theorem dX8_presides_0 : decode cX8_presides 0 = .ok (.iconst (-1), 1) := by decide +kernel
theorem dX8_presides_1 : decode cX8_presides 1 = .ok (.istore_n 2, 1) := by decide +kernel
theorem dX8_presides_2 : decode cX8_presides 2 = .ok (.iconst 0, 1) := by decide +kernel
theorem dX8_presides_3 : decode cX8_presides 3 = .ok (.istore_n 3, 1) := by decide +kernel
theorem dX8_presides_4 : decode cX8_presides 4 = .ok (.iload_n 3, 1) := by decide +kernel
theorem dX8_presides_5 : decode cX8_presides 5 = .ok (.aload_n 0, 1) := by decide +kernel
theorem dX8_presides_6 : decode cX8_presides 6 = .ok (.bipush 7, 2) := by decide +kernel
theorem dX8_presides_8 : decode cX8_presides 8 = .ok (.iaload, 1) := by decide +kernel
theorem dX8_presides_9 : decode cX8_presides 9 = .ok (.if_icmp .ge 39, 3) := by decide +kernel
theorem dX8_presides_12 : decode cX8_presides 12 = .ok (.iload_n 1, 1) := by decide +kernel
theorem dX8_presides_13 : decode cX8_presides 13 = .ok (.iload_n 3, 1) := by decide +kernel
theorem dX8_presides_14 : decode cX8_presides 14 = .ok (.invokestatic 105, 3) := by decide +kernel
theorem dX8_presides_17 : decode cX8_presides 17 = .ok (.ifCond .eq 25, 3) := by decide +kernel
theorem dX8_presides_20 : decode cX8_presides 20 = .ok (.iload_n 2, 1) := by decide +kernel
theorem dX8_presides_21 : decode cX8_presides 21 = .ok (.iconst (-1), 1) := by decide +kernel
theorem dX8_presides_22 : decode cX8_presides 22 = .ok (.if_icmp .eq 18, 3) := by decide +kernel
theorem dX8_presides_25 : decode cX8_presides 25 = .ok (.aload_n 0, 1) := by decide +kernel
theorem dX8_presides_26 : decode cX8_presides 26 = .ok (.bipush 8, 2) := by decide +kernel
theorem dX8_presides_28 : decode cX8_presides 28 = .ok (.iload_n 3, 1) := by decide +kernel
theorem dX8_presides_29 : decode cX8_presides 29 = .ok (.iadd, 1) := by decide +kernel
theorem dX8_presides_30 : decode cX8_presides 30 = .ok (.iaload, 1) := by decide +kernel
theorem dX8_presides_31 : decode cX8_presides 31 = .ok (.aload_n 0, 1) := by decide +kernel
theorem dX8_presides_32 : decode cX8_presides 32 = .ok (.bipush 8, 2) := by decide +kernel
theorem dX8_presides_34 : decode cX8_presides 34 = .ok (.iload_n 2, 1) := by decide +kernel
theorem dX8_presides_35 : decode cX8_presides 35 = .ok (.iadd, 1) := by decide +kernel
theorem dX8_presides_36 : decode cX8_presides 36 = .ok (.iaload, 1) := by decide +kernel
theorem dX8_presides_37 : decode cX8_presides 37 = .ok (.if_icmp .le 5, 3) := by decide +kernel
theorem dX8_presides_40 : decode cX8_presides 40 = .ok (.iload_n 3, 1) := by decide +kernel
theorem dX8_presides_41 : decode cX8_presides 41 = .ok (.istore_n 2, 1) := by decide +kernel
theorem dX8_presides_42 : decode cX8_presides 42 = .ok (.iinc 3 1, 3) := by decide +kernel
theorem dX8_presides_45 : decode cX8_presides 45 = .ok (.goto (-41), 3) := by decide +kernel
theorem dX8_presides_48 : decode cX8_presides 48 = .ok (.iload_n 2, 1) := by decide +kernel
theorem dX8_presides_49 : decode cX8_presides 49 = .ok (.ireturn, 1) := by decide +kernel
theorem dX8_pairOf_0 : decode cX8_pairOf 0 = .ok (.iconst 0, 1) := by decide +kernel
theorem dX8_pairOf_1 : decode cX8_pairOf 1 = .ok (.istore 4, 2) := by decide +kernel
theorem dX8_pairOf_3 : decode cX8_pairOf 3 = .ok (.iconst 0, 1) := by decide +kernel
theorem dX8_pairOf_4 : decode cX8_pairOf 4 = .ok (.istore 5, 2) := by decide +kernel
theorem dX8_pairOf_6 : decode cX8_pairOf 6 = .ok (.iload 5, 2) := by decide +kernel
theorem dX8_pairOf_8 : decode cX8_pairOf 8 = .ok (.aload_n 0, 1) := by decide +kernel
theorem dX8_pairOf_9 : decode cX8_pairOf 9 = .ok (.bipush 18, 2) := by decide +kernel
theorem dX8_pairOf_11 : decode cX8_pairOf 11 = .ok (.iaload, 1) := by decide +kernel
theorem dX8_pairOf_12 : decode cX8_pairOf 12 = .ok (.if_icmp .ge 46, 3) := by decide +kernel
theorem dX8_pairOf_15 : decode cX8_pairOf 15 = .ok (.iload 5, 2) := by decide +kernel
theorem dX8_pairOf_17 : decode cX8_pairOf 17 = .ok (.iload_n 3, 1) := by decide +kernel
theorem dX8_pairOf_18 : decode cX8_pairOf 18 = .ok (.if_icmp .eq 34, 3) := by decide +kernel
theorem dX8_pairOf_21 : decode cX8_pairOf 21 = .ok (.aload_n 0, 1) := by decide +kernel
theorem dX8_pairOf_22 : decode cX8_pairOf 22 = .ok (.bipush 61, 2) := by decide +kernel
theorem dX8_pairOf_24 : decode cX8_pairOf 24 = .ok (.iload 5, 2) := by decide +kernel
theorem dX8_pairOf_26 : decode cX8_pairOf 26 = .ok (.iadd, 1) := by decide +kernel
theorem dX8_pairOf_27 : decode cX8_pairOf 27 = .ok (.iaload, 1) := by decide +kernel
theorem dX8_pairOf_28 : decode cX8_pairOf 28 = .ok (.iload_n 1, 1) := by decide +kernel
theorem dX8_pairOf_29 : decode cX8_pairOf 29 = .ok (.invokestatic 105, 3) := by decide +kernel
theorem dX8_pairOf_32 : decode cX8_pairOf 32 = .ok (.ifCond .eq 20, 3) := by decide +kernel
theorem dX8_pairOf_35 : decode cX8_pairOf 35 = .ok (.aload_n 0, 1) := by decide +kernel
theorem dX8_pairOf_36 : decode cX8_pairOf 36 = .ok (.bipush 61, 2) := by decide +kernel
theorem dX8_pairOf_38 : decode cX8_pairOf 38 = .ok (.iload 5, 2) := by decide +kernel
theorem dX8_pairOf_40 : decode cX8_pairOf 40 = .ok (.iadd, 1) := by decide +kernel
theorem dX8_pairOf_41 : decode cX8_pairOf 41 = .ok (.iaload, 1) := by decide +kernel
theorem dX8_pairOf_42 : decode cX8_pairOf 42 = .ok (.iload_n 2, 1) := by decide +kernel
theorem dX8_pairOf_43 : decode cX8_pairOf 43 = .ok (.invokestatic 105, 3) := by decide +kernel
theorem dX8_pairOf_46 : decode cX8_pairOf 46 = .ok (.ifCond .eq 6, 3) := by decide +kernel
theorem dX8_pairOf_49 : decode cX8_pairOf 49 = .ok (.iinc 4 1, 3) := by decide +kernel
theorem dX8_pairOf_52 : decode cX8_pairOf 52 = .ok (.iinc 5 1, 3) := by decide +kernel
theorem dX8_pairOf_55 : decode cX8_pairOf 55 = .ok (.goto (-49), 3) := by decide +kernel
theorem dX8_pairOf_58 : decode cX8_pairOf 58 = .ok (.iload 4, 2) := by decide +kernel
theorem dX8_pairOf_60 : decode cX8_pairOf 60 = .ok (.ireturn, 1) := by decide +kernel
theorem dX8_loadOf_0 : decode cX8_loadOf 0 = .ok (.iconst 0, 1) := by decide +kernel
theorem dX8_loadOf_1 : decode cX8_loadOf 1 = .ok (.istore_n 3, 1) := by decide +kernel
theorem dX8_loadOf_2 : decode cX8_loadOf 2 = .ok (.iconst 0, 1) := by decide +kernel
theorem dX8_loadOf_3 : decode cX8_loadOf 3 = .ok (.istore 4, 2) := by decide +kernel
theorem dX8_loadOf_5 : decode cX8_loadOf 5 = .ok (.iload 4, 2) := by decide +kernel
theorem dX8_loadOf_7 : decode cX8_loadOf 7 = .ok (.aload_n 0, 1) := by decide +kernel
theorem dX8_loadOf_8 : decode cX8_loadOf 8 = .ok (.bipush 18, 2) := by decide +kernel
theorem dX8_loadOf_10 : decode cX8_loadOf 10 = .ok (.iaload, 1) := by decide +kernel
theorem dX8_loadOf_11 : decode cX8_loadOf 11 = .ok (.if_icmp .ge 62, 3) := by decide +kernel
theorem dX8_loadOf_14 : decode cX8_loadOf 14 = .ok (.iload 4, 2) := by decide +kernel
theorem dX8_loadOf_16 : decode cX8_loadOf 16 = .ok (.iload_n 2, 1) := by decide +kernel
theorem dX8_loadOf_17 : decode cX8_loadOf 17 = .ok (.if_icmp .eq 50, 3) := by decide +kernel
theorem dX8_loadOf_20 : decode cX8_loadOf 20 = .ok (.aload_n 0, 1) := by decide +kernel
theorem dX8_loadOf_21 : decode cX8_loadOf 21 = .ok (.bipush 61, 2) := by decide +kernel
theorem dX8_loadOf_23 : decode cX8_loadOf 23 = .ok (.iload 4, 2) := by decide +kernel
theorem dX8_loadOf_25 : decode cX8_loadOf 25 = .ok (.iadd, 1) := by decide +kernel
theorem dX8_loadOf_26 : decode cX8_loadOf 26 = .ok (.iaload, 1) := by decide +kernel
theorem dX8_loadOf_27 : decode cX8_loadOf 27 = .ok (.iload_n 1, 1) := by decide +kernel
theorem dX8_loadOf_28 : decode cX8_loadOf 28 = .ok (.invokestatic 105, 3) := by decide +kernel
theorem dX8_loadOf_31 : decode cX8_loadOf 31 = .ok (.ifCond .eq 36, 3) := by decide +kernel
theorem dX8_loadOf_34 : decode cX8_loadOf 34 = .ok (.iload_n 3, 1) := by decide +kernel
theorem dX8_loadOf_35 : decode cX8_loadOf 35 = .ok (.aload_n 0, 1) := by decide +kernel
theorem dX8_loadOf_36 : decode cX8_loadOf 36 = .ok (.bipush 19, 2) := by decide +kernel
theorem dX8_loadOf_38 : decode cX8_loadOf 38 = .ok (.iload 4, 2) := by decide +kernel
theorem dX8_loadOf_40 : decode cX8_loadOf 40 = .ok (.iadd, 1) := by decide +kernel
theorem dX8_loadOf_41 : decode cX8_loadOf 41 = .ok (.iaload, 1) := by decide +kernel
theorem dX8_loadOf_42 : decode cX8_loadOf 42 = .ok (.aload_n 0, 1) := by decide +kernel
theorem dX8_loadOf_43 : decode cX8_loadOf 43 = .ok (.aload_n 0, 1) := by decide +kernel
theorem dX8_loadOf_44 : decode cX8_loadOf 44 = .ok (.bipush 61, 2) := by decide +kernel
theorem dX8_loadOf_46 : decode cX8_loadOf 46 = .ok (.iload 4, 2) := by decide +kernel
theorem dX8_loadOf_48 : decode cX8_loadOf 48 = .ok (.iadd, 1) := by decide +kernel
theorem dX8_loadOf_49 : decode cX8_loadOf 49 = .ok (.iaload, 1) := by decide +kernel
theorem dX8_loadOf_50 : decode cX8_loadOf 50 = .ok (.invokestatic 139, 3) := by decide +kernel
theorem dX8_loadOf_53 : decode cX8_loadOf 53 = .ok (.iload_n 1, 1) := by decide +kernel
theorem dX8_loadOf_54 : decode cX8_loadOf 54 = .ok (.if_icmp .ne 9, 3) := by decide +kernel
theorem dX8_loadOf_57 : decode cX8_loadOf 57 = .ok (.aload_n 0, 1) := by decide +kernel
theorem dX8_loadOf_58 : decode cX8_loadOf 58 = .ok (.iconst 3, 1) := by decide +kernel
theorem dX8_loadOf_59 : decode cX8_loadOf 59 = .ok (.iaload, 1) := by decide +kernel
theorem dX8_loadOf_60 : decode cX8_loadOf 60 = .ok (.goto 4, 3) := by decide +kernel
theorem dX8_loadOf_63 : decode cX8_loadOf 63 = .ok (.iconst 0, 1) := by decide +kernel
theorem dX8_loadOf_64 : decode cX8_loadOf 64 = .ok (.iadd, 1) := by decide +kernel
theorem dX8_loadOf_65 : decode cX8_loadOf 65 = .ok (.iadd, 1) := by decide +kernel
theorem dX8_loadOf_66 : decode cX8_loadOf 66 = .ok (.istore_n 3, 1) := by decide +kernel
theorem dX8_loadOf_67 : decode cX8_loadOf 67 = .ok (.iinc 4 1, 3) := by decide +kernel
theorem dX8_loadOf_70 : decode cX8_loadOf 70 = .ok (.goto (-65), 3) := by decide +kernel
theorem dX8_loadOf_73 : decode cX8_loadOf 73 = .ok (.iload_n 3, 1) := by decide +kernel
theorem dX8_loadOf_74 : decode cX8_loadOf 74 = .ok (.ireturn, 1) := by decide +kernel
theorem dX8_tensionOf_0 : decode cX8_tensionOf 0 = .ok (.iconst 0, 1) := by decide +kernel
theorem dX8_tensionOf_1 : decode cX8_tensionOf 1 = .ok (.istore_n 3, 1) := by decide +kernel
theorem dX8_tensionOf_2 : decode cX8_tensionOf 2 = .ok (.iconst 0, 1) := by decide +kernel
theorem dX8_tensionOf_3 : decode cX8_tensionOf 3 = .ok (.istore 4, 2) := by decide +kernel
theorem dX8_tensionOf_5 : decode cX8_tensionOf 5 = .ok (.iconst 0, 1) := by decide +kernel
theorem dX8_tensionOf_6 : decode cX8_tensionOf 6 = .ok (.istore 5, 2) := by decide +kernel
theorem dX8_tensionOf_8 : decode cX8_tensionOf 8 = .ok (.iload 5, 2) := by decide +kernel
theorem dX8_tensionOf_10 : decode cX8_tensionOf 10 = .ok (.aload_n 0, 1) := by decide +kernel
theorem dX8_tensionOf_11 : decode cX8_tensionOf 11 = .ok (.bipush 7, 2) := by decide +kernel
theorem dX8_tensionOf_13 : decode cX8_tensionOf 13 = .ok (.iaload, 1) := by decide +kernel
theorem dX8_tensionOf_14 : decode cX8_tensionOf 14 = .ok (.if_icmp .ge 70, 3) := by decide +kernel
theorem dX8_tensionOf_17 : decode cX8_tensionOf 17 = .ok (.iload_n 2, 1) := by decide +kernel
theorem dX8_tensionOf_18 : decode cX8_tensionOf 18 = .ok (.iload 5, 2) := by decide +kernel
theorem dX8_tensionOf_20 : decode cX8_tensionOf 20 = .ok (.invokestatic 105, 3) := by decide +kernel
theorem dX8_tensionOf_23 : decode cX8_tensionOf 23 = .ok (.ifCond .ne 6, 3) := by decide +kernel
theorem dX8_tensionOf_26 : decode cX8_tensionOf 26 = .ok (.goto 52, 3) := by decide +kernel
theorem dX8_tensionOf_29 : decode cX8_tensionOf 29 = .ok (.iload 4, 2) := by decide +kernel
theorem dX8_tensionOf_31 : decode cX8_tensionOf 31 = .ok (.aload_n 0, 1) := by decide +kernel
theorem dX8_tensionOf_32 : decode cX8_tensionOf 32 = .ok (.iload 5, 2) := by decide +kernel
theorem dX8_tensionOf_34 : decode cX8_tensionOf 34 = .ok (.iload_n 1, 1) := by decide +kernel
theorem dX8_tensionOf_35 : decode cX8_tensionOf 35 = .ok (.invokestatic 143, 3) := by decide +kernel
theorem dX8_tensionOf_38 : decode cX8_tensionOf 38 = .ok (.iadd, 1) := by decide +kernel
theorem dX8_tensionOf_39 : decode cX8_tensionOf 39 = .ok (.istore 4, 2) := by decide +kernel
theorem dX8_tensionOf_41 : decode cX8_tensionOf 41 = .ok (.iconst 0, 1) := by decide +kernel
theorem dX8_tensionOf_42 : decode cX8_tensionOf 42 = .ok (.istore 6, 2) := by decide +kernel
theorem dX8_tensionOf_44 : decode cX8_tensionOf 44 = .ok (.iload 6, 2) := by decide +kernel
theorem dX8_tensionOf_46 : decode cX8_tensionOf 46 = .ok (.iload 5, 2) := by decide +kernel
theorem dX8_tensionOf_48 : decode cX8_tensionOf 48 = .ok (.if_icmp .ge 30, 3) := by decide +kernel
theorem dX8_tensionOf_51 : decode cX8_tensionOf 51 = .ok (.iload_n 2, 1) := by decide +kernel
theorem dX8_tensionOf_52 : decode cX8_tensionOf 52 = .ok (.iload 6, 2) := by decide +kernel
theorem dX8_tensionOf_54 : decode cX8_tensionOf 54 = .ok (.invokestatic 105, 3) := by decide +kernel
theorem dX8_tensionOf_57 : decode cX8_tensionOf 57 = .ok (.ifCond .eq 15, 3) := by decide +kernel
theorem dX8_tensionOf_60 : decode cX8_tensionOf 60 = .ok (.iload_n 3, 1) := by decide +kernel
theorem dX8_tensionOf_61 : decode cX8_tensionOf 61 = .ok (.aload_n 0, 1) := by decide +kernel
theorem dX8_tensionOf_62 : decode cX8_tensionOf 62 = .ok (.iload 5, 2) := by decide +kernel
theorem dX8_tensionOf_64 : decode cX8_tensionOf 64 = .ok (.iload 6, 2) := by decide +kernel
theorem dX8_tensionOf_66 : decode cX8_tensionOf 66 = .ok (.iload_n 1, 1) := by decide +kernel
theorem dX8_tensionOf_67 : decode cX8_tensionOf 67 = .ok (.invokestatic 147, 3) := by decide +kernel
theorem dX8_tensionOf_70 : decode cX8_tensionOf 70 = .ok (.iadd, 1) := by decide +kernel
theorem dX8_tensionOf_71 : decode cX8_tensionOf 71 = .ok (.istore_n 3, 1) := by decide +kernel
theorem dX8_tensionOf_72 : decode cX8_tensionOf 72 = .ok (.iinc 6 1, 3) := by decide +kernel
theorem dX8_tensionOf_75 : decode cX8_tensionOf 75 = .ok (.goto (-31), 3) := by decide +kernel
theorem dX8_tensionOf_78 : decode cX8_tensionOf 78 = .ok (.iinc 5 1, 3) := by decide +kernel
theorem dX8_tensionOf_81 : decode cX8_tensionOf 81 = .ok (.goto (-73), 3) := by decide +kernel
theorem dX8_tensionOf_84 : decode cX8_tensionOf 84 = .ok (.aload_n 0, 1) := by decide +kernel
theorem dX8_tensionOf_85 : decode cX8_tensionOf 85 = .ok (.iconst 1, 1) := by decide +kernel
theorem dX8_tensionOf_86 : decode cX8_tensionOf 86 = .ok (.iaload, 1) := by decide +kernel
theorem dX8_tensionOf_87 : decode cX8_tensionOf 87 = .ok (.iload_n 3, 1) := by decide +kernel
theorem dX8_tensionOf_88 : decode cX8_tensionOf 88 = .ok (.imul, 1) := by decide +kernel
theorem dX8_tensionOf_89 : decode cX8_tensionOf 89 = .ok (.aload_n 0, 1) := by decide +kernel
theorem dX8_tensionOf_90 : decode cX8_tensionOf 90 = .ok (.iconst 2, 1) := by decide +kernel
theorem dX8_tensionOf_91 : decode cX8_tensionOf 91 = .ok (.iaload, 1) := by decide +kernel
theorem dX8_tensionOf_92 : decode cX8_tensionOf 92 = .ok (.iload 4, 2) := by decide +kernel
theorem dX8_tensionOf_94 : decode cX8_tensionOf 94 = .ok (.imul, 1) := by decide +kernel
theorem dX8_tensionOf_95 : decode cX8_tensionOf 95 = .ok (.iadd, 1) := by decide +kernel
theorem dX8_tensionOf_96 : decode cX8_tensionOf 96 = .ok (.ireturn, 1) := by decide +kernel
theorem dX8_having_0 : decode cX8_having 0 = .ok (.iconst 0, 1) := by decide +kernel
theorem dX8_having_1 : decode cX8_having 1 = .ok (.istore_n 2, 1) := by decide +kernel
theorem dX8_having_2 : decode cX8_having 2 = .ok (.iconst 0, 1) := by decide +kernel
theorem dX8_having_3 : decode cX8_having 3 = .ok (.istore_n 3, 1) := by decide +kernel
theorem dX8_having_4 : decode cX8_having 4 = .ok (.iload_n 3, 1) := by decide +kernel
theorem dX8_having_5 : decode cX8_having 5 = .ok (.aload_n 0, 1) := by decide +kernel
theorem dX8_having_6 : decode cX8_having 6 = .ok (.invokevirtual 136, 3) := by decide +kernel
theorem dX8_having_9 : decode cX8_having 9 = .ok (.if_icmp .ge 25, 3) := by decide +kernel
theorem dX8_having_12 : decode cX8_having 12 = .ok (.aload_n 0, 1) := by decide +kernel
theorem dX8_having_13 : decode cX8_having 13 = .ok (.getfield 64, 3) := by decide +kernel
theorem dX8_having_16 : decode cX8_having 16 = .ok (.bipush 75, 2) := by decide +kernel
theorem dX8_having_18 : decode cX8_having 18 = .ok (.iload_n 3, 1) := by decide +kernel
theorem dX8_having_19 : decode cX8_having 19 = .ok (.iadd, 1) := by decide +kernel
theorem dX8_having_20 : decode cX8_having 20 = .ok (.iaload, 1) := by decide +kernel
theorem dX8_having_21 : decode cX8_having 21 = .ok (.iload_n 1, 1) := by decide +kernel
theorem dX8_having_22 : decode cX8_having 22 = .ok (.if_icmp .ne 6, 3) := by decide +kernel
theorem dX8_having_25 : decode cX8_having 25 = .ok (.iinc 2 1, 3) := by decide +kernel
theorem dX8_having_28 : decode cX8_having 28 = .ok (.iinc 3 1, 3) := by decide +kernel
theorem dX8_having_31 : decode cX8_having 31 = .ok (.goto (-27), 3) := by decide +kernel
theorem dX8_having_34 : decode cX8_having 34 = .ok (.iload_n 2, 1) := by decide +kernel
theorem dX8_having_35 : decode cX8_having 35 = .ok (.ireturn, 1) := by decide +kernel
theorem dX8_now_0 : decode cX8_now 0 = .ok (.aload_n 0, 1) := by decide +kernel
theorem dX8_now_1 : decode cX8_now 1 = .ok (.iconst 0, 1) := by decide +kernel
theorem dX8_now_2 : decode cX8_now 2 = .ok (.putfield 1, 3) := by decide +kernel
theorem dX8_now_5 : decode cX8_now 5 = .ok (.iload_n 1, 1) := by decide +kernel
theorem dX8_now_6 : decode cX8_now 6 = .ok (.tableswitch 81 0 6 #[42, 47, 52, 59, 65, 71, 76], 42) := by decide +kernel
theorem dX8_now_48 : decode cX8_now 48 = .ok (.aload_n 0, 1) := by decide +kernel
theorem dX8_now_49 : decode cX8_now 49 = .ok (.invokevirtual 132, 3) := by decide +kernel
theorem dX8_now_52 : decode cX8_now 52 = .ok (.ireturn, 1) := by decide +kernel
theorem dX8_now_53 : decode cX8_now 53 = .ok (.aload_n 0, 1) := by decide +kernel
theorem dX8_now_54 : decode cX8_now 54 = .ok (.invokevirtual 136, 3) := by decide +kernel
theorem dX8_now_57 : decode cX8_now 57 = .ok (.ireturn, 1) := by decide +kernel
theorem dX8_now_58 : decode cX8_now 58 = .ok (.aload_n 0, 1) := by decide +kernel
theorem dX8_now_59 : decode cX8_now 59 = .ok (.getfield 64, 3) := by decide +kernel
theorem dX8_now_62 : decode cX8_now 62 = .ok (.iconst 5, 1) := by decide +kernel
theorem dX8_now_63 : decode cX8_now 63 = .ok (.iaload, 1) := by decide +kernel
theorem dX8_now_64 : decode cX8_now 64 = .ok (.ireturn, 1) := by decide +kernel
theorem dX8_now_65 : decode cX8_now 65 = .ok (.aload_n 0, 1) := by decide +kernel
theorem dX8_now_66 : decode cX8_now 66 = .ok (.iconst 1, 1) := by decide +kernel
theorem dX8_now_67 : decode cX8_now 67 = .ok (.invokevirtual 151, 3) := by decide +kernel
theorem dX8_now_70 : decode cX8_now 70 = .ok (.ireturn, 1) := by decide +kernel
theorem dX8_now_71 : decode cX8_now 71 = .ok (.aload_n 0, 1) := by decide +kernel
theorem dX8_now_72 : decode cX8_now 72 = .ok (.iconst 2, 1) := by decide +kernel
theorem dX8_now_73 : decode cX8_now 73 = .ok (.invokevirtual 151, 3) := by decide +kernel
theorem dX8_now_76 : decode cX8_now 76 = .ok (.ireturn, 1) := by decide +kernel
theorem dX8_now_77 : decode cX8_now 77 = .ok (.aload_n 0, 1) := by decide +kernel
theorem dX8_now_78 : decode cX8_now 78 = .ok (.getfield 129, 3) := by decide +kernel
theorem dX8_now_81 : decode cX8_now 81 = .ok (.ireturn, 1) := by decide +kernel
theorem dX8_now_82 : decode cX8_now 82 = .ok (.aload_n 0, 1) := by decide +kernel
theorem dX8_now_83 : decode cX8_now 83 = .ok (.getfield 11, 3) := by decide +kernel
theorem dX8_now_86 : decode cX8_now 86 = .ok (.ireturn, 1) := by decide +kernel
theorem dX8_now_87 : decode cX8_now 87 = .ok (.iconst (-1), 1) := by decide +kernel
theorem dX8_now_88 : decode cX8_now 88 = .ok (.ireturn, 1) := by decide +kernel
theorem dX8_countsOf_0 : decode cX8_countsOf 0 = .ok (.iconst 0, 1) := by decide +kernel
theorem dX8_countsOf_1 : decode cX8_countsOf 1 = .ok (.istore_n 3, 1) := by decide +kernel
theorem dX8_countsOf_2 : decode cX8_countsOf 2 = .ok (.iconst 0, 1) := by decide +kernel
theorem dX8_countsOf_3 : decode cX8_countsOf 3 = .ok (.istore 4, 2) := by decide +kernel
theorem dX8_countsOf_5 : decode cX8_countsOf 5 = .ok (.iload 4, 2) := by decide +kernel
theorem dX8_countsOf_7 : decode cX8_countsOf 7 = .ok (.aload_n 0, 1) := by decide +kernel
theorem dX8_countsOf_8 : decode cX8_countsOf 8 = .ok (.invokevirtual 136, 3) := by decide +kernel
theorem dX8_countsOf_11 : decode cX8_countsOf 11 = .ok (.if_icmp .ge 83, 3) := by decide +kernel
theorem dX8_countsOf_14 : decode cX8_countsOf 14 = .ok (.iload_n 2, 1) := by decide +kernel
theorem dX8_countsOf_15 : decode cX8_countsOf 15 = .ok (.iconst 3, 1) := by decide +kernel
theorem dX8_countsOf_16 : decode cX8_countsOf 16 = .ok (.if_icmp .ne 23, 3) := by decide +kernel
theorem dX8_countsOf_19 : decode cX8_countsOf 19 = .ok (.aload_n 0, 1) := by decide +kernel
theorem dX8_countsOf_20 : decode cX8_countsOf 20 = .ok (.getfield 64, 3) := by decide +kernel
theorem dX8_countsOf_23 : decode cX8_countsOf 23 = .ok (.bipush 61, 2) := by decide +kernel
theorem dX8_countsOf_25 : decode cX8_countsOf 25 = .ok (.iload 4, 2) := by decide +kernel
theorem dX8_countsOf_27 : decode cX8_countsOf 27 = .ok (.iadd, 1) := by decide +kernel
theorem dX8_countsOf_28 : decode cX8_countsOf 28 = .ok (.iaload, 1) := by decide +kernel
theorem dX8_countsOf_29 : decode cX8_countsOf 29 = .ok (.iload_n 1, 1) := by decide +kernel
theorem dX8_countsOf_30 : decode cX8_countsOf 30 = .ok (.invokestatic 105, 3) := by decide +kernel
theorem dX8_countsOf_33 : decode cX8_countsOf 33 = .ok (.ifCond .eq 55, 3) := by decide +kernel
theorem dX8_countsOf_36 : decode cX8_countsOf 36 = .ok (.goto 49, 3) := by decide +kernel
theorem dX8_countsOf_39 : decode cX8_countsOf 39 = .ok (.iload_n 2, 1) := by decide +kernel
theorem dX8_countsOf_40 : decode cX8_countsOf 40 = .ok (.iconst 4, 1) := by decide +kernel
theorem dX8_countsOf_41 : decode cX8_countsOf 41 = .ok (.if_icmp .ne 27, 3) := by decide +kernel
theorem dX8_countsOf_44 : decode cX8_countsOf 44 = .ok (.aload_n 0, 1) := by decide +kernel
theorem dX8_countsOf_45 : decode cX8_countsOf 45 = .ok (.getfield 64, 3) := by decide +kernel
theorem dX8_countsOf_48 : decode cX8_countsOf 48 = .ok (.aload_n 0, 1) := by decide +kernel
theorem dX8_countsOf_49 : decode cX8_countsOf 49 = .ok (.getfield 64, 3) := by decide +kernel
theorem dX8_countsOf_52 : decode cX8_countsOf 52 = .ok (.bipush 61, 2) := by decide +kernel
theorem dX8_countsOf_54 : decode cX8_countsOf 54 = .ok (.iload 4, 2) := by decide +kernel
theorem dX8_countsOf_56 : decode cX8_countsOf 56 = .ok (.iadd, 1) := by decide +kernel
theorem dX8_countsOf_57 : decode cX8_countsOf 57 = .ok (.iaload, 1) := by decide +kernel
theorem dX8_countsOf_58 : decode cX8_countsOf 58 = .ok (.invokestatic 139, 3) := by decide +kernel
theorem dX8_countsOf_61 : decode cX8_countsOf 61 = .ok (.iload_n 1, 1) := by decide +kernel
theorem dX8_countsOf_62 : decode cX8_countsOf 62 = .ok (.if_icmp .ne 26, 3) := by decide +kernel
theorem dX8_countsOf_65 : decode cX8_countsOf 65 = .ok (.goto 20, 3) := by decide +kernel
theorem dX8_countsOf_68 : decode cX8_countsOf 68 = .ok (.aload_n 0, 1) := by decide +kernel
theorem dX8_countsOf_69 : decode cX8_countsOf 69 = .ok (.getfield 64, 3) := by decide +kernel
theorem dX8_countsOf_72 : decode cX8_countsOf 72 = .ok (.bipush 47, 2) := by decide +kernel
theorem dX8_countsOf_74 : decode cX8_countsOf 74 = .ok (.iload 4, 2) := by decide +kernel
theorem dX8_countsOf_76 : decode cX8_countsOf 76 = .ok (.iadd, 1) := by decide +kernel
theorem dX8_countsOf_77 : decode cX8_countsOf 77 = .ok (.iaload, 1) := by decide +kernel
theorem dX8_countsOf_78 : decode cX8_countsOf 78 = .ok (.iload_n 1, 1) := by decide +kernel
theorem dX8_countsOf_79 : decode cX8_countsOf 79 = .ok (.invokestatic 105, 3) := by decide +kernel
theorem dX8_countsOf_82 : decode cX8_countsOf 82 = .ok (.ifCond .eq 6, 3) := by decide +kernel
theorem dX8_countsOf_85 : decode cX8_countsOf 85 = .ok (.iinc 3 1, 3) := by decide +kernel
theorem dX8_countsOf_88 : decode cX8_countsOf 88 = .ok (.iinc 4 1, 3) := by decide +kernel
theorem dX8_countsOf_91 : decode cX8_countsOf 91 = .ok (.goto (-86), 3) := by decide +kernel
theorem dX8_countsOf_94 : decode cX8_countsOf 94 = .ok (.iload_n 3, 1) := by decide +kernel
theorem dX8_countsOf_95 : decode cX8_countsOf 95 = .ok (.ireturn, 1) := by decide +kernel
theorem dX8_judge_0 : decode cX8_judge 0 = .ok (.aload_n 0, 1) := by decide +kernel
theorem dX8_judge_1 : decode cX8_judge 1 = .ok (.iconst 0, 1) := by decide +kernel
theorem dX8_judge_2 : decode cX8_judge 2 = .ok (.putfield 1, 3) := by decide +kernel
theorem dX8_judge_5 : decode cX8_judge 5 = .ok (.aload_n 0, 1) := by decide +kernel
theorem dX8_judge_6 : decode cX8_judge 6 = .ok (.iload_n 1, 1) := by decide +kernel
theorem dX8_judge_7 : decode cX8_judge 7 = .ok (.invokevirtual 154, 3) := by decide +kernel
theorem dX8_judge_10 : decode cX8_judge 10 = .ok (.ifCond .eq 12, 3) := by decide +kernel
theorem dX8_judge_13 : decode cX8_judge 13 = .ok (.iload_n 2, 1) := by decide +kernel
theorem dX8_judge_14 : decode cX8_judge 14 = .ok (.iconst 0, 1) := by decide +kernel
theorem dX8_judge_15 : decode cX8_judge 15 = .ok (.iconst 5, 1) := by decide +kernel
theorem dX8_judge_16 : decode cX8_judge 16 = .ok (.invokestatic 91, 3) := by decide +kernel
theorem dX8_judge_19 : decode cX8_judge 19 = .ok (.ifCond .ne 8, 3) := by decide +kernel
theorem dX8_judge_22 : decode cX8_judge 22 = .ok (.aload_n 0, 1) := by decide +kernel
theorem dX8_judge_23 : decode cX8_judge 23 = .ok (.invokevirtual 157, 3) := by decide +kernel
theorem dX8_judge_26 : decode cX8_judge 26 = .ok (.ireturn, 1) := by decide +kernel
theorem dX8_judge_27 : decode cX8_judge 27 = .ok (.iload_n 2, 1) := by decide +kernel
theorem dX8_judge_28 : decode cX8_judge 28 = .ok (.tableswitch 68 0 2 #[28, 38, 58], 28) := by decide +kernel
theorem dX8_judge_56 : decode cX8_judge 56 = .ok (.aload_n 0, 1) := by decide +kernel
theorem dX8_judge_57 : decode cX8_judge 57 = .ok (.getfield 64, 3) := by decide +kernel
theorem dX8_judge_60 : decode cX8_judge 60 = .ok (.bipush 8, 2) := by decide +kernel
theorem dX8_judge_62 : decode cX8_judge 62 = .ok (.iload_n 1, 1) := by decide +kernel
theorem dX8_judge_63 : decode cX8_judge 63 = .ok (.iadd, 1) := by decide +kernel
theorem dX8_judge_64 : decode cX8_judge 64 = .ok (.iaload, 1) := by decide +kernel
theorem dX8_judge_65 : decode cX8_judge 65 = .ok (.ireturn, 1) := by decide +kernel
theorem dX8_judge_66 : decode cX8_judge 66 = .ok (.aload_n 0, 1) := by decide +kernel
theorem dX8_judge_67 : decode cX8_judge 67 = .ok (.getfield 64, 3) := by decide +kernel
theorem dX8_judge_70 : decode cX8_judge 70 = .ok (.bipush 17, 2) := by decide +kernel
theorem dX8_judge_72 : decode cX8_judge 72 = .ok (.iaload, 1) := by decide +kernel
theorem dX8_judge_73 : decode cX8_judge 73 = .ok (.iload_n 1, 1) := by decide +kernel
theorem dX8_judge_74 : decode cX8_judge 74 = .ok (.invokestatic 105, 3) := by decide +kernel
theorem dX8_judge_77 : decode cX8_judge 77 = .ok (.ifCond .eq 7, 3) := by decide +kernel
theorem dX8_judge_80 : decode cX8_judge 80 = .ok (.iconst 1, 1) := by decide +kernel
theorem dX8_judge_81 : decode cX8_judge 81 = .ok (.goto 4, 3) := by decide +kernel
theorem dX8_judge_84 : decode cX8_judge 84 = .ok (.iconst 0, 1) := by decide +kernel
theorem dX8_judge_85 : decode cX8_judge 85 = .ok (.ireturn, 1) := by decide +kernel
theorem dX8_judge_86 : decode cX8_judge 86 = .ok (.aload_n 0, 1) := by decide +kernel
theorem dX8_judge_87 : decode cX8_judge 87 = .ok (.getfield 64, 3) := by decide +kernel
theorem dX8_judge_90 : decode cX8_judge 90 = .ok (.iload_n 1, 1) := by decide +kernel
theorem dX8_judge_91 : decode cX8_judge 91 = .ok (.iconst (-1), 1) := by decide +kernel
theorem dX8_judge_92 : decode cX8_judge 92 = .ok (.invokestatic 143, 3) := by decide +kernel
theorem dX8_judge_95 : decode cX8_judge 95 = .ok (.ireturn, 1) := by decide +kernel
theorem dX8_judge_96 : decode cX8_judge 96 = .ok (.aload_n 0, 1) := by decide +kernel
theorem dX8_judge_97 : decode cX8_judge 97 = .ok (.iload_n 1, 1) := by decide +kernel
theorem dX8_judge_98 : decode cX8_judge 98 = .ok (.iload_n 2, 1) := by decide +kernel
theorem dX8_judge_99 : decode cX8_judge 99 = .ok (.invokevirtual 160, 3) := by decide +kernel
theorem dX8_judge_102 : decode cX8_judge 102 = .ok (.ireturn, 1) := by decide +kernel
theorem dX8_of_0 : decode cX8_of 0 = .ok (.aload_n 0, 1) := by decide +kernel
theorem dX8_of_1 : decode cX8_of 1 = .ok (.iconst 0, 1) := by decide +kernel
theorem dX8_of_2 : decode cX8_of 2 = .ok (.putfield 1, 3) := by decide +kernel
theorem dX8_of_5 : decode cX8_of 5 = .ok (.aload_n 0, 1) := by decide +kernel
theorem dX8_of_6 : decode cX8_of 6 = .ok (.iload_n 1, 1) := by decide +kernel
theorem dX8_of_7 : decode cX8_of 7 = .ok (.invokevirtual 164, 3) := by decide +kernel
theorem dX8_of_10 : decode cX8_of 10 = .ok (.ifCond .ne 8, 3) := by decide +kernel
theorem dX8_of_13 : decode cX8_of 13 = .ok (.aload_n 0, 1) := by decide +kernel
theorem dX8_of_14 : decode cX8_of 14 = .ok (.invokevirtual 157, 3) := by decide +kernel
theorem dX8_of_17 : decode cX8_of 17 = .ok (.ireturn, 1) := by decide +kernel
theorem dX8_of_18 : decode cX8_of 18 = .ok (.iload_n 2, 1) := by decide +kernel
theorem dX8_of_19 : decode cX8_of 19 = .ok (.tableswitch 90 0 4 #[33, 43, 53, 63, 73], 33) := by decide +kernel
theorem dX8_of_52 : decode cX8_of 52 = .ok (.aload_n 0, 1) := by decide +kernel
theorem dX8_of_53 : decode cX8_of 53 = .ok (.getfield 64, 3) := by decide +kernel
theorem dX8_of_56 : decode cX8_of 56 = .ok (.bipush 19, 2) := by decide +kernel
theorem dX8_of_58 : decode cX8_of 58 = .ok (.iload_n 1, 1) := by decide +kernel
theorem dX8_of_59 : decode cX8_of 59 = .ok (.iadd, 1) := by decide +kernel
theorem dX8_of_60 : decode cX8_of 60 = .ok (.iaload, 1) := by decide +kernel
theorem dX8_of_61 : decode cX8_of 61 = .ok (.ireturn, 1) := by decide +kernel
theorem dX8_of_62 : decode cX8_of 62 = .ok (.aload_n 0, 1) := by decide +kernel
theorem dX8_of_63 : decode cX8_of 63 = .ok (.getfield 64, 3) := by decide +kernel
theorem dX8_of_66 : decode cX8_of 66 = .ok (.bipush 47, 2) := by decide +kernel
theorem dX8_of_68 : decode cX8_of 68 = .ok (.iload_n 1, 1) := by decide +kernel
theorem dX8_of_69 : decode cX8_of 69 = .ok (.iadd, 1) := by decide +kernel
theorem dX8_of_70 : decode cX8_of 70 = .ok (.iaload, 1) := by decide +kernel
theorem dX8_of_71 : decode cX8_of 71 = .ok (.ireturn, 1) := by decide +kernel
theorem dX8_of_72 : decode cX8_of 72 = .ok (.aload_n 0, 1) := by decide +kernel
theorem dX8_of_73 : decode cX8_of 73 = .ok (.getfield 64, 3) := by decide +kernel
theorem dX8_of_76 : decode cX8_of 76 = .ok (.bipush 75, 2) := by decide +kernel
theorem dX8_of_78 : decode cX8_of 78 = .ok (.iload_n 1, 1) := by decide +kernel
theorem dX8_of_79 : decode cX8_of 79 = .ok (.iadd, 1) := by decide +kernel
theorem dX8_of_80 : decode cX8_of 80 = .ok (.iaload, 1) := by decide +kernel
theorem dX8_of_81 : decode cX8_of 81 = .ok (.ireturn, 1) := by decide +kernel
theorem dX8_of_82 : decode cX8_of 82 = .ok (.aload_n 0, 1) := by decide +kernel
theorem dX8_of_83 : decode cX8_of 83 = .ok (.getfield 64, 3) := by decide +kernel
theorem dX8_of_86 : decode cX8_of 86 = .ok (.bipush 61, 2) := by decide +kernel
theorem dX8_of_88 : decode cX8_of 88 = .ok (.iload_n 1, 1) := by decide +kernel
theorem dX8_of_89 : decode cX8_of 89 = .ok (.iadd, 1) := by decide +kernel
theorem dX8_of_90 : decode cX8_of 90 = .ok (.iaload, 1) := by decide +kernel
theorem dX8_of_91 : decode cX8_of 91 = .ok (.ireturn, 1) := by decide +kernel
theorem dX8_of_92 : decode cX8_of 92 = .ok (.aload_n 0, 1) := by decide +kernel
theorem dX8_of_93 : decode cX8_of 93 = .ok (.getfield 64, 3) := by decide +kernel
theorem dX8_of_96 : decode cX8_of 96 = .ok (.aload_n 0, 1) := by decide +kernel
theorem dX8_of_97 : decode cX8_of 97 = .ok (.getfield 64, 3) := by decide +kernel
theorem dX8_of_100 : decode cX8_of 100 = .ok (.bipush 61, 2) := by decide +kernel
theorem dX8_of_102 : decode cX8_of 102 = .ok (.iload_n 1, 1) := by decide +kernel
theorem dX8_of_103 : decode cX8_of 103 = .ok (.iadd, 1) := by decide +kernel
theorem dX8_of_104 : decode cX8_of 104 = .ok (.iaload, 1) := by decide +kernel
theorem dX8_of_105 : decode cX8_of 105 = .ok (.invokestatic 139, 3) := by decide +kernel
theorem dX8_of_108 : decode cX8_of 108 = .ok (.ireturn, 1) := by decide +kernel
theorem dX8_of_109 : decode cX8_of 109 = .ok (.aload_n 0, 1) := by decide +kernel
theorem dX8_of_110 : decode cX8_of 110 = .ok (.invokevirtual 157, 3) := by decide +kernel
theorem dX8_of_113 : decode cX8_of 113 = .ok (.ireturn, 1) := by decide +kernel
theorem dX8_pair_0 : decode cX8_pair 0 = .ok (.aload_n 0, 1) := by decide +kernel
theorem dX8_pair_1 : decode cX8_pair 1 = .ok (.iconst 0, 1) := by decide +kernel
theorem dX8_pair_2 : decode cX8_pair 2 = .ok (.putfield 1, 3) := by decide +kernel
theorem dX8_pair_5 : decode cX8_pair 5 = .ok (.aload_n 0, 1) := by decide +kernel
theorem dX8_pair_6 : decode cX8_pair 6 = .ok (.iload_n 1, 1) := by decide +kernel
theorem dX8_pair_7 : decode cX8_pair 7 = .ok (.invokevirtual 154, 3) := by decide +kernel
theorem dX8_pair_10 : decode cX8_pair 10 = .ok (.ifCond .eq 29, 3) := by decide +kernel
theorem dX8_pair_13 : decode cX8_pair 13 = .ok (.aload_n 0, 1) := by decide +kernel
theorem dX8_pair_14 : decode cX8_pair 14 = .ok (.iload_n 2, 1) := by decide +kernel
theorem dX8_pair_15 : decode cX8_pair 15 = .ok (.invokevirtual 154, 3) := by decide +kernel
theorem dX8_pair_18 : decode cX8_pair 18 = .ok (.ifCond .eq 21, 3) := by decide +kernel
theorem dX8_pair_21 : decode cX8_pair 21 = .ok (.iload_n 1, 1) := by decide +kernel
theorem dX8_pair_22 : decode cX8_pair 22 = .ok (.iload_n 2, 1) := by decide +kernel
theorem dX8_pair_23 : decode cX8_pair 23 = .ok (.if_icmp .eq 16, 3) := by decide +kernel
theorem dX8_pair_26 : decode cX8_pair 26 = .ok (.aload_n 0, 1) := by decide +kernel
theorem dX8_pair_27 : decode cX8_pair 27 = .ok (.getfield 64, 3) := by decide +kernel
theorem dX8_pair_30 : decode cX8_pair 30 = .ok (.iload_n 1, 1) := by decide +kernel
theorem dX8_pair_31 : decode cX8_pair 31 = .ok (.iload_n 2, 1) := by decide +kernel
theorem dX8_pair_32 : decode cX8_pair 32 = .ok (.iconst (-1), 1) := by decide +kernel
theorem dX8_pair_33 : decode cX8_pair 33 = .ok (.invokestatic 147, 3) := by decide +kernel
theorem dX8_pair_36 : decode cX8_pair 36 = .ok (.goto 4, 3) := by decide +kernel
theorem dX8_pair_39 : decode cX8_pair 39 = .ok (.iconst (-1), 1) := by decide +kernel
theorem dX8_pair_40 : decode cX8_pair 40 = .ok (.ireturn, 1) := by decide +kernel
theorem dX8_spread_0 : decode cX8_spread 0 = .ok (.aload_n 0, 1) := by decide +kernel
theorem dX8_spread_1 : decode cX8_spread 1 = .ok (.iconst 0, 1) := by decide +kernel
theorem dX8_spread_2 : decode cX8_spread 2 = .ok (.putfield 1, 3) := by decide +kernel
theorem dX8_spread_5 : decode cX8_spread 5 = .ok (.iload_n 1, 1) := by decide +kernel
theorem dX8_spread_6 : decode cX8_spread 6 = .ok (.iconst 0, 1) := by decide +kernel
theorem dX8_spread_7 : decode cX8_spread 7 = .ok (.iconst 1, 1) := by decide +kernel
theorem dX8_spread_8 : decode cX8_spread 8 = .ok (.invokestatic 91, 3) := by decide +kernel
theorem dX8_spread_11 : decode cX8_spread 11 = .ok (.ifCond .eq 11, 3) := by decide +kernel
theorem dX8_spread_14 : decode cX8_spread 14 = .ok (.aload_n 0, 1) := by decide +kernel
theorem dX8_spread_15 : decode cX8_spread 15 = .ok (.invokevirtual 132, 3) := by decide +kernel
theorem dX8_spread_18 : decode cX8_spread 18 = .ok (.iconst 2, 1) := by decide +kernel
theorem dX8_spread_19 : decode cX8_spread 19 = .ok (.if_icmp .ge 5, 3) := by decide +kernel
theorem dX8_spread_22 : decode cX8_spread 22 = .ok (.iconst (-1), 1) := by decide +kernel
theorem dX8_spread_23 : decode cX8_spread 23 = .ok (.ireturn, 1) := by decide +kernel
theorem dX8_spread_24 : decode cX8_spread 24 = .ok (.iload_n 1, 1) := by decide +kernel
theorem dX8_spread_25 : decode cX8_spread 25 = .ok (.ifCond .ne 16, 3) := by decide +kernel
theorem dX8_spread_28 : decode cX8_spread 28 = .ok (.aload_n 0, 1) := by decide +kernel
theorem dX8_spread_29 : decode cX8_spread 29 = .ok (.getfield 64, 3) := by decide +kernel
theorem dX8_spread_32 : decode cX8_spread 32 = .ok (.iconst 0, 1) := by decide +kernel
theorem dX8_spread_33 : decode cX8_spread 33 = .ok (.iconst 1, 1) := by decide +kernel
theorem dX8_spread_34 : decode cX8_spread 34 = .ok (.iconst (-1), 1) := by decide +kernel
theorem dX8_spread_35 : decode cX8_spread 35 = .ok (.invokestatic 147, 3) := by decide +kernel
theorem dX8_spread_38 : decode cX8_spread 38 = .ok (.goto 12, 3) := by decide +kernel
theorem dX8_spread_41 : decode cX8_spread 41 = .ok (.aload_n 0, 1) := by decide +kernel
theorem dX8_spread_42 : decode cX8_spread 42 = .ok (.getfield 64, 3) := by decide +kernel
theorem dX8_spread_45 : decode cX8_spread 45 = .ok (.iconst 0, 1) := by decide +kernel
theorem dX8_spread_46 : decode cX8_spread 46 = .ok (.iconst (-1), 1) := by decide +kernel
theorem dX8_spread_47 : decode cX8_spread 47 = .ok (.invokestatic 143, 3) := by decide +kernel
theorem dX8_spread_50 : decode cX8_spread 50 = .ok (.istore_n 2, 1) := by decide +kernel
theorem dX8_spread_51 : decode cX8_spread 51 = .ok (.iload_n 2, 1) := by decide +kernel
theorem dX8_spread_52 : decode cX8_spread 52 = .ok (.istore_n 3, 1) := by decide +kernel
theorem dX8_spread_53 : decode cX8_spread 53 = .ok (.iconst 0, 1) := by decide +kernel
theorem dX8_spread_54 : decode cX8_spread 54 = .ok (.istore 4, 2) := by decide +kernel
theorem dX8_spread_56 : decode cX8_spread 56 = .ok (.iload 4, 2) := by decide +kernel
theorem dX8_spread_58 : decode cX8_spread 58 = .ok (.aload_n 0, 1) := by decide +kernel
theorem dX8_spread_59 : decode cX8_spread 59 = .ok (.invokevirtual 132, 3) := by decide +kernel
theorem dX8_spread_62 : decode cX8_spread 62 = .ok (.if_icmp .ge 108, 3) := by decide +kernel
theorem dX8_spread_65 : decode cX8_spread 65 = .ok (.iconst 0, 1) := by decide +kernel
theorem dX8_spread_66 : decode cX8_spread 66 = .ok (.istore 5, 2) := by decide +kernel
theorem dX8_spread_68 : decode cX8_spread 68 = .ok (.iload 5, 2) := by decide +kernel
theorem dX8_spread_70 : decode cX8_spread 70 = .ok (.iload 4, 2) := by decide +kernel
theorem dX8_spread_72 : decode cX8_spread 72 = .ok (.if_icmp .gt 92, 3) := by decide +kernel
theorem dX8_spread_75 : decode cX8_spread 75 = .ok (.iload 4, 2) := by decide +kernel
theorem dX8_spread_77 : decode cX8_spread 77 = .ok (.iload 5, 2) := by decide +kernel
theorem dX8_spread_79 : decode cX8_spread 79 = .ok (.if_icmp .ne 7, 3) := by decide +kernel
theorem dX8_spread_82 : decode cX8_spread 82 = .ok (.iload_n 1, 1) := by decide +kernel
theorem dX8_spread_83 : decode cX8_spread 83 = .ok (.ifCond .eq 75, 3) := by decide +kernel
theorem dX8_spread_86 : decode cX8_spread 86 = .ok (.iload 4, 2) := by decide +kernel
theorem dX8_spread_88 : decode cX8_spread 88 = .ok (.iload 5, 2) := by decide +kernel
theorem dX8_spread_90 : decode cX8_spread 90 = .ok (.if_icmp .eq 11, 3) := by decide +kernel
theorem dX8_spread_93 : decode cX8_spread 93 = .ok (.iload_n 1, 1) := by decide +kernel
theorem dX8_spread_94 : decode cX8_spread 94 = .ok (.iconst 1, 1) := by decide +kernel
theorem dX8_spread_95 : decode cX8_spread 95 = .ok (.if_icmp .ne 6, 3) := by decide +kernel
theorem dX8_spread_98 : decode cX8_spread 98 = .ok (.goto 60, 3) := by decide +kernel
theorem dX8_spread_101 : decode cX8_spread 101 = .ok (.iload_n 1, 1) := by decide +kernel
theorem dX8_spread_102 : decode cX8_spread 102 = .ok (.ifCond .ne 18, 3) := by decide +kernel
theorem dX8_spread_105 : decode cX8_spread 105 = .ok (.aload_n 0, 1) := by decide +kernel
theorem dX8_spread_106 : decode cX8_spread 106 = .ok (.getfield 64, 3) := by decide +kernel
theorem dX8_spread_109 : decode cX8_spread 109 = .ok (.iload 4, 2) := by decide +kernel
theorem dX8_spread_111 : decode cX8_spread 111 = .ok (.iload 5, 2) := by decide +kernel
theorem dX8_spread_113 : decode cX8_spread 113 = .ok (.iconst (-1), 1) := by decide +kernel
theorem dX8_spread_114 : decode cX8_spread 114 = .ok (.invokestatic 147, 3) := by decide +kernel
theorem dX8_spread_117 : decode cX8_spread 117 = .ok (.goto 13, 3) := by decide +kernel
theorem dX8_spread_120 : decode cX8_spread 120 = .ok (.aload_n 0, 1) := by decide +kernel
theorem dX8_spread_121 : decode cX8_spread 121 = .ok (.getfield 64, 3) := by decide +kernel
theorem dX8_spread_124 : decode cX8_spread 124 = .ok (.iload 4, 2) := by decide +kernel
theorem dX8_spread_126 : decode cX8_spread 126 = .ok (.iconst (-1), 1) := by decide +kernel
theorem dX8_spread_127 : decode cX8_spread 127 = .ok (.invokestatic 143, 3) := by decide +kernel
theorem dX8_spread_130 : decode cX8_spread 130 = .ok (.istore 6, 2) := by decide +kernel
theorem dX8_spread_132 : decode cX8_spread 132 = .ok (.iload 6, 2) := by decide +kernel
theorem dX8_spread_134 : decode cX8_spread 134 = .ok (.iload_n 2, 1) := by decide +kernel
theorem dX8_spread_135 : decode cX8_spread 135 = .ok (.if_icmp .ge 8, 3) := by decide +kernel
theorem dX8_spread_138 : decode cX8_spread 138 = .ok (.iload 6, 2) := by decide +kernel
theorem dX8_spread_140 : decode cX8_spread 140 = .ok (.goto 4, 3) := by decide +kernel
theorem dX8_spread_143 : decode cX8_spread 143 = .ok (.iload_n 2, 1) := by decide +kernel
theorem dX8_spread_144 : decode cX8_spread 144 = .ok (.istore_n 2, 1) := by decide +kernel
theorem dX8_spread_145 : decode cX8_spread 145 = .ok (.iload 6, 2) := by decide +kernel
theorem dX8_spread_147 : decode cX8_spread 147 = .ok (.iload_n 3, 1) := by decide +kernel
theorem dX8_spread_148 : decode cX8_spread 148 = .ok (.if_icmp .le 8, 3) := by decide +kernel
theorem dX8_spread_151 : decode cX8_spread 151 = .ok (.iload 6, 2) := by decide +kernel
theorem dX8_spread_153 : decode cX8_spread 153 = .ok (.goto 4, 3) := by decide +kernel
theorem dX8_spread_156 : decode cX8_spread 156 = .ok (.iload_n 3, 1) := by decide +kernel
theorem dX8_spread_157 : decode cX8_spread 157 = .ok (.istore_n 3, 1) := by decide +kernel
theorem dX8_spread_158 : decode cX8_spread 158 = .ok (.iinc 5 1, 3) := by decide +kernel
theorem dX8_spread_161 : decode cX8_spread 161 = .ok (.goto (-93), 3) := by decide +kernel
theorem dX8_spread_164 : decode cX8_spread 164 = .ok (.iinc 4 1, 3) := by decide +kernel
theorem dX8_spread_167 : decode cX8_spread 167 = .ok (.goto (-111), 3) := by decide +kernel
theorem dX8_spread_170 : decode cX8_spread 170 = .ok (.iload_n 3, 1) := by decide +kernel
theorem dX8_spread_171 : decode cX8_spread 171 = .ok (.iload_n 2, 1) := by decide +kernel
theorem dX8_spread_172 : decode cX8_spread 172 = .ok (.isub, 1) := by decide +kernel
theorem dX8_spread_173 : decode cX8_spread 173 = .ok (.ireturn, 1) := by decide +kernel
theorem dX8_isLawful_0 : decode cX8_isLawful 0 = .ok (.iload_n 2, 1) := by decide +kernel
theorem dX8_isLawful_1 : decode cX8_isLawful 1 = .ok (.aload_n 0, 1) := by decide +kernel
theorem dX8_isLawful_2 : decode cX8_isLawful 2 = .ok (.bipush 47, 2) := by decide +kernel
theorem dX8_isLawful_4 : decode cX8_isLawful 4 = .ok (.iload_n 1, 1) := by decide +kernel
theorem dX8_isLawful_5 : decode cX8_isLawful 5 = .ok (.iadd, 1) := by decide +kernel
theorem dX8_isLawful_6 : decode cX8_isLawful 6 = .ok (.iaload, 1) := by decide +kernel
theorem dX8_isLawful_7 : decode cX8_isLawful 7 = .ok (.aload_n 0, 1) := by decide +kernel
theorem dX8_isLawful_8 : decode cX8_isLawful 8 = .ok (.bipush 17, 2) := by decide +kernel
theorem dX8_isLawful_10 : decode cX8_isLawful 10 = .ok (.iaload, 1) := by decide +kernel
theorem dX8_isLawful_11 : decode cX8_isLawful 11 = .ok (.ior, 1) := by decide +kernel
theorem dX8_isLawful_12 : decode cX8_isLawful 12 = .ok (.iand, 1) := by decide +kernel
theorem dX8_isLawful_13 : decode cX8_isLawful 13 = .ok (.ifCond .eq 5, 3) := by decide +kernel
theorem dX8_isLawful_16 : decode cX8_isLawful 16 = .ok (.iconst 0, 1) := by decide +kernel
theorem dX8_isLawful_17 : decode cX8_isLawful 17 = .ok (.ireturn, 1) := by decide +kernel
theorem dX8_isLawful_18 : decode cX8_isLawful 18 = .ok (.iconst 0, 1) := by decide +kernel
theorem dX8_isLawful_19 : decode cX8_isLawful 19 = .ok (.istore_n 3, 1) := by decide +kernel
theorem dX8_isLawful_20 : decode cX8_isLawful 20 = .ok (.iload_n 3, 1) := by decide +kernel
theorem dX8_isLawful_21 : decode cX8_isLawful 21 = .ok (.aload_n 0, 1) := by decide +kernel
theorem dX8_isLawful_22 : decode cX8_isLawful 22 = .ok (.bipush 7, 2) := by decide +kernel
theorem dX8_isLawful_24 : decode cX8_isLawful 24 = .ok (.iaload, 1) := by decide +kernel
theorem dX8_isLawful_25 : decode cX8_isLawful 25 = .ok (.if_icmp .ge 32, 3) := by decide +kernel
theorem dX8_isLawful_28 : decode cX8_isLawful 28 = .ok (.iload_n 2, 1) := by decide +kernel
theorem dX8_isLawful_29 : decode cX8_isLawful 29 = .ok (.iload_n 3, 1) := by decide +kernel
theorem dX8_isLawful_30 : decode cX8_isLawful 30 = .ok (.invokestatic 105, 3) := by decide +kernel
theorem dX8_isLawful_33 : decode cX8_isLawful 33 = .ok (.ifCond .eq 18, 3) := by decide +kernel
theorem dX8_isLawful_36 : decode cX8_isLawful 36 = .ok (.aload_n 0, 1) := by decide +kernel
theorem dX8_isLawful_37 : decode cX8_isLawful 37 = .ok (.bipush 8, 2) := by decide +kernel
theorem dX8_isLawful_39 : decode cX8_isLawful 39 = .ok (.iload_n 3, 1) := by decide +kernel
theorem dX8_isLawful_40 : decode cX8_isLawful 40 = .ok (.iadd, 1) := by decide +kernel
theorem dX8_isLawful_41 : decode cX8_isLawful 41 = .ok (.iaload, 1) := by decide +kernel
theorem dX8_isLawful_42 : decode cX8_isLawful 42 = .ok (.aload_n 0, 1) := by decide +kernel
theorem dX8_isLawful_43 : decode cX8_isLawful 43 = .ok (.bipush 6, 2) := by decide +kernel
theorem dX8_isLawful_45 : decode cX8_isLawful 45 = .ok (.iaload, 1) := by decide +kernel
theorem dX8_isLawful_46 : decode cX8_isLawful 46 = .ok (.if_icmp .lt 5, 3) := by decide +kernel
theorem dX8_isLawful_49 : decode cX8_isLawful 49 = .ok (.iconst 1, 1) := by decide +kernel
theorem dX8_isLawful_50 : decode cX8_isLawful 50 = .ok (.ireturn, 1) := by decide +kernel
theorem dX8_isLawful_51 : decode cX8_isLawful 51 = .ok (.iinc 3 1, 3) := by decide +kernel
theorem dX8_isLawful_54 : decode cX8_isLawful 54 = .ok (.goto (-34), 3) := by decide +kernel
theorem dX8_isLawful_57 : decode cX8_isLawful 57 = .ok (.iconst 0, 1) := by decide +kernel
theorem dX8_isLawful_58 : decode cX8_isLawful 58 = .ok (.ireturn, 1) := by decide +kernel
theorem dX8_laysBenches_0 : decode cX8_laysBenches 0 = .ok (.aload_n 0, 1) := by decide +kernel
theorem dX8_laysBenches_1 : decode cX8_laysBenches 1 = .ok (.iconst 0, 1) := by decide +kernel
theorem dX8_laysBenches_2 : decode cX8_laysBenches 2 = .ok (.putfield 167, 3) := by decide +kernel
theorem dX8_laysBenches_5 : decode cX8_laysBenches 5 = .ok (.iconst 0, 1) := by decide +kernel
theorem dX8_laysBenches_6 : decode cX8_laysBenches 6 = .ok (.istore_n 3, 1) := by decide +kernel
theorem dX8_laysBenches_7 : decode cX8_laysBenches 7 = .ok (.iload_n 3, 1) := by decide +kernel
theorem dX8_laysBenches_8 : decode cX8_laysBenches 8 = .ok (.aload_n 1, 1) := by decide +kernel
theorem dX8_laysBenches_9 : decode cX8_laysBenches 9 = .ok (.bipush 7, 2) := by decide +kernel
theorem dX8_laysBenches_11 : decode cX8_laysBenches 11 = .ok (.iaload, 1) := by decide +kernel
theorem dX8_laysBenches_12 : decode cX8_laysBenches 12 = .ok (.if_icmp .ge 99, 3) := by decide +kernel
theorem dX8_laysBenches_15 : decode cX8_laysBenches 15 = .ok (.iload_n 3, 1) := by decide +kernel
theorem dX8_laysBenches_16 : decode cX8_laysBenches 16 = .ok (.iconst 1, 1) := by decide +kernel
theorem dX8_laysBenches_17 : decode cX8_laysBenches 17 = .ok (.iadd, 1) := by decide +kernel
theorem dX8_laysBenches_18 : decode cX8_laysBenches 18 = .ok (.istore 4, 2) := by decide +kernel
theorem dX8_laysBenches_20 : decode cX8_laysBenches 20 = .ok (.iload 4, 2) := by decide +kernel
theorem dX8_laysBenches_22 : decode cX8_laysBenches 22 = .ok (.aload_n 1, 1) := by decide +kernel
theorem dX8_laysBenches_23 : decode cX8_laysBenches 23 = .ok (.bipush 7, 2) := by decide +kernel
theorem dX8_laysBenches_25 : decode cX8_laysBenches 25 = .ok (.iaload, 1) := by decide +kernel
theorem dX8_laysBenches_26 : decode cX8_laysBenches 26 = .ok (.if_icmp .ge 79, 3) := by decide +kernel
theorem dX8_laysBenches_29 : decode cX8_laysBenches 29 = .ok (.iload 4, 2) := by decide +kernel
theorem dX8_laysBenches_31 : decode cX8_laysBenches 31 = .ok (.iconst 1, 1) := by decide +kernel
theorem dX8_laysBenches_32 : decode cX8_laysBenches 32 = .ok (.iadd, 1) := by decide +kernel
theorem dX8_laysBenches_33 : decode cX8_laysBenches 33 = .ok (.istore 5, 2) := by decide +kernel
theorem dX8_laysBenches_35 : decode cX8_laysBenches 35 = .ok (.iload 5, 2) := by decide +kernel
theorem dX8_laysBenches_37 : decode cX8_laysBenches 37 = .ok (.aload_n 1, 1) := by decide +kernel
theorem dX8_laysBenches_38 : decode cX8_laysBenches 38 = .ok (.bipush 7, 2) := by decide +kernel
theorem dX8_laysBenches_40 : decode cX8_laysBenches 40 = .ok (.iaload, 1) := by decide +kernel
theorem dX8_laysBenches_41 : decode cX8_laysBenches 41 = .ok (.if_icmp .ge 58, 3) := by decide +kernel
theorem dX8_laysBenches_44 : decode cX8_laysBenches 44 = .ok (.iconst 1, 1) := by decide +kernel
theorem dX8_laysBenches_45 : decode cX8_laysBenches 45 = .ok (.iload_n 3, 1) := by decide +kernel
theorem dX8_laysBenches_46 : decode cX8_laysBenches 46 = .ok (.ishl, 1) := by decide +kernel
theorem dX8_laysBenches_47 : decode cX8_laysBenches 47 = .ok (.iconst 1, 1) := by decide +kernel
theorem dX8_laysBenches_48 : decode cX8_laysBenches 48 = .ok (.iload 4, 2) := by decide +kernel
theorem dX8_laysBenches_50 : decode cX8_laysBenches 50 = .ok (.ishl, 1) := by decide +kernel
theorem dX8_laysBenches_51 : decode cX8_laysBenches 51 = .ok (.ior, 1) := by decide +kernel
theorem dX8_laysBenches_52 : decode cX8_laysBenches 52 = .ok (.iconst 1, 1) := by decide +kernel
theorem dX8_laysBenches_53 : decode cX8_laysBenches 53 = .ok (.iload 5, 2) := by decide +kernel
theorem dX8_laysBenches_55 : decode cX8_laysBenches 55 = .ok (.ishl, 1) := by decide +kernel
theorem dX8_laysBenches_56 : decode cX8_laysBenches 56 = .ok (.ior, 1) := by decide +kernel
theorem dX8_laysBenches_57 : decode cX8_laysBenches 57 = .ok (.istore 6, 2) := by decide +kernel
theorem dX8_laysBenches_59 : decode cX8_laysBenches 59 = .ok (.aload_n 1, 1) := by decide +kernel
theorem dX8_laysBenches_60 : decode cX8_laysBenches 60 = .ok (.iload_n 2, 1) := by decide +kernel
theorem dX8_laysBenches_61 : decode cX8_laysBenches 61 = .ok (.iload 6, 2) := by decide +kernel
theorem dX8_laysBenches_63 : decode cX8_laysBenches 63 = .ok (.invokestatic 170, 3) := by decide +kernel
theorem dX8_laysBenches_66 : decode cX8_laysBenches 66 = .ok (.ifCond .ne 6, 3) := by decide +kernel
theorem dX8_laysBenches_69 : decode cX8_laysBenches 69 = .ok (.goto 24, 3) := by decide +kernel
theorem dX8_laysBenches_72 : decode cX8_laysBenches 72 = .ok (.aload_n 0, 1) := by decide +kernel
theorem dX8_laysBenches_73 : decode cX8_laysBenches 73 = .ok (.getfield 82, 3) := by decide +kernel
theorem dX8_laysBenches_76 : decode cX8_laysBenches 76 = .ok (.aload_n 0, 1) := by decide +kernel
theorem dX8_laysBenches_77 : decode cX8_laysBenches 77 = .ok (.getfield 167, 3) := by decide +kernel
theorem dX8_laysBenches_80 : decode cX8_laysBenches 80 = .ok (.iload 6, 2) := by decide +kernel
theorem dX8_laysBenches_82 : decode cX8_laysBenches 82 = .ok (.iastore, 1) := by decide +kernel
theorem dX8_laysBenches_83 : decode cX8_laysBenches 83 = .ok (.aload_n 0, 1) := by decide +kernel
theorem dX8_laysBenches_84 : decode cX8_laysBenches 84 = .ok (.dup, 1) := by decide +kernel
theorem dX8_laysBenches_85 : decode cX8_laysBenches 85 = .ok (.getfield 167, 3) := by decide +kernel
theorem dX8_laysBenches_88 : decode cX8_laysBenches 88 = .ok (.iconst 1, 1) := by decide +kernel
theorem dX8_laysBenches_89 : decode cX8_laysBenches 89 = .ok (.iadd, 1) := by decide +kernel
theorem dX8_laysBenches_90 : decode cX8_laysBenches 90 = .ok (.putfield 167, 3) := by decide +kernel
theorem dX8_laysBenches_93 : decode cX8_laysBenches 93 = .ok (.iinc 5 1, 3) := by decide +kernel
theorem dX8_laysBenches_96 : decode cX8_laysBenches 96 = .ok (.goto (-61), 3) := by decide +kernel
theorem dX8_laysBenches_99 : decode cX8_laysBenches 99 = .ok (.iinc 4 1, 3) := by decide +kernel
theorem dX8_laysBenches_102 : decode cX8_laysBenches 102 = .ok (.goto (-82), 3) := by decide +kernel
theorem dX8_laysBenches_105 : decode cX8_laysBenches 105 = .ok (.iinc 3 1, 3) := by decide +kernel
theorem dX8_laysBenches_108 : decode cX8_laysBenches 108 = .ok (.goto (-101), 3) := by decide +kernel
theorem dX8_laysBenches_111 : decode cX8_laysBenches 111 = .ok (.return_, 1) := by decide +kernel
theorem dX8_laysPool_0 : decode cX8_laysPool 0 = .ok (.aload_n 0, 1) := by decide +kernel
theorem dX8_laysPool_1 : decode cX8_laysPool 1 = .ok (.aload_n 1, 1) := by decide +kernel
theorem dX8_laysPool_2 : decode cX8_laysPool 2 = .ok (.iload_n 2, 1) := by decide +kernel
theorem dX8_laysPool_3 : decode cX8_laysPool 3 = .ok (.invokevirtual 174, 3) := by decide +kernel
theorem dX8_laysPool_6 : decode cX8_laysPool 6 = .ok (.aload_n 0, 1) := by decide +kernel
theorem dX8_laysPool_7 : decode cX8_laysPool 7 = .ok (.iconst 0, 1) := by decide +kernel
theorem dX8_laysPool_8 : decode cX8_laysPool 8 = .ok (.putfield 178, 3) := by decide +kernel
theorem dX8_laysPool_11 : decode cX8_laysPool 11 = .ok (.aload_n 0, 1) := by decide +kernel
theorem dX8_laysPool_12 : decode cX8_laysPool 12 = .ok (.iconst (-1), 1) := by decide +kernel
theorem dX8_laysPool_13 : decode cX8_laysPool 13 = .ok (.putfield 181, 3) := by decide +kernel
theorem dX8_laysPool_16 : decode cX8_laysPool 16 = .ok (.aload_n 0, 1) := by decide +kernel
theorem dX8_laysPool_17 : decode cX8_laysPool 17 = .ok (.getfield 178, 3) := by decide +kernel
theorem dX8_laysPool_20 : decode cX8_laysPool 20 = .ok (.aload_n 1, 1) := by decide +kernel
theorem dX8_laysPool_21 : decode cX8_laysPool 21 = .ok (.iconst 0, 1) := by decide +kernel
theorem dX8_laysPool_22 : decode cX8_laysPool 22 = .ok (.iaload, 1) := by decide +kernel
theorem dX8_laysPool_23 : decode cX8_laysPool 23 = .ok (.if_icmp .ge 150, 3) := by decide +kernel
theorem dX8_laysPool_26 : decode cX8_laysPool 26 = .ok (.aload_n 0, 1) := by decide +kernel
theorem dX8_laysPool_27 : decode cX8_laysPool 27 = .ok (.getfield 178, 3) := by decide +kernel
theorem dX8_laysPool_30 : decode cX8_laysPool 30 = .ok (.aload_n 0, 1) := by decide +kernel
theorem dX8_laysPool_31 : decode cX8_laysPool 31 = .ok (.getfield 167, 3) := by decide +kernel
theorem dX8_laysPool_34 : decode cX8_laysPool 34 = .ok (.if_icmp .ge 139, 3) := by decide +kernel
theorem dX8_laysPool_37 : decode cX8_laysPool 37 = .ok (.iconst (-1), 1) := by decide +kernel
theorem dX8_laysPool_38 : decode cX8_laysPool 38 = .ok (.istore_n 3, 1) := by decide +kernel
theorem dX8_laysPool_39 : decode cX8_laysPool 39 = .ok (.iconst 0, 1) := by decide +kernel
theorem dX8_laysPool_40 : decode cX8_laysPool 40 = .ok (.istore 4, 2) := by decide +kernel
theorem dX8_laysPool_42 : decode cX8_laysPool 42 = .ok (.iload 4, 2) := by decide +kernel
theorem dX8_laysPool_44 : decode cX8_laysPool 44 = .ok (.aload_n 0, 1) := by decide +kernel
theorem dX8_laysPool_45 : decode cX8_laysPool 45 = .ok (.getfield 167, 3) := by decide +kernel
theorem dX8_laysPool_48 : decode cX8_laysPool 48 = .ok (.if_icmp .ge 46, 3) := by decide +kernel
theorem dX8_laysPool_51 : decode cX8_laysPool 51 = .ok (.aload_n 1, 1) := by decide +kernel
theorem dX8_laysPool_52 : decode cX8_laysPool 52 = .ok (.iload_n 2, 1) := by decide +kernel
theorem dX8_laysPool_53 : decode cX8_laysPool 53 = .ok (.aload_n 0, 1) := by decide +kernel
theorem dX8_laysPool_54 : decode cX8_laysPool 54 = .ok (.getfield 82, 3) := by decide +kernel
theorem dX8_laysPool_57 : decode cX8_laysPool 57 = .ok (.iload 4, 2) := by decide +kernel
theorem dX8_laysPool_59 : decode cX8_laysPool 59 = .ok (.iaload, 1) := by decide +kernel
theorem dX8_laysPool_60 : decode cX8_laysPool 60 = .ok (.invokestatic 184, 3) := by decide +kernel
theorem dX8_laysPool_63 : decode cX8_laysPool 63 = .ok (.istore 5, 2) := by decide +kernel
theorem dX8_laysPool_65 : decode cX8_laysPool 65 = .ok (.iload 5, 2) := by decide +kernel
theorem dX8_laysPool_67 : decode cX8_laysPool 67 = .ok (.aload_n 0, 1) := by decide +kernel
theorem dX8_laysPool_68 : decode cX8_laysPool 68 = .ok (.getfield 181, 3) := by decide +kernel
theorem dX8_laysPool_71 : decode cX8_laysPool 71 = .ok (.if_icmp .le 17, 3) := by decide +kernel
theorem dX8_laysPool_74 : decode cX8_laysPool 74 = .ok (.iload_n 3, 1) := by decide +kernel
theorem dX8_laysPool_75 : decode cX8_laysPool 75 = .ok (.iconst (-1), 1) := by decide +kernel
theorem dX8_laysPool_76 : decode cX8_laysPool 76 = .ok (.if_icmp .eq 9, 3) := by decide +kernel
theorem dX8_laysPool_79 : decode cX8_laysPool 79 = .ok (.iload 5, 2) := by decide +kernel
theorem dX8_laysPool_81 : decode cX8_laysPool 81 = .ok (.iload_n 3, 1) := by decide +kernel
theorem dX8_laysPool_82 : decode cX8_laysPool 82 = .ok (.if_icmp .ge 6, 3) := by decide +kernel
theorem dX8_laysPool_85 : decode cX8_laysPool 85 = .ok (.iload 5, 2) := by decide +kernel
theorem dX8_laysPool_87 : decode cX8_laysPool 87 = .ok (.istore_n 3, 1) := by decide +kernel
theorem dX8_laysPool_88 : decode cX8_laysPool 88 = .ok (.iinc 4 1, 3) := by decide +kernel
theorem dX8_laysPool_91 : decode cX8_laysPool 91 = .ok (.goto (-49), 3) := by decide +kernel
theorem dX8_laysPool_94 : decode cX8_laysPool 94 = .ok (.aload_n 0, 1) := by decide +kernel
theorem dX8_laysPool_95 : decode cX8_laysPool 95 = .ok (.iload_n 3, 1) := by decide +kernel
theorem dX8_laysPool_96 : decode cX8_laysPool 96 = .ok (.putfield 181, 3) := by decide +kernel
theorem dX8_laysPool_99 : decode cX8_laysPool 99 = .ok (.aload_n 0, 1) := by decide +kernel
theorem dX8_laysPool_100 : decode cX8_laysPool 100 = .ok (.iconst 0, 1) := by decide +kernel
theorem dX8_laysPool_101 : decode cX8_laysPool 101 = .ok (.putfield 178, 3) := by decide +kernel
theorem dX8_laysPool_104 : decode cX8_laysPool 104 = .ok (.iconst 0, 1) := by decide +kernel
theorem dX8_laysPool_105 : decode cX8_laysPool 105 = .ok (.istore 4, 2) := by decide +kernel
theorem dX8_laysPool_107 : decode cX8_laysPool 107 = .ok (.iload 4, 2) := by decide +kernel
theorem dX8_laysPool_109 : decode cX8_laysPool 109 = .ok (.aload_n 0, 1) := by decide +kernel
theorem dX8_laysPool_110 : decode cX8_laysPool 110 = .ok (.getfield 167, 3) := by decide +kernel
theorem dX8_laysPool_113 : decode cX8_laysPool 113 = .ok (.if_icmp .ge 57, 3) := by decide +kernel
theorem dX8_laysPool_116 : decode cX8_laysPool 116 = .ok (.aload_n 1, 1) := by decide +kernel
theorem dX8_laysPool_117 : decode cX8_laysPool 117 = .ok (.iload_n 2, 1) := by decide +kernel
theorem dX8_laysPool_118 : decode cX8_laysPool 118 = .ok (.aload_n 0, 1) := by decide +kernel
theorem dX8_laysPool_119 : decode cX8_laysPool 119 = .ok (.getfield 82, 3) := by decide +kernel
theorem dX8_laysPool_122 : decode cX8_laysPool 122 = .ok (.iload 4, 2) := by decide +kernel
theorem dX8_laysPool_124 : decode cX8_laysPool 124 = .ok (.iaload, 1) := by decide +kernel
theorem dX8_laysPool_125 : decode cX8_laysPool 125 = .ok (.invokestatic 184, 3) := by decide +kernel
theorem dX8_laysPool_128 : decode cX8_laysPool 128 = .ok (.aload_n 0, 1) := by decide +kernel
theorem dX8_laysPool_129 : decode cX8_laysPool 129 = .ok (.getfield 181, 3) := by decide +kernel
theorem dX8_laysPool_132 : decode cX8_laysPool 132 = .ok (.if_icmp .le 6, 3) := by decide +kernel
theorem dX8_laysPool_135 : decode cX8_laysPool 135 = .ok (.goto 29, 3) := by decide +kernel
theorem dX8_laysPool_138 : decode cX8_laysPool 138 = .ok (.aload_n 0, 1) := by decide +kernel
theorem dX8_laysPool_139 : decode cX8_laysPool 139 = .ok (.getfield 85, 3) := by decide +kernel
theorem dX8_laysPool_142 : decode cX8_laysPool 142 = .ok (.aload_n 0, 1) := by decide +kernel
theorem dX8_laysPool_143 : decode cX8_laysPool 143 = .ok (.getfield 178, 3) := by decide +kernel
theorem dX8_laysPool_146 : decode cX8_laysPool 146 = .ok (.aload_n 0, 1) := by decide +kernel
theorem dX8_laysPool_147 : decode cX8_laysPool 147 = .ok (.getfield 82, 3) := by decide +kernel
theorem dX8_laysPool_150 : decode cX8_laysPool 150 = .ok (.iload 4, 2) := by decide +kernel
theorem dX8_laysPool_152 : decode cX8_laysPool 152 = .ok (.iaload, 1) := by decide +kernel
theorem dX8_laysPool_153 : decode cX8_laysPool 153 = .ok (.iastore, 1) := by decide +kernel
theorem dX8_laysPool_154 : decode cX8_laysPool 154 = .ok (.aload_n 0, 1) := by decide +kernel
theorem dX8_laysPool_155 : decode cX8_laysPool 155 = .ok (.dup, 1) := by decide +kernel
theorem dX8_laysPool_156 : decode cX8_laysPool 156 = .ok (.getfield 178, 3) := by decide +kernel
theorem dX8_laysPool_159 : decode cX8_laysPool 159 = .ok (.iconst 1, 1) := by decide +kernel
theorem dX8_laysPool_160 : decode cX8_laysPool 160 = .ok (.iadd, 1) := by decide +kernel
theorem dX8_laysPool_161 : decode cX8_laysPool 161 = .ok (.putfield 178, 3) := by decide +kernel
theorem dX8_laysPool_164 : decode cX8_laysPool 164 = .ok (.iinc 4 1, 3) := by decide +kernel
theorem dX8_laysPool_167 : decode cX8_laysPool 167 = .ok (.goto (-60), 3) := by decide +kernel
theorem dX8_laysPool_170 : decode cX8_laysPool 170 = .ok (.goto (-154), 3) := by decide +kernel
theorem dX8_laysPool_173 : decode cX8_laysPool 173 = .ok (.return_, 1) := by decide +kernel
theorem dX8_lawful_0 : decode cX8_lawful 0 = .ok (.aload_n 0, 1) := by decide +kernel
theorem dX8_lawful_1 : decode cX8_lawful 1 = .ok (.iconst 0, 1) := by decide +kernel
theorem dX8_lawful_2 : decode cX8_lawful 2 = .ok (.putfield 1, 3) := by decide +kernel
theorem dX8_lawful_5 : decode cX8_lawful 5 = .ok (.aload_n 0, 1) := by decide +kernel
theorem dX8_lawful_6 : decode cX8_lawful 6 = .ok (.iload_n 1, 1) := by decide +kernel
theorem dX8_lawful_7 : decode cX8_lawful 7 = .ok (.invokevirtual 164, 3) := by decide +kernel
theorem dX8_lawful_10 : decode cX8_lawful 10 = .ok (.ifCond .ne 5, 3) := by decide +kernel
theorem dX8_lawful_13 : decode cX8_lawful 13 = .ok (.iconst (-1), 1) := by decide +kernel
theorem dX8_lawful_14 : decode cX8_lawful 14 = .ok (.ireturn, 1) := by decide +kernel
theorem dX8_lawful_15 : decode cX8_lawful 15 = .ok (.aload_n 0, 1) := by decide +kernel
theorem dX8_lawful_16 : decode cX8_lawful 16 = .ok (.aload_n 0, 1) := by decide +kernel
theorem dX8_lawful_17 : decode cX8_lawful 17 = .ok (.getfield 64, 3) := by decide +kernel
theorem dX8_lawful_20 : decode cX8_lawful 20 = .ok (.iload_n 1, 1) := by decide +kernel
theorem dX8_lawful_21 : decode cX8_lawful 21 = .ok (.invokevirtual 174, 3) := by decide +kernel
theorem dX8_lawful_24 : decode cX8_lawful 24 = .ok (.aload_n 0, 1) := by decide +kernel
theorem dX8_lawful_25 : decode cX8_lawful 25 = .ok (.getfield 167, 3) := by decide +kernel
theorem dX8_lawful_28 : decode cX8_lawful 28 = .ok (.ireturn, 1) := by decide +kernel
theorem dX8_bench_0 : decode cX8_bench 0 = .ok (.aload_n 0, 1) := by decide +kernel
theorem dX8_bench_1 : decode cX8_bench 1 = .ok (.iconst 0, 1) := by decide +kernel
theorem dX8_bench_2 : decode cX8_bench 2 = .ok (.putfield 1, 3) := by decide +kernel
theorem dX8_bench_5 : decode cX8_bench 5 = .ok (.aload_n 0, 1) := by decide +kernel
theorem dX8_bench_6 : decode cX8_bench 6 = .ok (.iload_n 1, 1) := by decide +kernel
theorem dX8_bench_7 : decode cX8_bench 7 = .ok (.invokevirtual 164, 3) := by decide +kernel
theorem dX8_bench_10 : decode cX8_bench 10 = .ok (.ifCond .ne 5, 3) := by decide +kernel
theorem dX8_bench_13 : decode cX8_bench 13 = .ok (.iconst (-1), 1) := by decide +kernel
theorem dX8_bench_14 : decode cX8_bench 14 = .ok (.ireturn, 1) := by decide +kernel
theorem dX8_bench_15 : decode cX8_bench 15 = .ok (.aload_n 0, 1) := by decide +kernel
theorem dX8_bench_16 : decode cX8_bench 16 = .ok (.aload_n 0, 1) := by decide +kernel
theorem dX8_bench_17 : decode cX8_bench 17 = .ok (.getfield 64, 3) := by decide +kernel
theorem dX8_bench_20 : decode cX8_bench 20 = .ok (.iload_n 1, 1) := by decide +kernel
theorem dX8_bench_21 : decode cX8_bench 21 = .ok (.invokevirtual 174, 3) := by decide +kernel
theorem dX8_bench_24 : decode cX8_bench 24 = .ok (.iload_n 2, 1) := by decide +kernel
theorem dX8_bench_25 : decode cX8_bench 25 = .ok (.iconst 0, 1) := by decide +kernel
theorem dX8_bench_26 : decode cX8_bench 26 = .ok (.aload_n 0, 1) := by decide +kernel
theorem dX8_bench_27 : decode cX8_bench 27 = .ok (.getfield 167, 3) := by decide +kernel
theorem dX8_bench_30 : decode cX8_bench 30 = .ok (.iconst 1, 1) := by decide +kernel
theorem dX8_bench_31 : decode cX8_bench 31 = .ok (.isub, 1) := by decide +kernel
theorem dX8_bench_32 : decode cX8_bench 32 = .ok (.invokestatic 91, 3) := by decide +kernel
theorem dX8_bench_35 : decode cX8_bench 35 = .ok (.ifCond .eq 12, 3) := by decide +kernel
theorem dX8_bench_38 : decode cX8_bench 38 = .ok (.aload_n 0, 1) := by decide +kernel
theorem dX8_bench_39 : decode cX8_bench 39 = .ok (.getfield 82, 3) := by decide +kernel
theorem dX8_bench_42 : decode cX8_bench 42 = .ok (.iload_n 2, 1) := by decide +kernel
theorem dX8_bench_43 : decode cX8_bench 43 = .ok (.iaload, 1) := by decide +kernel
theorem dX8_bench_44 : decode cX8_bench 44 = .ok (.goto 4, 3) := by decide +kernel
theorem dX8_bench_47 : decode cX8_bench 47 = .ok (.iconst (-1), 1) := by decide +kernel
theorem dX8_bench_48 : decode cX8_bench 48 = .ok (.ireturn, 1) := by decide +kernel
theorem dX8_rank_0 : decode cX8_rank 0 = .ok (.aload_n 0, 1) := by decide +kernel
theorem dX8_rank_1 : decode cX8_rank 1 = .ok (.iconst 0, 1) := by decide +kernel
theorem dX8_rank_2 : decode cX8_rank 2 = .ok (.putfield 1, 3) := by decide +kernel
theorem dX8_rank_5 : decode cX8_rank 5 = .ok (.aload_n 0, 1) := by decide +kernel
theorem dX8_rank_6 : decode cX8_rank 6 = .ok (.iload_n 1, 1) := by decide +kernel
theorem dX8_rank_7 : decode cX8_rank 7 = .ok (.invokevirtual 164, 3) := by decide +kernel
theorem dX8_rank_10 : decode cX8_rank 10 = .ok (.ifCond .ne 5, 3) := by decide +kernel
theorem dX8_rank_13 : decode cX8_rank 13 = .ok (.iconst (-1), 1) := by decide +kernel
theorem dX8_rank_14 : decode cX8_rank 14 = .ok (.ireturn, 1) := by decide +kernel
theorem dX8_rank_15 : decode cX8_rank 15 = .ok (.aload_n 0, 1) := by decide +kernel
theorem dX8_rank_16 : decode cX8_rank 16 = .ok (.aload_n 0, 1) := by decide +kernel
theorem dX8_rank_17 : decode cX8_rank 17 = .ok (.getfield 64, 3) := by decide +kernel
theorem dX8_rank_20 : decode cX8_rank 20 = .ok (.iload_n 1, 1) := by decide +kernel
theorem dX8_rank_21 : decode cX8_rank 21 = .ok (.invokevirtual 174, 3) := by decide +kernel
theorem dX8_rank_24 : decode cX8_rank 24 = .ok (.iconst 0, 1) := by decide +kernel
theorem dX8_rank_25 : decode cX8_rank 25 = .ok (.istore_n 3, 1) := by decide +kernel
theorem dX8_rank_26 : decode cX8_rank 26 = .ok (.iload_n 3, 1) := by decide +kernel
theorem dX8_rank_27 : decode cX8_rank 27 = .ok (.aload_n 0, 1) := by decide +kernel
theorem dX8_rank_28 : decode cX8_rank 28 = .ok (.getfield 167, 3) := by decide +kernel
theorem dX8_rank_31 : decode cX8_rank 31 = .ok (.if_icmp .ge 21, 3) := by decide +kernel
theorem dX8_rank_34 : decode cX8_rank 34 = .ok (.aload_n 0, 1) := by decide +kernel
theorem dX8_rank_35 : decode cX8_rank 35 = .ok (.getfield 82, 3) := by decide +kernel
theorem dX8_rank_38 : decode cX8_rank 38 = .ok (.iload_n 3, 1) := by decide +kernel
theorem dX8_rank_39 : decode cX8_rank 39 = .ok (.iaload, 1) := by decide +kernel
theorem dX8_rank_40 : decode cX8_rank 40 = .ok (.iload_n 2, 1) := by decide +kernel
theorem dX8_rank_41 : decode cX8_rank 41 = .ok (.if_icmp .ne 5, 3) := by decide +kernel
theorem dX8_rank_44 : decode cX8_rank 44 = .ok (.iload_n 3, 1) := by decide +kernel
theorem dX8_rank_45 : decode cX8_rank 45 = .ok (.ireturn, 1) := by decide +kernel
theorem dX8_rank_46 : decode cX8_rank 46 = .ok (.iinc 3 1, 3) := by decide +kernel
theorem dX8_rank_49 : decode cX8_rank 49 = .ok (.goto (-23), 3) := by decide +kernel
theorem dX8_rank_52 : decode cX8_rank 52 = .ok (.iconst (-1), 1) := by decide +kernel
theorem dX8_rank_53 : decode cX8_rank 53 = .ok (.ireturn, 1) := by decide +kernel
theorem dX8_tension_0 : decode cX8_tension 0 = .ok (.aload_n 0, 1) := by decide +kernel
theorem dX8_tension_1 : decode cX8_tension 1 = .ok (.iconst 0, 1) := by decide +kernel
theorem dX8_tension_2 : decode cX8_tension 2 = .ok (.putfield 1, 3) := by decide +kernel
theorem dX8_tension_5 : decode cX8_tension 5 = .ok (.aload_n 0, 1) := by decide +kernel
theorem dX8_tension_6 : decode cX8_tension 6 = .ok (.iload_n 1, 1) := by decide +kernel
theorem dX8_tension_7 : decode cX8_tension 7 = .ok (.invokevirtual 164, 3) := by decide +kernel
theorem dX8_tension_10 : decode cX8_tension 10 = .ok (.ifCond .eq 25, 3) := by decide +kernel
theorem dX8_tension_13 : decode cX8_tension 13 = .ok (.iload_n 2, 1) := by decide +kernel
theorem dX8_tension_14 : decode cX8_tension 14 = .ok (.ifCond .lt 21, 3) := by decide +kernel
theorem dX8_tension_17 : decode cX8_tension 17 = .ok (.iload_n 2, 1) := by decide +kernel
theorem dX8_tension_18 : decode cX8_tension 18 = .ok (.iconst 1, 1) := by decide +kernel
theorem dX8_tension_19 : decode cX8_tension 19 = .ok (.aload_n 0, 1) := by decide +kernel
theorem dX8_tension_20 : decode cX8_tension 20 = .ok (.invokevirtual 132, 3) := by decide +kernel
theorem dX8_tension_23 : decode cX8_tension 23 = .ok (.ishl, 1) := by decide +kernel
theorem dX8_tension_24 : decode cX8_tension 24 = .ok (.if_icmp .ge 11, 3) := by decide +kernel
theorem dX8_tension_27 : decode cX8_tension 27 = .ok (.iload_n 2, 1) := by decide +kernel
theorem dX8_tension_28 : decode cX8_tension 28 = .ok (.invokestatic 187, 3) := by decide +kernel
theorem dX8_tension_31 : decode cX8_tension 31 = .ok (.iconst 3, 1) := by decide +kernel
theorem dX8_tension_32 : decode cX8_tension 32 = .ok (.if_icmp .eq 5, 3) := by decide +kernel
theorem dX8_tension_35 : decode cX8_tension 35 = .ok (.iconst (-1), 1) := by decide +kernel
theorem dX8_tension_36 : decode cX8_tension 36 = .ok (.ireturn, 1) := by decide +kernel
theorem dX8_tension_37 : decode cX8_tension 37 = .ok (.aload_n 0, 1) := by decide +kernel
theorem dX8_tension_38 : decode cX8_tension 38 = .ok (.getfield 64, 3) := by decide +kernel
theorem dX8_tension_41 : decode cX8_tension 41 = .ok (.iload_n 1, 1) := by decide +kernel
theorem dX8_tension_42 : decode cX8_tension 42 = .ok (.iload_n 2, 1) := by decide +kernel
theorem dX8_tension_43 : decode cX8_tension 43 = .ok (.invokestatic 184, 3) := by decide +kernel
theorem dX8_tension_46 : decode cX8_tension 46 = .ok (.ireturn, 1) := by decide +kernel
theorem dX8_pool_0 : decode cX8_pool 0 = .ok (.aload_n 0, 1) := by decide +kernel
theorem dX8_pool_1 : decode cX8_pool 1 = .ok (.iconst 0, 1) := by decide +kernel
theorem dX8_pool_2 : decode cX8_pool 2 = .ok (.putfield 1, 3) := by decide +kernel
theorem dX8_pool_5 : decode cX8_pool 5 = .ok (.aload_n 0, 1) := by decide +kernel
theorem dX8_pool_6 : decode cX8_pool 6 = .ok (.iload_n 1, 1) := by decide +kernel
theorem dX8_pool_7 : decode cX8_pool 7 = .ok (.invokevirtual 164, 3) := by decide +kernel
theorem dX8_pool_10 : decode cX8_pool 10 = .ok (.ifCond .ne 5, 3) := by decide +kernel
theorem dX8_pool_13 : decode cX8_pool 13 = .ok (.iconst (-1), 1) := by decide +kernel
theorem dX8_pool_14 : decode cX8_pool 14 = .ok (.ireturn, 1) := by decide +kernel
theorem dX8_pool_15 : decode cX8_pool 15 = .ok (.aload_n 0, 1) := by decide +kernel
theorem dX8_pool_16 : decode cX8_pool 16 = .ok (.aload_n 0, 1) := by decide +kernel
theorem dX8_pool_17 : decode cX8_pool 17 = .ok (.getfield 64, 3) := by decide +kernel
theorem dX8_pool_20 : decode cX8_pool 20 = .ok (.iload_n 1, 1) := by decide +kernel
theorem dX8_pool_21 : decode cX8_pool 21 = .ok (.invokevirtual 190, 3) := by decide +kernel
theorem dX8_pool_24 : decode cX8_pool 24 = .ok (.aload_n 0, 1) := by decide +kernel
theorem dX8_pool_25 : decode cX8_pool 25 = .ok (.getfield 178, 3) := by decide +kernel
theorem dX8_pool_28 : decode cX8_pool 28 = .ok (.ireturn, 1) := by decide +kernel
theorem dX8_chances_0 : decode cX8_chances 0 = .ok (.aload_n 0, 1) := by decide +kernel
theorem dX8_chances_1 : decode cX8_chances 1 = .ok (.iconst 0, 1) := by decide +kernel
theorem dX8_chances_2 : decode cX8_chances 2 = .ok (.putfield 1, 3) := by decide +kernel
theorem dX8_chances_5 : decode cX8_chances 5 = .ok (.aload_n 0, 1) := by decide +kernel
theorem dX8_chances_6 : decode cX8_chances 6 = .ok (.iload_n 1, 1) := by decide +kernel
theorem dX8_chances_7 : decode cX8_chances 7 = .ok (.invokevirtual 164, 3) := by decide +kernel
theorem dX8_chances_10 : decode cX8_chances 10 = .ok (.ifCond .eq 11, 3) := by decide +kernel
theorem dX8_chances_13 : decode cX8_chances 13 = .ok (.aload_n 0, 1) := by decide +kernel
theorem dX8_chances_14 : decode cX8_chances 14 = .ok (.iload_n 2, 1) := by decide +kernel
theorem dX8_chances_15 : decode cX8_chances 15 = .ok (.invokevirtual 154, 3) := by decide +kernel
theorem dX8_chances_18 : decode cX8_chances 18 = .ok (.ifCond .ne 5, 3) := by decide +kernel
theorem dX8_chances_21 : decode cX8_chances 21 = .ok (.iconst (-1), 1) := by decide +kernel
theorem dX8_chances_22 : decode cX8_chances 22 = .ok (.ireturn, 1) := by decide +kernel
theorem dX8_chances_23 : decode cX8_chances 23 = .ok (.aload_n 0, 1) := by decide +kernel
theorem dX8_chances_24 : decode cX8_chances 24 = .ok (.aload_n 0, 1) := by decide +kernel
theorem dX8_chances_25 : decode cX8_chances 25 = .ok (.getfield 64, 3) := by decide +kernel
theorem dX8_chances_28 : decode cX8_chances 28 = .ok (.iload_n 1, 1) := by decide +kernel
theorem dX8_chances_29 : decode cX8_chances 29 = .ok (.invokevirtual 190, 3) := by decide +kernel
theorem dX8_chances_32 : decode cX8_chances 32 = .ok (.iconst 0, 1) := by decide +kernel
theorem dX8_chances_33 : decode cX8_chances 33 = .ok (.istore_n 3, 1) := by decide +kernel
theorem dX8_chances_34 : decode cX8_chances 34 = .ok (.iconst 0, 1) := by decide +kernel
theorem dX8_chances_35 : decode cX8_chances 35 = .ok (.istore 4, 2) := by decide +kernel
theorem dX8_chances_37 : decode cX8_chances 37 = .ok (.iload 4, 2) := by decide +kernel
theorem dX8_chances_39 : decode cX8_chances 39 = .ok (.aload_n 0, 1) := by decide +kernel
theorem dX8_chances_40 : decode cX8_chances 40 = .ok (.getfield 178, 3) := by decide +kernel
theorem dX8_chances_43 : decode cX8_chances 43 = .ok (.if_icmp .ge 26, 3) := by decide +kernel
theorem dX8_chances_46 : decode cX8_chances 46 = .ok (.aload_n 0, 1) := by decide +kernel
theorem dX8_chances_47 : decode cX8_chances 47 = .ok (.getfield 85, 3) := by decide +kernel
theorem dX8_chances_50 : decode cX8_chances 50 = .ok (.iload 4, 2) := by decide +kernel
theorem dX8_chances_52 : decode cX8_chances 52 = .ok (.iaload, 1) := by decide +kernel
theorem dX8_chances_53 : decode cX8_chances 53 = .ok (.iload_n 2, 1) := by decide +kernel
theorem dX8_chances_54 : decode cX8_chances 54 = .ok (.invokestatic 105, 3) := by decide +kernel
theorem dX8_chances_57 : decode cX8_chances 57 = .ok (.ifCond .eq 6, 3) := by decide +kernel
theorem dX8_chances_60 : decode cX8_chances 60 = .ok (.iinc 3 1, 3) := by decide +kernel
theorem dX8_chances_63 : decode cX8_chances 63 = .ok (.iinc 4 1, 3) := by decide +kernel
theorem dX8_chances_66 : decode cX8_chances 66 = .ok (.goto (-29), 3) := by decide +kernel
theorem dX8_chances_69 : decode cX8_chances 69 = .ok (.iload_n 3, 1) := by decide +kernel
theorem dX8_chances_70 : decode cX8_chances 70 = .ok (.ireturn, 1) := by decide +kernel
theorem dX8_worst_0 : decode cX8_worst 0 = .ok (.aload_n 0, 1) := by decide +kernel
theorem dX8_worst_1 : decode cX8_worst 1 = .ok (.iconst 0, 1) := by decide +kernel
theorem dX8_worst_2 : decode cX8_worst 2 = .ok (.putfield 1, 3) := by decide +kernel
theorem dX8_worst_5 : decode cX8_worst 5 = .ok (.aload_n 0, 1) := by decide +kernel
theorem dX8_worst_6 : decode cX8_worst 6 = .ok (.iload_n 1, 1) := by decide +kernel
theorem dX8_worst_7 : decode cX8_worst 7 = .ok (.invokevirtual 164, 3) := by decide +kernel
theorem dX8_worst_10 : decode cX8_worst 10 = .ok (.ifCond .ne 5, 3) := by decide +kernel
theorem dX8_worst_13 : decode cX8_worst 13 = .ok (.iconst (-1), 1) := by decide +kernel
theorem dX8_worst_14 : decode cX8_worst 14 = .ok (.ireturn, 1) := by decide +kernel
theorem dX8_worst_15 : decode cX8_worst 15 = .ok (.aload_n 0, 1) := by decide +kernel
theorem dX8_worst_16 : decode cX8_worst 16 = .ok (.aload_n 0, 1) := by decide +kernel
theorem dX8_worst_17 : decode cX8_worst 17 = .ok (.getfield 64, 3) := by decide +kernel
theorem dX8_worst_20 : decode cX8_worst 20 = .ok (.iload_n 1, 1) := by decide +kernel
theorem dX8_worst_21 : decode cX8_worst 21 = .ok (.invokevirtual 190, 3) := by decide +kernel
theorem dX8_worst_24 : decode cX8_worst 24 = .ok (.aload_n 0, 1) := by decide +kernel
theorem dX8_worst_25 : decode cX8_worst 25 = .ok (.getfield 181, 3) := by decide +kernel
theorem dX8_worst_28 : decode cX8_worst 28 = .ok (.ireturn, 1) := by decide +kernel
theorem dX8_snap_0 : decode cX8_snap 0 = .ok (.aload_n 0, 1) := by decide +kernel
theorem dX8_snap_1 : decode cX8_snap 1 = .ok (.getfield 129, 3) := by decide +kernel
theorem dX8_snap_4 : decode cX8_snap 4 = .ok (.bipush 10, 2) := by decide +kernel
theorem dX8_snap_6 : decode cX8_snap 6 = .ok (.if_icmp .ne 43, 3) := by decide +kernel
theorem dX8_snap_9 : decode cX8_snap 9 = .ok (.iconst 0, 1) := by decide +kernel
theorem dX8_snap_10 : decode cX8_snap 10 = .ok (.istore_n 1, 1) := by decide +kernel
theorem dX8_snap_11 : decode cX8_snap 11 = .ok (.iload_n 1, 1) := by decide +kernel
theorem dX8_snap_12 : decode cX8_snap 12 = .ok (.sipush 801, 3) := by decide +kernel
theorem dX8_snap_15 : decode cX8_snap 15 = .ok (.if_icmp .ge 24, 3) := by decide +kernel
theorem dX8_snap_18 : decode cX8_snap 18 = .ok (.aload_n 0, 1) := by decide +kernel
theorem dX8_snap_19 : decode cX8_snap 19 = .ok (.getfield 73, 3) := by decide +kernel
theorem dX8_snap_22 : decode cX8_snap 22 = .ok (.iload_n 1, 1) := by decide +kernel
theorem dX8_snap_23 : decode cX8_snap 23 = .ok (.aload_n 0, 1) := by decide +kernel
theorem dX8_snap_24 : decode cX8_snap 24 = .ok (.getfield 73, 3) := by decide +kernel
theorem dX8_snap_27 : decode cX8_snap 27 = .ok (.iload_n 1, 1) := by decide +kernel
theorem dX8_snap_28 : decode cX8_snap 28 = .ok (.bipush 89, 2) := by decide +kernel
theorem dX8_snap_30 : decode cX8_snap 30 = .ok (.iadd, 1) := by decide +kernel
theorem dX8_snap_31 : decode cX8_snap 31 = .ok (.iaload, 1) := by decide +kernel
theorem dX8_snap_32 : decode cX8_snap 32 = .ok (.iastore, 1) := by decide +kernel
theorem dX8_snap_33 : decode cX8_snap 33 = .ok (.iinc 1 1, 3) := by decide +kernel
theorem dX8_snap_36 : decode cX8_snap 36 = .ok (.goto (-25), 3) := by decide +kernel
theorem dX8_snap_39 : decode cX8_snap 39 = .ok (.aload_n 0, 1) := by decide +kernel
theorem dX8_snap_40 : decode cX8_snap 40 = .ok (.dup, 1) := by decide +kernel
theorem dX8_snap_41 : decode cX8_snap 41 = .ok (.getfield 129, 3) := by decide +kernel
theorem dX8_snap_44 : decode cX8_snap 44 = .ok (.iconst 1, 1) := by decide +kernel
theorem dX8_snap_45 : decode cX8_snap 45 = .ok (.isub, 1) := by decide +kernel
theorem dX8_snap_46 : decode cX8_snap 46 = .ok (.putfield 129, 3) := by decide +kernel
theorem dX8_snap_49 : decode cX8_snap 49 = .ok (.aload_n 0, 1) := by decide +kernel
theorem dX8_snap_50 : decode cX8_snap 50 = .ok (.getfield 64, 3) := by decide +kernel
theorem dX8_snap_53 : decode cX8_snap 53 = .ok (.iconst 0, 1) := by decide +kernel
theorem dX8_snap_54 : decode cX8_snap 54 = .ok (.aload_n 0, 1) := by decide +kernel
theorem dX8_snap_55 : decode cX8_snap 55 = .ok (.getfield 73, 3) := by decide +kernel
theorem dX8_snap_58 : decode cX8_snap 58 = .ok (.bipush 89, 2) := by decide +kernel
theorem dX8_snap_60 : decode cX8_snap 60 = .ok (.aload_n 0, 1) := by decide +kernel
theorem dX8_snap_61 : decode cX8_snap 61 = .ok (.getfield 129, 3) := by decide +kernel
theorem dX8_snap_64 : decode cX8_snap 64 = .ok (.imul, 1) := by decide +kernel
theorem dX8_snap_65 : decode cX8_snap 65 = .ok (.invokestatic 125, 3) := by decide +kernel
theorem dX8_snap_68 : decode cX8_snap 68 = .ok (.aload_n 0, 1) := by decide +kernel
theorem dX8_snap_69 : decode cX8_snap 69 = .ok (.dup, 1) := by decide +kernel
theorem dX8_snap_70 : decode cX8_snap 70 = .ok (.getfield 129, 3) := by decide +kernel
theorem dX8_snap_73 : decode cX8_snap 73 = .ok (.iconst 1, 1) := by decide +kernel
theorem dX8_snap_74 : decode cX8_snap 74 = .ok (.iadd, 1) := by decide +kernel
theorem dX8_snap_75 : decode cX8_snap 75 = .ok (.putfield 129, 3) := by decide +kernel
theorem dX8_snap_78 : decode cX8_snap 78 = .ok (.return_, 1) := by decide +kernel
theorem dX8_stay_0 : decode cX8_stay 0 = .ok (.aload_n 0, 1) := by decide +kernel
theorem dX8_stay_1 : decode cX8_stay 1 = .ok (.getfield 64, 3) := by decide +kernel
theorem dX8_stay_4 : decode cX8_stay 4 = .ok (.iconst 0, 1) := by decide +kernel
theorem dX8_stay_5 : decode cX8_stay 5 = .ok (.aload_n 0, 1) := by decide +kernel
theorem dX8_stay_6 : decode cX8_stay 6 = .ok (.getfield 79, 3) := by decide +kernel
theorem dX8_stay_9 : decode cX8_stay 9 = .ok (.iconst 0, 1) := by decide +kernel
theorem dX8_stay_10 : decode cX8_stay 10 = .ok (.invokestatic 125, 3) := by decide +kernel
theorem dX8_stay_13 : decode cX8_stay 13 = .ok (.aload_n 0, 1) := by decide +kernel
theorem dX8_stay_14 : decode cX8_stay 14 = .ok (.getfield 76, 3) := by decide +kernel
theorem dX8_stay_17 : decode cX8_stay 17 = .ok (.iconst 0, 1) := by decide +kernel
theorem dX8_stay_18 : decode cX8_stay 18 = .ok (.aload_n 0, 1) := by decide +kernel
theorem dX8_stay_19 : decode cX8_stay 19 = .ok (.getfield 64, 3) := by decide +kernel
theorem dX8_stay_22 : decode cX8_stay 22 = .ok (.iconst 0, 1) := by decide +kernel
theorem dX8_stay_23 : decode cX8_stay 23 = .ok (.invokestatic 125, 3) := by decide +kernel
theorem dX8_stay_26 : decode cX8_stay 26 = .ok (.aload_n 0, 1) := by decide +kernel
theorem dX8_stay_27 : decode cX8_stay 27 = .ok (.invokevirtual 193, 3) := by decide +kernel
theorem dX8_stay_30 : decode cX8_stay 30 = .ok (.aload_n 0, 1) := by decide +kernel
theorem dX8_stay_31 : decode cX8_stay 31 = .ok (.getfield 79, 3) := by decide +kernel
theorem dX8_stay_34 : decode cX8_stay 34 = .ok (.iconst 0, 1) := by decide +kernel
theorem dX8_stay_35 : decode cX8_stay 35 = .ok (.aload_n 0, 1) := by decide +kernel
theorem dX8_stay_36 : decode cX8_stay 36 = .ok (.getfield 64, 3) := by decide +kernel
theorem dX8_stay_39 : decode cX8_stay 39 = .ok (.iconst 0, 1) := by decide +kernel
theorem dX8_stay_40 : decode cX8_stay 40 = .ok (.invokestatic 125, 3) := by decide +kernel
theorem dX8_stay_43 : decode cX8_stay 43 = .ok (.return_, 1) := by decide +kernel
theorem dX8_draws_0 : decode cX8_draws 0 = .ok (.aload_n 0, 1) := by decide +kernel
theorem dX8_draws_1 : decode cX8_draws 1 = .ok (.aload_n 1, 1) := by decide +kernel
theorem dX8_draws_2 : decode cX8_draws 2 = .ok (.iload_n 2, 1) := by decide +kernel
theorem dX8_draws_3 : decode cX8_draws 3 = .ok (.invokevirtual 190, 3) := by decide +kernel
theorem dX8_draws_6 : decode cX8_draws 6 = .ok (.aload_n 0, 1) := by decide +kernel
theorem dX8_draws_7 : decode cX8_draws 7 = .ok (.getfield 178, 3) := by decide +kernel
theorem dX8_draws_10 : decode cX8_draws 10 = .ok (.ifCond .ne 5, 3) := by decide +kernel
theorem dX8_draws_13 : decode cX8_draws 13 = .ok (.iconst 0, 1) := by decide +kernel
theorem dX8_draws_14 : decode cX8_draws 14 = .ok (.ireturn, 1) := by decide +kernel
theorem dX8_draws_15 : decode cX8_draws 15 = .ok (.aload_n 1, 1) := by decide +kernel
theorem dX8_draws_16 : decode cX8_draws 16 = .ok (.iconst 5, 1) := by decide +kernel
theorem dX8_draws_17 : decode cX8_draws 17 = .ok (.aload_n 1, 1) := by decide +kernel
theorem dX8_draws_18 : decode cX8_draws 18 = .ok (.iconst 5, 1) := by decide +kernel
theorem dX8_draws_19 : decode cX8_draws 19 = .ok (.iaload, 1) := by decide +kernel
theorem dX8_draws_20 : decode cX8_draws 20 = .ok (.ldc 196, 2) := by decide +kernel
theorem dX8_draws_22 : decode cX8_draws 22 = .ok (.imul, 1) := by decide +kernel
theorem dX8_draws_23 : decode cX8_draws 23 = .ok (.sipush 12345, 3) := by decide +kernel
theorem dX8_draws_26 : decode cX8_draws 26 = .ok (.iadd, 1) := by decide +kernel
theorem dX8_draws_27 : decode cX8_draws 27 = .ok (.iastore, 1) := by decide +kernel
theorem dX8_draws_28 : decode cX8_draws 28 = .ok (.aload_n 1, 1) := by decide +kernel
theorem dX8_draws_29 : decode cX8_draws 29 = .ok (.bipush 61, 2) := by decide +kernel
theorem dX8_draws_31 : decode cX8_draws 31 = .ok (.iload_n 2, 1) := by decide +kernel
theorem dX8_draws_32 : decode cX8_draws 32 = .ok (.iadd, 1) := by decide +kernel
theorem dX8_draws_33 : decode cX8_draws 33 = .ok (.aload_n 0, 1) := by decide +kernel
theorem dX8_draws_34 : decode cX8_draws 34 = .ok (.getfield 85, 3) := by decide +kernel
theorem dX8_draws_37 : decode cX8_draws 37 = .ok (.aload_n 1, 1) := by decide +kernel
theorem dX8_draws_38 : decode cX8_draws 38 = .ok (.iconst 5, 1) := by decide +kernel
theorem dX8_draws_39 : decode cX8_draws 39 = .ok (.iaload, 1) := by decide +kernel
theorem dX8_draws_40 : decode cX8_draws 40 = .ok (.bipush 8, 2) := by decide +kernel
theorem dX8_draws_42 : decode cX8_draws 42 = .ok (.iushr, 1) := by decide +kernel
theorem dX8_draws_43 : decode cX8_draws 43 = .ok (.aload_n 0, 1) := by decide +kernel
theorem dX8_draws_44 : decode cX8_draws 44 = .ok (.getfield 178, 3) := by decide +kernel
theorem dX8_draws_47 : decode cX8_draws 47 = .ok (.irem, 1) := by decide +kernel
theorem dX8_draws_48 : decode cX8_draws 48 = .ok (.iaload, 1) := by decide +kernel
theorem dX8_draws_49 : decode cX8_draws 49 = .ok (.iastore, 1) := by decide +kernel
theorem dX8_draws_50 : decode cX8_draws 50 = .ok (.aload_n 1, 1) := by decide +kernel
theorem dX8_draws_51 : decode cX8_draws 51 = .ok (.bipush 75, 2) := by decide +kernel
theorem dX8_draws_53 : decode cX8_draws 53 = .ok (.iload_n 2, 1) := by decide +kernel
theorem dX8_draws_54 : decode cX8_draws 54 = .ok (.iadd, 1) := by decide +kernel
theorem dX8_draws_55 : decode cX8_draws 55 = .ok (.iconst 1, 1) := by decide +kernel
theorem dX8_draws_56 : decode cX8_draws 56 = .ok (.iastore, 1) := by decide +kernel
theorem dX8_draws_57 : decode cX8_draws 57 = .ok (.iconst 1, 1) := by decide +kernel
theorem dX8_draws_58 : decode cX8_draws 58 = .ok (.ireturn, 1) := by decide +kernel
theorem dX8_draw_0 : decode cX8_draw 0 = .ok (.aload_n 0, 1) := by decide +kernel
theorem dX8_draw_1 : decode cX8_draw 1 = .ok (.iconst 0, 1) := by decide +kernel
theorem dX8_draw_2 : decode cX8_draw 2 = .ok (.putfield 1, 3) := by decide +kernel
theorem dX8_draw_5 : decode cX8_draw 5 = .ok (.aload_n 0, 1) := by decide +kernel
theorem dX8_draw_6 : decode cX8_draw 6 = .ok (.iload_n 1, 1) := by decide +kernel
theorem dX8_draw_7 : decode cX8_draw 7 = .ok (.invokevirtual 164, 3) := by decide +kernel
theorem dX8_draw_10 : decode cX8_draw 10 = .ok (.ifCond .eq 15, 3) := by decide +kernel
theorem dX8_draw_13 : decode cX8_draw 13 = .ok (.aload_n 0, 1) := by decide +kernel
theorem dX8_draw_14 : decode cX8_draw 14 = .ok (.getfield 64, 3) := by decide +kernel
theorem dX8_draw_17 : decode cX8_draw 17 = .ok (.bipush 75, 2) := by decide +kernel
theorem dX8_draw_19 : decode cX8_draw 19 = .ok (.iload_n 1, 1) := by decide +kernel
theorem dX8_draw_20 : decode cX8_draw 20 = .ok (.iadd, 1) := by decide +kernel
theorem dX8_draw_21 : decode cX8_draw 21 = .ok (.iaload, 1) := by decide +kernel
theorem dX8_draw_22 : decode cX8_draw 22 = .ok (.ifCond .eq 5, 3) := by decide +kernel
theorem dX8_draw_25 : decode cX8_draw 25 = .ok (.iconst (-1), 1) := by decide +kernel
theorem dX8_draw_26 : decode cX8_draw 26 = .ok (.ireturn, 1) := by decide +kernel
theorem dX8_draw_27 : decode cX8_draw 27 = .ok (.aload_n 0, 1) := by decide +kernel
theorem dX8_draw_28 : decode cX8_draw 28 = .ok (.getfield 64, 3) := by decide +kernel
theorem dX8_draw_31 : decode cX8_draw 31 = .ok (.iconst 0, 1) := by decide +kernel
theorem dX8_draw_32 : decode cX8_draw 32 = .ok (.aload_n 0, 1) := by decide +kernel
theorem dX8_draw_33 : decode cX8_draw 33 = .ok (.getfield 76, 3) := by decide +kernel
theorem dX8_draw_36 : decode cX8_draw 36 = .ok (.iconst 0, 1) := by decide +kernel
theorem dX8_draw_37 : decode cX8_draw 37 = .ok (.invokestatic 125, 3) := by decide +kernel
theorem dX8_draw_40 : decode cX8_draw 40 = .ok (.aload_n 0, 1) := by decide +kernel
theorem dX8_draw_41 : decode cX8_draw 41 = .ok (.aload_n 0, 1) := by decide +kernel
theorem dX8_draw_42 : decode cX8_draw 42 = .ok (.getfield 64, 3) := by decide +kernel
theorem dX8_draw_45 : decode cX8_draw 45 = .ok (.iload_n 1, 1) := by decide +kernel
theorem dX8_draw_46 : decode cX8_draw 46 = .ok (.invokevirtual 197, 3) := by decide +kernel
theorem dX8_draw_49 : decode cX8_draw 49 = .ok (.ifCond .ne 5, 3) := by decide +kernel
theorem dX8_draw_52 : decode cX8_draw 52 = .ok (.iconst (-1), 1) := by decide +kernel
theorem dX8_draw_53 : decode cX8_draw 53 = .ok (.ireturn, 1) := by decide +kernel
theorem dX8_draw_54 : decode cX8_draw 54 = .ok (.aload_n 0, 1) := by decide +kernel
theorem dX8_draw_55 : decode cX8_draw 55 = .ok (.invokevirtual 201, 3) := by decide +kernel
theorem dX8_draw_58 : decode cX8_draw 58 = .ok (.aload_n 0, 1) := by decide +kernel
theorem dX8_draw_59 : decode cX8_draw 59 = .ok (.getfield 64, 3) := by decide +kernel
theorem dX8_draw_62 : decode cX8_draw 62 = .ok (.bipush 61, 2) := by decide +kernel
theorem dX8_draw_64 : decode cX8_draw 64 = .ok (.iload_n 1, 1) := by decide +kernel
theorem dX8_draw_65 : decode cX8_draw 65 = .ok (.iadd, 1) := by decide +kernel
theorem dX8_draw_66 : decode cX8_draw 66 = .ok (.iaload, 1) := by decide +kernel
theorem dX8_draw_67 : decode cX8_draw 67 = .ok (.ireturn, 1) := by decide +kernel
theorem dX8_drawsAll_0 : decode cX8_drawsAll 0 = .ok (.iconst 0, 1) := by decide +kernel
theorem dX8_drawsAll_1 : decode cX8_drawsAll 1 = .ok (.istore_n 2, 1) := by decide +kernel
theorem dX8_drawsAll_2 : decode cX8_drawsAll 2 = .ok (.iconst 0, 1) := by decide +kernel
theorem dX8_drawsAll_3 : decode cX8_drawsAll 3 = .ok (.istore_n 3, 1) := by decide +kernel
theorem dX8_drawsAll_4 : decode cX8_drawsAll 4 = .ok (.iload_n 3, 1) := by decide +kernel
theorem dX8_drawsAll_5 : decode cX8_drawsAll 5 = .ok (.aload_n 1, 1) := by decide +kernel
theorem dX8_drawsAll_6 : decode cX8_drawsAll 6 = .ok (.bipush 18, 2) := by decide +kernel
theorem dX8_drawsAll_8 : decode cX8_drawsAll 8 = .ok (.iaload, 1) := by decide +kernel
theorem dX8_drawsAll_9 : decode cX8_drawsAll 9 = .ok (.if_icmp .ge 30, 3) := by decide +kernel
theorem dX8_drawsAll_12 : decode cX8_drawsAll 12 = .ok (.aload_n 1, 1) := by decide +kernel
theorem dX8_drawsAll_13 : decode cX8_drawsAll 13 = .ok (.bipush 75, 2) := by decide +kernel
theorem dX8_drawsAll_15 : decode cX8_drawsAll 15 = .ok (.iload_n 3, 1) := by decide +kernel
theorem dX8_drawsAll_16 : decode cX8_drawsAll 16 = .ok (.iadd, 1) := by decide +kernel
theorem dX8_drawsAll_17 : decode cX8_drawsAll 17 = .ok (.iaload, 1) := by decide +kernel
theorem dX8_drawsAll_18 : decode cX8_drawsAll 18 = .ok (.ifCond .ne 15, 3) := by decide +kernel
theorem dX8_drawsAll_21 : decode cX8_drawsAll 21 = .ok (.aload_n 0, 1) := by decide +kernel
theorem dX8_drawsAll_22 : decode cX8_drawsAll 22 = .ok (.aload_n 1, 1) := by decide +kernel
theorem dX8_drawsAll_23 : decode cX8_drawsAll 23 = .ok (.iload_n 3, 1) := by decide +kernel
theorem dX8_drawsAll_24 : decode cX8_drawsAll 24 = .ok (.invokevirtual 197, 3) := by decide +kernel
theorem dX8_drawsAll_27 : decode cX8_drawsAll 27 = .ok (.ifCond .eq 6, 3) := by decide +kernel
theorem dX8_drawsAll_30 : decode cX8_drawsAll 30 = .ok (.iinc 2 1, 3) := by decide +kernel
theorem dX8_drawsAll_33 : decode cX8_drawsAll 33 = .ok (.iinc 3 1, 3) := by decide +kernel
theorem dX8_drawsAll_36 : decode cX8_drawsAll 36 = .ok (.goto (-32), 3) := by decide +kernel
theorem dX8_drawsAll_39 : decode cX8_drawsAll 39 = .ok (.iload_n 2, 1) := by decide +kernel
theorem dX8_drawsAll_40 : decode cX8_drawsAll 40 = .ok (.ireturn, 1) := by decide +kernel
theorem dX8_drawAll_0 : decode cX8_drawAll 0 = .ok (.aload_n 0, 1) := by decide +kernel
theorem dX8_drawAll_1 : decode cX8_drawAll 1 = .ok (.iconst 0, 1) := by decide +kernel
theorem dX8_drawAll_2 : decode cX8_drawAll 2 = .ok (.putfield 1, 3) := by decide +kernel
theorem dX8_drawAll_5 : decode cX8_drawAll 5 = .ok (.aload_n 0, 1) := by decide +kernel
theorem dX8_drawAll_6 : decode cX8_drawAll 6 = .ok (.getfield 64, 3) := by decide +kernel
theorem dX8_drawAll_9 : decode cX8_drawAll 9 = .ok (.iconst 0, 1) := by decide +kernel
theorem dX8_drawAll_10 : decode cX8_drawAll 10 = .ok (.aload_n 0, 1) := by decide +kernel
theorem dX8_drawAll_11 : decode cX8_drawAll 11 = .ok (.getfield 76, 3) := by decide +kernel
theorem dX8_drawAll_14 : decode cX8_drawAll 14 = .ok (.iconst 0, 1) := by decide +kernel
theorem dX8_drawAll_15 : decode cX8_drawAll 15 = .ok (.invokestatic 125, 3) := by decide +kernel
theorem dX8_drawAll_18 : decode cX8_drawAll 18 = .ok (.aload_n 0, 1) := by decide +kernel
theorem dX8_drawAll_19 : decode cX8_drawAll 19 = .ok (.aload_n 0, 1) := by decide +kernel
theorem dX8_drawAll_20 : decode cX8_drawAll 20 = .ok (.getfield 64, 3) := by decide +kernel
theorem dX8_drawAll_23 : decode cX8_drawAll 23 = .ok (.invokevirtual 204, 3) := by decide +kernel
theorem dX8_drawAll_26 : decode cX8_drawAll 26 = .ok (.istore_n 1, 1) := by decide +kernel
theorem dX8_drawAll_27 : decode cX8_drawAll 27 = .ok (.iload_n 1, 1) := by decide +kernel
theorem dX8_drawAll_28 : decode cX8_drawAll 28 = .ok (.ifCond .le 7, 3) := by decide +kernel
theorem dX8_drawAll_31 : decode cX8_drawAll 31 = .ok (.aload_n 0, 1) := by decide +kernel
theorem dX8_drawAll_32 : decode cX8_drawAll 32 = .ok (.invokevirtual 201, 3) := by decide +kernel
theorem dX8_drawAll_35 : decode cX8_drawAll 35 = .ok (.iload_n 1, 1) := by decide +kernel
theorem dX8_drawAll_36 : decode cX8_drawAll 36 = .ok (.ireturn, 1) := by decide +kernel
theorem dX8_repairs_0 : decode cX8_repairs 0 = .ok (.aload_n 0, 1) := by decide +kernel
theorem dX8_repairs_1 : decode cX8_repairs 1 = .ok (.getfield 64, 3) := by decide +kernel
theorem dX8_repairs_4 : decode cX8_repairs 4 = .ok (.bipush 61, 2) := by decide +kernel
theorem dX8_repairs_6 : decode cX8_repairs 6 = .ok (.iload_n 1, 1) := by decide +kernel
theorem dX8_repairs_7 : decode cX8_repairs 7 = .ok (.iadd, 1) := by decide +kernel
theorem dX8_repairs_8 : decode cX8_repairs 8 = .ok (.iaload, 1) := by decide +kernel
theorem dX8_repairs_9 : decode cX8_repairs 9 = .ok (.iconst 1, 1) := by decide +kernel
theorem dX8_repairs_10 : decode cX8_repairs 10 = .ok (.iload_n 2, 1) := by decide +kernel
theorem dX8_repairs_11 : decode cX8_repairs 11 = .ok (.ishl, 1) := by decide +kernel
theorem dX8_repairs_12 : decode cX8_repairs 12 = .ok (.iconst (-1), 1) := by decide +kernel
theorem dX8_repairs_13 : decode cX8_repairs 13 = .ok (.ixor, 1) := by decide +kernel
theorem dX8_repairs_14 : decode cX8_repairs 14 = .ok (.iand, 1) := by decide +kernel
theorem dX8_repairs_15 : decode cX8_repairs 15 = .ok (.istore_n 3, 1) := by decide +kernel
theorem dX8_repairs_16 : decode cX8_repairs 16 = .ok (.iconst (-1), 1) := by decide +kernel
theorem dX8_repairs_17 : decode cX8_repairs 17 = .ok (.istore 4, 2) := by decide +kernel
theorem dX8_repairs_19 : decode cX8_repairs 19 = .ok (.iconst 0, 1) := by decide +kernel
theorem dX8_repairs_20 : decode cX8_repairs 20 = .ok (.istore 5, 2) := by decide +kernel
theorem dX8_repairs_22 : decode cX8_repairs 22 = .ok (.iconst 0, 1) := by decide +kernel
theorem dX8_repairs_23 : decode cX8_repairs 23 = .ok (.istore 6, 2) := by decide +kernel
theorem dX8_repairs_25 : decode cX8_repairs 25 = .ok (.iload 6, 2) := by decide +kernel
theorem dX8_repairs_27 : decode cX8_repairs 27 = .ok (.aload_n 0, 1) := by decide +kernel
theorem dX8_repairs_28 : decode cX8_repairs 28 = .ok (.invokevirtual 132, 3) := by decide +kernel
theorem dX8_repairs_31 : decode cX8_repairs 31 = .ok (.if_icmp .ge 86, 3) := by decide +kernel
theorem dX8_repairs_34 : decode cX8_repairs 34 = .ok (.iload_n 3, 1) := by decide +kernel
theorem dX8_repairs_35 : decode cX8_repairs 35 = .ok (.iconst 1, 1) := by decide +kernel
theorem dX8_repairs_36 : decode cX8_repairs 36 = .ok (.iload 6, 2) := by decide +kernel
theorem dX8_repairs_38 : decode cX8_repairs 38 = .ok (.ishl, 1) := by decide +kernel
theorem dX8_repairs_39 : decode cX8_repairs 39 = .ok (.ior, 1) := by decide +kernel
theorem dX8_repairs_40 : decode cX8_repairs 40 = .ok (.istore 7, 2) := by decide +kernel
theorem dX8_repairs_42 : decode cX8_repairs 42 = .ok (.aload_n 0, 1) := by decide +kernel
theorem dX8_repairs_43 : decode cX8_repairs 43 = .ok (.getfield 64, 3) := by decide +kernel
theorem dX8_repairs_46 : decode cX8_repairs 46 = .ok (.bipush 61, 2) := by decide +kernel
theorem dX8_repairs_48 : decode cX8_repairs 48 = .ok (.iload_n 1, 1) := by decide +kernel
theorem dX8_repairs_49 : decode cX8_repairs 49 = .ok (.iadd, 1) := by decide +kernel
theorem dX8_repairs_50 : decode cX8_repairs 50 = .ok (.iaload, 1) := by decide +kernel
theorem dX8_repairs_51 : decode cX8_repairs 51 = .ok (.iload 6, 2) := by decide +kernel
theorem dX8_repairs_53 : decode cX8_repairs 53 = .ok (.invokestatic 105, 3) := by decide +kernel
theorem dX8_repairs_56 : decode cX8_repairs 56 = .ok (.ifCond .ne 55, 3) := by decide +kernel
theorem dX8_repairs_59 : decode cX8_repairs 59 = .ok (.aload_n 0, 1) := by decide +kernel
theorem dX8_repairs_60 : decode cX8_repairs 60 = .ok (.getfield 64, 3) := by decide +kernel
theorem dX8_repairs_63 : decode cX8_repairs 63 = .ok (.iload_n 1, 1) := by decide +kernel
theorem dX8_repairs_64 : decode cX8_repairs 64 = .ok (.iload 7, 2) := by decide +kernel
theorem dX8_repairs_66 : decode cX8_repairs 66 = .ok (.invokestatic 170, 3) := by decide +kernel
theorem dX8_repairs_69 : decode cX8_repairs 69 = .ok (.ifCond .ne 6, 3) := by decide +kernel
theorem dX8_repairs_72 : decode cX8_repairs 72 = .ok (.goto 39, 3) := by decide +kernel
theorem dX8_repairs_75 : decode cX8_repairs 75 = .ok (.aload_n 0, 1) := by decide +kernel
theorem dX8_repairs_76 : decode cX8_repairs 76 = .ok (.getfield 64, 3) := by decide +kernel
theorem dX8_repairs_79 : decode cX8_repairs 79 = .ok (.iload_n 1, 1) := by decide +kernel
theorem dX8_repairs_80 : decode cX8_repairs 80 = .ok (.iload 7, 2) := by decide +kernel
theorem dX8_repairs_82 : decode cX8_repairs 82 = .ok (.invokestatic 184, 3) := by decide +kernel
theorem dX8_repairs_85 : decode cX8_repairs 85 = .ok (.istore 8, 2) := by decide +kernel
theorem dX8_repairs_87 : decode cX8_repairs 87 = .ok (.iload 4, 2) := by decide +kernel
theorem dX8_repairs_89 : decode cX8_repairs 89 = .ok (.iconst (-1), 1) := by decide +kernel
theorem dX8_repairs_90 : decode cX8_repairs 90 = .ok (.if_icmp .eq 13, 3) := by decide +kernel
theorem dX8_repairs_93 : decode cX8_repairs 93 = .ok (.iload 8, 2) := by decide +kernel
theorem dX8_repairs_95 : decode cX8_repairs 95 = .ok (.iload 5, 2) := by decide +kernel
theorem dX8_repairs_97 : decode cX8_repairs 97 = .ok (.if_icmp .lt 6, 3) := by decide +kernel
theorem dX8_repairs_100 : decode cX8_repairs 100 = .ok (.goto 11, 3) := by decide +kernel
theorem dX8_repairs_103 : decode cX8_repairs 103 = .ok (.iload 6, 2) := by decide +kernel
theorem dX8_repairs_105 : decode cX8_repairs 105 = .ok (.istore 4, 2) := by decide +kernel
theorem dX8_repairs_107 : decode cX8_repairs 107 = .ok (.iload 8, 2) := by decide +kernel
theorem dX8_repairs_109 : decode cX8_repairs 109 = .ok (.istore 5, 2) := by decide +kernel
theorem dX8_repairs_111 : decode cX8_repairs 111 = .ok (.iinc 6 1, 3) := by decide +kernel
theorem dX8_repairs_114 : decode cX8_repairs 114 = .ok (.goto (-89), 3) := by decide +kernel
theorem dX8_repairs_117 : decode cX8_repairs 117 = .ok (.aload_n 0, 1) := by decide +kernel
theorem dX8_repairs_118 : decode cX8_repairs 118 = .ok (.getfield 64, 3) := by decide +kernel
theorem dX8_repairs_121 : decode cX8_repairs 121 = .ok (.bipush 61, 2) := by decide +kernel
theorem dX8_repairs_123 : decode cX8_repairs 123 = .ok (.iload_n 1, 1) := by decide +kernel
theorem dX8_repairs_124 : decode cX8_repairs 124 = .ok (.iadd, 1) := by decide +kernel
theorem dX8_repairs_125 : decode cX8_repairs 125 = .ok (.iload 4, 2) := by decide +kernel
theorem dX8_repairs_127 : decode cX8_repairs 127 = .ok (.iconst (-1), 1) := by decide +kernel
theorem dX8_repairs_128 : decode cX8_repairs 128 = .ok (.if_icmp .ne 7, 3) := by decide +kernel
theorem dX8_repairs_131 : decode cX8_repairs 131 = .ok (.iconst 0, 1) := by decide +kernel
theorem dX8_repairs_132 : decode cX8_repairs 132 = .ok (.goto 9, 3) := by decide +kernel
theorem dX8_repairs_135 : decode cX8_repairs 135 = .ok (.iload_n 3, 1) := by decide +kernel
theorem dX8_repairs_136 : decode cX8_repairs 136 = .ok (.iconst 1, 1) := by decide +kernel
theorem dX8_repairs_137 : decode cX8_repairs 137 = .ok (.iload 4, 2) := by decide +kernel
theorem dX8_repairs_139 : decode cX8_repairs 139 = .ok (.ishl, 1) := by decide +kernel
theorem dX8_repairs_140 : decode cX8_repairs 140 = .ok (.ior, 1) := by decide +kernel
theorem dX8_repairs_141 : decode cX8_repairs 141 = .ok (.iastore, 1) := by decide +kernel
theorem dX8_repairs_142 : decode cX8_repairs 142 = .ok (.iload 4, 2) := by decide +kernel
theorem dX8_repairs_144 : decode cX8_repairs 144 = .ok (.iconst (-1), 1) := by decide +kernel
theorem dX8_repairs_145 : decode cX8_repairs 145 = .ok (.if_icmp .eq 6, 3) := by decide +kernel
theorem dX8_repairs_148 : decode cX8_repairs 148 = .ok (.iload 4, 2) := by decide +kernel
theorem dX8_repairs_150 : decode cX8_repairs 150 = .ok (.ireturn, 1) := by decide +kernel
theorem dX8_repairs_151 : decode cX8_repairs 151 = .ok (.aload_n 0, 1) := by decide +kernel
theorem dX8_repairs_152 : decode cX8_repairs 152 = .ok (.getfield 64, 3) := by decide +kernel
theorem dX8_repairs_155 : decode cX8_repairs 155 = .ok (.bipush 75, 2) := by decide +kernel
theorem dX8_repairs_157 : decode cX8_repairs 157 = .ok (.iload_n 1, 1) := by decide +kernel
theorem dX8_repairs_158 : decode cX8_repairs 158 = .ok (.iadd, 1) := by decide +kernel
theorem dX8_repairs_159 : decode cX8_repairs 159 = .ok (.iconst 0, 1) := by decide +kernel
theorem dX8_repairs_160 : decode cX8_repairs 160 = .ok (.iastore, 1) := by decide +kernel
theorem dX8_repairs_161 : decode cX8_repairs 161 = .ok (.bipush (-2), 2) := by decide +kernel
theorem dX8_repairs_163 : decode cX8_repairs 163 = .ok (.ireturn, 1) := by decide +kernel
theorem dX8_recuse_0 : decode cX8_recuse 0 = .ok (.aload_n 0, 1) := by decide +kernel
theorem dX8_recuse_1 : decode cX8_recuse 1 = .ok (.iconst 0, 1) := by decide +kernel
theorem dX8_recuse_2 : decode cX8_recuse 2 = .ok (.putfield 1, 3) := by decide +kernel
theorem dX8_recuse_5 : decode cX8_recuse 5 = .ok (.aload_n 0, 1) := by decide +kernel
theorem dX8_recuse_6 : decode cX8_recuse 6 = .ok (.iload_n 1, 1) := by decide +kernel
theorem dX8_recuse_7 : decode cX8_recuse 7 = .ok (.invokevirtual 164, 3) := by decide +kernel
theorem dX8_recuse_10 : decode cX8_recuse 10 = .ok (.ifCond .eq 40, 3) := by decide +kernel
theorem dX8_recuse_13 : decode cX8_recuse 13 = .ok (.aload_n 0, 1) := by decide +kernel
theorem dX8_recuse_14 : decode cX8_recuse 14 = .ok (.iload_n 2, 1) := by decide +kernel
theorem dX8_recuse_15 : decode cX8_recuse 15 = .ok (.invokevirtual 154, 3) := by decide +kernel
theorem dX8_recuse_18 : decode cX8_recuse 18 = .ok (.ifCond .eq 32, 3) := by decide +kernel
theorem dX8_recuse_21 : decode cX8_recuse 21 = .ok (.aload_n 0, 1) := by decide +kernel
theorem dX8_recuse_22 : decode cX8_recuse 22 = .ok (.getfield 64, 3) := by decide +kernel
theorem dX8_recuse_25 : decode cX8_recuse 25 = .ok (.bipush 75, 2) := by decide +kernel
theorem dX8_recuse_27 : decode cX8_recuse 27 = .ok (.iload_n 1, 1) := by decide +kernel
theorem dX8_recuse_28 : decode cX8_recuse 28 = .ok (.iadd, 1) := by decide +kernel
theorem dX8_recuse_29 : decode cX8_recuse 29 = .ok (.iaload, 1) := by decide +kernel
theorem dX8_recuse_30 : decode cX8_recuse 30 = .ok (.iconst 1, 1) := by decide +kernel
theorem dX8_recuse_31 : decode cX8_recuse 31 = .ok (.if_icmp .ne 19, 3) := by decide +kernel
theorem dX8_recuse_34 : decode cX8_recuse 34 = .ok (.aload_n 0, 1) := by decide +kernel
theorem dX8_recuse_35 : decode cX8_recuse 35 = .ok (.getfield 64, 3) := by decide +kernel
theorem dX8_recuse_38 : decode cX8_recuse 38 = .ok (.bipush 61, 2) := by decide +kernel
theorem dX8_recuse_40 : decode cX8_recuse 40 = .ok (.iload_n 1, 1) := by decide +kernel
theorem dX8_recuse_41 : decode cX8_recuse 41 = .ok (.iadd, 1) := by decide +kernel
theorem dX8_recuse_42 : decode cX8_recuse 42 = .ok (.iaload, 1) := by decide +kernel
theorem dX8_recuse_43 : decode cX8_recuse 43 = .ok (.iload_n 2, 1) := by decide +kernel
theorem dX8_recuse_44 : decode cX8_recuse 44 = .ok (.invokestatic 105, 3) := by decide +kernel
theorem dX8_recuse_47 : decode cX8_recuse 47 = .ok (.ifCond .ne 5, 3) := by decide +kernel
theorem dX8_recuse_50 : decode cX8_recuse 50 = .ok (.iconst (-1), 1) := by decide +kernel
theorem dX8_recuse_51 : decode cX8_recuse 51 = .ok (.ireturn, 1) := by decide +kernel
theorem dX8_recuse_52 : decode cX8_recuse 52 = .ok (.aload_n 0, 1) := by decide +kernel
theorem dX8_recuse_53 : decode cX8_recuse 53 = .ok (.invokevirtual 193, 3) := by decide +kernel
theorem dX8_recuse_56 : decode cX8_recuse 56 = .ok (.aload_n 0, 1) := by decide +kernel
theorem dX8_recuse_57 : decode cX8_recuse 57 = .ok (.getfield 64, 3) := by decide +kernel
theorem dX8_recuse_60 : decode cX8_recuse 60 = .ok (.bipush 47, 2) := by decide +kernel
theorem dX8_recuse_62 : decode cX8_recuse 62 = .ok (.iload_n 1, 1) := by decide +kernel
theorem dX8_recuse_63 : decode cX8_recuse 63 = .ok (.iadd, 1) := by decide +kernel
theorem dX8_recuse_64 : decode cX8_recuse 64 = .ok (.dup2, 1) := by decide +kernel
theorem dX8_recuse_65 : decode cX8_recuse 65 = .ok (.iaload, 1) := by decide +kernel
theorem dX8_recuse_66 : decode cX8_recuse 66 = .ok (.iconst 1, 1) := by decide +kernel
theorem dX8_recuse_67 : decode cX8_recuse 67 = .ok (.iload_n 2, 1) := by decide +kernel
theorem dX8_recuse_68 : decode cX8_recuse 68 = .ok (.ishl, 1) := by decide +kernel
theorem dX8_recuse_69 : decode cX8_recuse 69 = .ok (.ior, 1) := by decide +kernel
theorem dX8_recuse_70 : decode cX8_recuse 70 = .ok (.iastore, 1) := by decide +kernel
theorem dX8_recuse_71 : decode cX8_recuse 71 = .ok (.aload_n 0, 1) := by decide +kernel
theorem dX8_recuse_72 : decode cX8_recuse 72 = .ok (.iload_n 1, 1) := by decide +kernel
theorem dX8_recuse_73 : decode cX8_recuse 73 = .ok (.iload_n 2, 1) := by decide +kernel
theorem dX8_recuse_74 : decode cX8_recuse 74 = .ok (.invokevirtual 208, 3) := by decide +kernel
theorem dX8_recuse_77 : decode cX8_recuse 77 = .ok (.ireturn, 1) := by decide +kernel
theorem dX8_leave_0 : decode cX8_leave 0 = .ok (.aload_n 0, 1) := by decide +kernel
theorem dX8_leave_1 : decode cX8_leave 1 = .ok (.iconst 0, 1) := by decide +kernel
theorem dX8_leave_2 : decode cX8_leave 2 = .ok (.putfield 1, 3) := by decide +kernel
theorem dX8_leave_5 : decode cX8_leave 5 = .ok (.aload_n 0, 1) := by decide +kernel
theorem dX8_leave_6 : decode cX8_leave 6 = .ok (.iload_n 1, 1) := by decide +kernel
theorem dX8_leave_7 : decode cX8_leave 7 = .ok (.invokevirtual 154, 3) := by decide +kernel
theorem dX8_leave_10 : decode cX8_leave 10 = .ok (.ifCond .eq 17, 3) := by decide +kernel
theorem dX8_leave_13 : decode cX8_leave 13 = .ok (.aload_n 0, 1) := by decide +kernel
theorem dX8_leave_14 : decode cX8_leave 14 = .ok (.getfield 64, 3) := by decide +kernel
theorem dX8_leave_17 : decode cX8_leave 17 = .ok (.bipush 17, 2) := by decide +kernel
theorem dX8_leave_19 : decode cX8_leave 19 = .ok (.iaload, 1) := by decide +kernel
theorem dX8_leave_20 : decode cX8_leave 20 = .ok (.iload_n 1, 1) := by decide +kernel
theorem dX8_leave_21 : decode cX8_leave 21 = .ok (.invokestatic 105, 3) := by decide +kernel
theorem dX8_leave_24 : decode cX8_leave 24 = .ok (.ifCond .eq 5, 3) := by decide +kernel
theorem dX8_leave_27 : decode cX8_leave 27 = .ok (.iconst (-1), 1) := by decide +kernel
theorem dX8_leave_28 : decode cX8_leave 28 = .ok (.ireturn, 1) := by decide +kernel
theorem dX8_leave_29 : decode cX8_leave 29 = .ok (.aload_n 0, 1) := by decide +kernel
theorem dX8_leave_30 : decode cX8_leave 30 = .ok (.invokevirtual 193, 3) := by decide +kernel
theorem dX8_leave_33 : decode cX8_leave 33 = .ok (.aload_n 0, 1) := by decide +kernel
theorem dX8_leave_34 : decode cX8_leave 34 = .ok (.getfield 64, 3) := by decide +kernel
theorem dX8_leave_37 : decode cX8_leave 37 = .ok (.bipush 17, 2) := by decide +kernel
theorem dX8_leave_39 : decode cX8_leave 39 = .ok (.dup2, 1) := by decide +kernel
theorem dX8_leave_40 : decode cX8_leave 40 = .ok (.iaload, 1) := by decide +kernel
theorem dX8_leave_41 : decode cX8_leave 41 = .ok (.iconst 1, 1) := by decide +kernel
theorem dX8_leave_42 : decode cX8_leave 42 = .ok (.iload_n 1, 1) := by decide +kernel
theorem dX8_leave_43 : decode cX8_leave 43 = .ok (.ishl, 1) := by decide +kernel
theorem dX8_leave_44 : decode cX8_leave 44 = .ok (.ior, 1) := by decide +kernel
theorem dX8_leave_45 : decode cX8_leave 45 = .ok (.iastore, 1) := by decide +kernel
theorem dX8_leave_46 : decode cX8_leave 46 = .ok (.iconst 0, 1) := by decide +kernel
theorem dX8_leave_47 : decode cX8_leave 47 = .ok (.istore_n 2, 1) := by decide +kernel
theorem dX8_leave_48 : decode cX8_leave 48 = .ok (.iconst 0, 1) := by decide +kernel
theorem dX8_leave_49 : decode cX8_leave 49 = .ok (.istore_n 3, 1) := by decide +kernel
theorem dX8_leave_50 : decode cX8_leave 50 = .ok (.iload_n 3, 1) := by decide +kernel
theorem dX8_leave_51 : decode cX8_leave 51 = .ok (.aload_n 0, 1) := by decide +kernel
theorem dX8_leave_52 : decode cX8_leave 52 = .ok (.invokevirtual 136, 3) := by decide +kernel
theorem dX8_leave_55 : decode cX8_leave 55 = .ok (.if_icmp .ge 52, 3) := by decide +kernel
theorem dX8_leave_58 : decode cX8_leave 58 = .ok (.aload_n 0, 1) := by decide +kernel
theorem dX8_leave_59 : decode cX8_leave 59 = .ok (.getfield 64, 3) := by decide +kernel
theorem dX8_leave_62 : decode cX8_leave 62 = .ok (.bipush 75, 2) := by decide +kernel
theorem dX8_leave_64 : decode cX8_leave 64 = .ok (.iload_n 3, 1) := by decide +kernel
theorem dX8_leave_65 : decode cX8_leave 65 = .ok (.iadd, 1) := by decide +kernel
theorem dX8_leave_66 : decode cX8_leave 66 = .ok (.iaload, 1) := by decide +kernel
theorem dX8_leave_67 : decode cX8_leave 67 = .ok (.iconst 1, 1) := by decide +kernel
theorem dX8_leave_68 : decode cX8_leave 68 = .ok (.if_icmp .ne 33, 3) := by decide +kernel
theorem dX8_leave_71 : decode cX8_leave 71 = .ok (.aload_n 0, 1) := by decide +kernel
theorem dX8_leave_72 : decode cX8_leave 72 = .ok (.getfield 64, 3) := by decide +kernel
theorem dX8_leave_75 : decode cX8_leave 75 = .ok (.bipush 61, 2) := by decide +kernel
theorem dX8_leave_77 : decode cX8_leave 77 = .ok (.iload_n 3, 1) := by decide +kernel
theorem dX8_leave_78 : decode cX8_leave 78 = .ok (.iadd, 1) := by decide +kernel
theorem dX8_leave_79 : decode cX8_leave 79 = .ok (.iaload, 1) := by decide +kernel
theorem dX8_leave_80 : decode cX8_leave 80 = .ok (.iload_n 1, 1) := by decide +kernel
theorem dX8_leave_81 : decode cX8_leave 81 = .ok (.invokestatic 105, 3) := by decide +kernel
theorem dX8_leave_84 : decode cX8_leave 84 = .ok (.ifCond .eq 17, 3) := by decide +kernel
theorem dX8_leave_87 : decode cX8_leave 87 = .ok (.aload_n 0, 1) := by decide +kernel
theorem dX8_leave_88 : decode cX8_leave 88 = .ok (.iload_n 3, 1) := by decide +kernel
theorem dX8_leave_89 : decode cX8_leave 89 = .ok (.iload_n 1, 1) := by decide +kernel
theorem dX8_leave_90 : decode cX8_leave 90 = .ok (.invokevirtual 208, 3) := by decide +kernel
theorem dX8_leave_93 : decode cX8_leave 93 = .ok (.bipush (-2), 2) := by decide +kernel
theorem dX8_leave_95 : decode cX8_leave 95 = .ok (.if_icmp .eq 6, 3) := by decide +kernel
theorem dX8_leave_98 : decode cX8_leave 98 = .ok (.iinc 2 1, 3) := by decide +kernel
theorem dX8_leave_101 : decode cX8_leave 101 = .ok (.iinc 3 1, 3) := by decide +kernel
theorem dX8_leave_104 : decode cX8_leave 104 = .ok (.goto (-54), 3) := by decide +kernel
theorem dX8_leave_107 : decode cX8_leave 107 = .ok (.iload_n 2, 1) := by decide +kernel
theorem dX8_leave_108 : decode cX8_leave 108 = .ok (.ireturn, 1) := by decide +kernel
theorem dX8_come_0 : decode cX8_come 0 = .ok (.aload_n 0, 1) := by decide +kernel
theorem dX8_come_1 : decode cX8_come 1 = .ok (.iconst 0, 1) := by decide +kernel
theorem dX8_come_2 : decode cX8_come 2 = .ok (.putfield 1, 3) := by decide +kernel
theorem dX8_come_5 : decode cX8_come 5 = .ok (.aload_n 0, 1) := by decide +kernel
theorem dX8_come_6 : decode cX8_come 6 = .ok (.iload_n 1, 1) := by decide +kernel
theorem dX8_come_7 : decode cX8_come 7 = .ok (.invokevirtual 154, 3) := by decide +kernel
theorem dX8_come_10 : decode cX8_come 10 = .ok (.ifCond .eq 17, 3) := by decide +kernel
theorem dX8_come_13 : decode cX8_come 13 = .ok (.aload_n 0, 1) := by decide +kernel
theorem dX8_come_14 : decode cX8_come 14 = .ok (.getfield 64, 3) := by decide +kernel
theorem dX8_come_17 : decode cX8_come 17 = .ok (.bipush 17, 2) := by decide +kernel
theorem dX8_come_19 : decode cX8_come 19 = .ok (.iaload, 1) := by decide +kernel
theorem dX8_come_20 : decode cX8_come 20 = .ok (.iload_n 1, 1) := by decide +kernel
theorem dX8_come_21 : decode cX8_come 21 = .ok (.invokestatic 105, 3) := by decide +kernel
theorem dX8_come_24 : decode cX8_come 24 = .ok (.ifCond .ne 5, 3) := by decide +kernel
theorem dX8_come_27 : decode cX8_come 27 = .ok (.iconst (-1), 1) := by decide +kernel
theorem dX8_come_28 : decode cX8_come 28 = .ok (.ireturn, 1) := by decide +kernel
theorem dX8_come_29 : decode cX8_come 29 = .ok (.aload_n 0, 1) := by decide +kernel
theorem dX8_come_30 : decode cX8_come 30 = .ok (.invokevirtual 193, 3) := by decide +kernel
theorem dX8_come_33 : decode cX8_come 33 = .ok (.aload_n 0, 1) := by decide +kernel
theorem dX8_come_34 : decode cX8_come 34 = .ok (.getfield 64, 3) := by decide +kernel
theorem dX8_come_37 : decode cX8_come 37 = .ok (.bipush 17, 2) := by decide +kernel
theorem dX8_come_39 : decode cX8_come 39 = .ok (.dup2, 1) := by decide +kernel
theorem dX8_come_40 : decode cX8_come 40 = .ok (.iaload, 1) := by decide +kernel
theorem dX8_come_41 : decode cX8_come 41 = .ok (.iconst 1, 1) := by decide +kernel
theorem dX8_come_42 : decode cX8_come 42 = .ok (.iload_n 1, 1) := by decide +kernel
theorem dX8_come_43 : decode cX8_come 43 = .ok (.ishl, 1) := by decide +kernel
theorem dX8_come_44 : decode cX8_come 44 = .ok (.ixor, 1) := by decide +kernel
theorem dX8_come_45 : decode cX8_come 45 = .ok (.iastore, 1) := by decide +kernel
theorem dX8_come_46 : decode cX8_come 46 = .ok (.aload_n 0, 1) := by decide +kernel
theorem dX8_come_47 : decode cX8_come 47 = .ok (.getfield 64, 3) := by decide +kernel
theorem dX8_come_50 : decode cX8_come 50 = .ok (.bipush 17, 2) := by decide +kernel
theorem dX8_come_52 : decode cX8_come 52 = .ok (.iaload, 1) := by decide +kernel
theorem dX8_come_53 : decode cX8_come 53 = .ok (.invokestatic 187, 3) := by decide +kernel
theorem dX8_come_56 : decode cX8_come 56 = .ok (.ireturn, 1) := by decide +kernel
theorem dX8_hear_0 : decode cX8_hear 0 = .ok (.aload_n 0, 1) := by decide +kernel
theorem dX8_hear_1 : decode cX8_hear 1 = .ok (.iconst 0, 1) := by decide +kernel
theorem dX8_hear_2 : decode cX8_hear 2 = .ok (.putfield 1, 3) := by decide +kernel
theorem dX8_hear_5 : decode cX8_hear 5 = .ok (.aload_n 0, 1) := by decide +kernel
theorem dX8_hear_6 : decode cX8_hear 6 = .ok (.iload_n 1, 1) := by decide +kernel
theorem dX8_hear_7 : decode cX8_hear 7 = .ok (.invokevirtual 164, 3) := by decide +kernel
theorem dX8_hear_10 : decode cX8_hear 10 = .ok (.ifCond .eq 16, 3) := by decide +kernel
theorem dX8_hear_13 : decode cX8_hear 13 = .ok (.aload_n 0, 1) := by decide +kernel
theorem dX8_hear_14 : decode cX8_hear 14 = .ok (.getfield 64, 3) := by decide +kernel
theorem dX8_hear_17 : decode cX8_hear 17 = .ok (.bipush 75, 2) := by decide +kernel
theorem dX8_hear_19 : decode cX8_hear 19 = .ok (.iload_n 1, 1) := by decide +kernel
theorem dX8_hear_20 : decode cX8_hear 20 = .ok (.iadd, 1) := by decide +kernel
theorem dX8_hear_21 : decode cX8_hear 21 = .ok (.iaload, 1) := by decide +kernel
theorem dX8_hear_22 : decode cX8_hear 22 = .ok (.iconst 1, 1) := by decide +kernel
theorem dX8_hear_23 : decode cX8_hear 23 = .ok (.if_icmp .eq 5, 3) := by decide +kernel
theorem dX8_hear_26 : decode cX8_hear 26 = .ok (.iconst (-1), 1) := by decide +kernel
theorem dX8_hear_27 : decode cX8_hear 27 = .ok (.ireturn, 1) := by decide +kernel
theorem dX8_hear_28 : decode cX8_hear 28 = .ok (.aload_n 0, 1) := by decide +kernel
theorem dX8_hear_29 : decode cX8_hear 29 = .ok (.invokevirtual 193, 3) := by decide +kernel
theorem dX8_hear_32 : decode cX8_hear 32 = .ok (.aload_n 0, 1) := by decide +kernel
theorem dX8_hear_33 : decode cX8_hear 33 = .ok (.getfield 64, 3) := by decide +kernel
theorem dX8_hear_36 : decode cX8_hear 36 = .ok (.bipush 75, 2) := by decide +kernel
theorem dX8_hear_38 : decode cX8_hear 38 = .ok (.iload_n 1, 1) := by decide +kernel
theorem dX8_hear_39 : decode cX8_hear 39 = .ok (.iadd, 1) := by decide +kernel
theorem dX8_hear_40 : decode cX8_hear 40 = .ok (.iconst 2, 1) := by decide +kernel
theorem dX8_hear_41 : decode cX8_hear 41 = .ok (.iastore, 1) := by decide +kernel
theorem dX8_hear_42 : decode cX8_hear 42 = .ok (.aload_n 0, 1) := by decide +kernel
theorem dX8_hear_43 : decode cX8_hear 43 = .ok (.iconst 2, 1) := by decide +kernel
theorem dX8_hear_44 : decode cX8_hear 44 = .ok (.invokevirtual 151, 3) := by decide +kernel
theorem dX8_hear_47 : decode cX8_hear 47 = .ok (.ireturn, 1) := by decide +kernel
theorem dX8_evennessNow_0 : decode cX8_evennessNow 0 = .ok (.iconst 0, 1) := by decide +kernel
theorem dX8_evennessNow_1 : decode cX8_evennessNow 1 = .ok (.istore_n 1, 1) := by decide +kernel
theorem dX8_evennessNow_2 : decode cX8_evennessNow 2 = .ok (.iconst 0, 1) := by decide +kernel
theorem dX8_evennessNow_3 : decode cX8_evennessNow 3 = .ok (.istore_n 2, 1) := by decide +kernel
theorem dX8_evennessNow_4 : decode cX8_evennessNow 4 = .ok (.iload_n 2, 1) := by decide +kernel
theorem dX8_evennessNow_5 : decode cX8_evennessNow 5 = .ok (.aload_n 0, 1) := by decide +kernel
theorem dX8_evennessNow_6 : decode cX8_evennessNow 6 = .ok (.invokevirtual 132, 3) := by decide +kernel
theorem dX8_evennessNow_9 : decode cX8_evennessNow 9 = .ok (.if_icmp .ge 46, 3) := by decide +kernel
theorem dX8_evennessNow_12 : decode cX8_evennessNow 12 = .ok (.iconst 0, 1) := by decide +kernel
theorem dX8_evennessNow_13 : decode cX8_evennessNow 13 = .ok (.istore_n 3, 1) := by decide +kernel
theorem dX8_evennessNow_14 : decode cX8_evennessNow 14 = .ok (.iload_n 3, 1) := by decide +kernel
theorem dX8_evennessNow_15 : decode cX8_evennessNow 15 = .ok (.iload_n 2, 1) := by decide +kernel
theorem dX8_evennessNow_16 : decode cX8_evennessNow 16 = .ok (.if_icmp .ge 33, 3) := by decide +kernel
theorem dX8_evennessNow_19 : decode cX8_evennessNow 19 = .ok (.iload_n 1, 1) := by decide +kernel
theorem dX8_evennessNow_20 : decode cX8_evennessNow 20 = .ok (.aload_n 0, 1) := by decide +kernel
theorem dX8_evennessNow_21 : decode cX8_evennessNow 21 = .ok (.getfield 64, 3) := by decide +kernel
theorem dX8_evennessNow_24 : decode cX8_evennessNow 24 = .ok (.iload_n 2, 1) := by decide +kernel
theorem dX8_evennessNow_25 : decode cX8_evennessNow 25 = .ok (.iload_n 3, 1) := by decide +kernel
theorem dX8_evennessNow_26 : decode cX8_evennessNow 26 = .ok (.iconst (-1), 1) := by decide +kernel
theorem dX8_evennessNow_27 : decode cX8_evennessNow 27 = .ok (.invokestatic 147, 3) := by decide +kernel
theorem dX8_evennessNow_30 : decode cX8_evennessNow 30 = .ok (.aload_n 0, 1) := by decide +kernel
theorem dX8_evennessNow_31 : decode cX8_evennessNow 31 = .ok (.getfield 64, 3) := by decide +kernel
theorem dX8_evennessNow_34 : decode cX8_evennessNow 34 = .ok (.iload_n 2, 1) := by decide +kernel
theorem dX8_evennessNow_35 : decode cX8_evennessNow 35 = .ok (.iload_n 3, 1) := by decide +kernel
theorem dX8_evennessNow_36 : decode cX8_evennessNow 36 = .ok (.iconst (-1), 1) := by decide +kernel
theorem dX8_evennessNow_37 : decode cX8_evennessNow 37 = .ok (.invokestatic 147, 3) := by decide +kernel
theorem dX8_evennessNow_40 : decode cX8_evennessNow 40 = .ok (.imul, 1) := by decide +kernel
theorem dX8_evennessNow_41 : decode cX8_evennessNow 41 = .ok (.iadd, 1) := by decide +kernel
theorem dX8_evennessNow_42 : decode cX8_evennessNow 42 = .ok (.istore_n 1, 1) := by decide +kernel
theorem dX8_evennessNow_43 : decode cX8_evennessNow 43 = .ok (.iinc 3 1, 3) := by decide +kernel
theorem dX8_evennessNow_46 : decode cX8_evennessNow 46 = .ok (.goto (-32), 3) := by decide +kernel
theorem dX8_evennessNow_49 : decode cX8_evennessNow 49 = .ok (.iinc 2 1, 3) := by decide +kernel
theorem dX8_evennessNow_52 : decode cX8_evennessNow 52 = .ok (.goto (-48), 3) := by decide +kernel
theorem dX8_evennessNow_55 : decode cX8_evennessNow 55 = .ok (.iload_n 1, 1) := by decide +kernel
theorem dX8_evennessNow_56 : decode cX8_evennessNow 56 = .ok (.ireturn, 1) := by decide +kernel
theorem dX8_evenness_0 : decode cX8_evenness 0 = .ok (.aload_n 0, 1) := by decide +kernel
theorem dX8_evenness_1 : decode cX8_evenness 1 = .ok (.iconst 0, 1) := by decide +kernel
theorem dX8_evenness_2 : decode cX8_evenness 2 = .ok (.putfield 1, 3) := by decide +kernel
theorem dX8_evenness_5 : decode cX8_evenness 5 = .ok (.aload_n 0, 1) := by decide +kernel
theorem dX8_evenness_6 : decode cX8_evenness 6 = .ok (.invokevirtual 211, 3) := by decide +kernel
theorem dX8_evenness_9 : decode cX8_evenness 9 = .ok (.ireturn, 1) := by decide +kernel
theorem dX8_changes_0 : decode cX8_changes 0 = .ok (.aload_n 0, 1) := by decide +kernel
theorem dX8_changes_1 : decode cX8_changes 1 = .ok (.getfield 64, 3) := by decide +kernel
theorem dX8_changes_4 : decode cX8_changes 4 = .ok (.bipush 61, 2) := by decide +kernel
theorem dX8_changes_6 : decode cX8_changes 6 = .ok (.iload_n 1, 1) := by decide +kernel
theorem dX8_changes_7 : decode cX8_changes 7 = .ok (.iadd, 1) := by decide +kernel
theorem dX8_changes_8 : decode cX8_changes 8 = .ok (.dup2, 1) := by decide +kernel
theorem dX8_changes_9 : decode cX8_changes 9 = .ok (.iaload, 1) := by decide +kernel
theorem dX8_changes_10 : decode cX8_changes 10 = .ok (.iload_n 3, 1) := by decide +kernel
theorem dX8_changes_11 : decode cX8_changes 11 = .ok (.ixor, 1) := by decide +kernel
theorem dX8_changes_12 : decode cX8_changes 12 = .ok (.iastore, 1) := by decide +kernel
theorem dX8_changes_13 : decode cX8_changes 13 = .ok (.aload_n 0, 1) := by decide +kernel
theorem dX8_changes_14 : decode cX8_changes 14 = .ok (.getfield 64, 3) := by decide +kernel
theorem dX8_changes_17 : decode cX8_changes 17 = .ok (.bipush 61, 2) := by decide +kernel
theorem dX8_changes_19 : decode cX8_changes 19 = .ok (.iload_n 2, 1) := by decide +kernel
theorem dX8_changes_20 : decode cX8_changes 20 = .ok (.iadd, 1) := by decide +kernel
theorem dX8_changes_21 : decode cX8_changes 21 = .ok (.dup2, 1) := by decide +kernel
theorem dX8_changes_22 : decode cX8_changes 22 = .ok (.iaload, 1) := by decide +kernel
theorem dX8_changes_23 : decode cX8_changes 23 = .ok (.iload_n 3, 1) := by decide +kernel
theorem dX8_changes_24 : decode cX8_changes 24 = .ok (.ixor, 1) := by decide +kernel
theorem dX8_changes_25 : decode cX8_changes 25 = .ok (.iastore, 1) := by decide +kernel
theorem dX8_changes_26 : decode cX8_changes 26 = .ok (.return_, 1) := by decide +kernel
theorem dX8_exchanges_0 : decode cX8_exchanges 0 = .ok (.iload_n 1, 1) := by decide +kernel
theorem dX8_exchanges_1 : decode cX8_exchanges 1 = .ok (.iload_n 3, 1) := by decide +kernel
theorem dX8_exchanges_2 : decode cX8_exchanges 2 = .ok (.if_icmp .eq 29, 3) := by decide +kernel
theorem dX8_exchanges_5 : decode cX8_exchanges 5 = .ok (.aload_n 0, 1) := by decide +kernel
theorem dX8_exchanges_6 : decode cX8_exchanges 6 = .ok (.getfield 64, 3) := by decide +kernel
theorem dX8_exchanges_9 : decode cX8_exchanges 9 = .ok (.bipush 75, 2) := by decide +kernel
theorem dX8_exchanges_11 : decode cX8_exchanges 11 = .ok (.iload_n 1, 1) := by decide +kernel
theorem dX8_exchanges_12 : decode cX8_exchanges 12 = .ok (.iadd, 1) := by decide +kernel
theorem dX8_exchanges_13 : decode cX8_exchanges 13 = .ok (.iaload, 1) := by decide +kernel
theorem dX8_exchanges_14 : decode cX8_exchanges 14 = .ok (.iconst 1, 1) := by decide +kernel
theorem dX8_exchanges_15 : decode cX8_exchanges 15 = .ok (.if_icmp .ne 16, 3) := by decide +kernel
theorem dX8_exchanges_18 : decode cX8_exchanges 18 = .ok (.aload_n 0, 1) := by decide +kernel
theorem dX8_exchanges_19 : decode cX8_exchanges 19 = .ok (.getfield 64, 3) := by decide +kernel
theorem dX8_exchanges_22 : decode cX8_exchanges 22 = .ok (.bipush 75, 2) := by decide +kernel
theorem dX8_exchanges_24 : decode cX8_exchanges 24 = .ok (.iload_n 3, 1) := by decide +kernel
theorem dX8_exchanges_25 : decode cX8_exchanges 25 = .ok (.iadd, 1) := by decide +kernel
theorem dX8_exchanges_26 : decode cX8_exchanges 26 = .ok (.iaload, 1) := by decide +kernel
theorem dX8_exchanges_27 : decode cX8_exchanges 27 = .ok (.iconst 1, 1) := by decide +kernel
theorem dX8_exchanges_28 : decode cX8_exchanges 28 = .ok (.if_icmp .eq 5, 3) := by decide +kernel
theorem dX8_exchanges_31 : decode cX8_exchanges 31 = .ok (.iconst 0, 1) := by decide +kernel
theorem dX8_exchanges_32 : decode cX8_exchanges 32 = .ok (.ireturn, 1) := by decide +kernel
theorem dX8_exchanges_33 : decode cX8_exchanges 33 = .ok (.aload_n 0, 1) := by decide +kernel
theorem dX8_exchanges_34 : decode cX8_exchanges 34 = .ok (.getfield 64, 3) := by decide +kernel
theorem dX8_exchanges_37 : decode cX8_exchanges 37 = .ok (.bipush 61, 2) := by decide +kernel
theorem dX8_exchanges_39 : decode cX8_exchanges 39 = .ok (.iload_n 1, 1) := by decide +kernel
theorem dX8_exchanges_40 : decode cX8_exchanges 40 = .ok (.iadd, 1) := by decide +kernel
theorem dX8_exchanges_41 : decode cX8_exchanges 41 = .ok (.iaload, 1) := by decide +kernel
theorem dX8_exchanges_42 : decode cX8_exchanges 42 = .ok (.istore 5, 2) := by decide +kernel
theorem dX8_exchanges_44 : decode cX8_exchanges 44 = .ok (.aload_n 0, 1) := by decide +kernel
theorem dX8_exchanges_45 : decode cX8_exchanges 45 = .ok (.getfield 64, 3) := by decide +kernel
theorem dX8_exchanges_48 : decode cX8_exchanges 48 = .ok (.bipush 61, 2) := by decide +kernel
theorem dX8_exchanges_50 : decode cX8_exchanges 50 = .ok (.iload_n 3, 1) := by decide +kernel
theorem dX8_exchanges_51 : decode cX8_exchanges 51 = .ok (.iadd, 1) := by decide +kernel
theorem dX8_exchanges_52 : decode cX8_exchanges 52 = .ok (.iaload, 1) := by decide +kernel
theorem dX8_exchanges_53 : decode cX8_exchanges 53 = .ok (.istore 6, 2) := by decide +kernel
theorem dX8_exchanges_55 : decode cX8_exchanges 55 = .ok (.iload 5, 2) := by decide +kernel
theorem dX8_exchanges_57 : decode cX8_exchanges 57 = .ok (.iload_n 2, 1) := by decide +kernel
theorem dX8_exchanges_58 : decode cX8_exchanges 58 = .ok (.invokestatic 105, 3) := by decide +kernel
theorem dX8_exchanges_61 : decode cX8_exchanges 61 = .ok (.ifCond .eq 32, 3) := by decide +kernel
theorem dX8_exchanges_64 : decode cX8_exchanges 64 = .ok (.iload 6, 2) := by decide +kernel
theorem dX8_exchanges_66 : decode cX8_exchanges 66 = .ok (.iload_n 2, 1) := by decide +kernel
theorem dX8_exchanges_67 : decode cX8_exchanges 67 = .ok (.invokestatic 105, 3) := by decide +kernel
theorem dX8_exchanges_70 : decode cX8_exchanges 70 = .ok (.ifCond .ne 23, 3) := by decide +kernel
theorem dX8_exchanges_73 : decode cX8_exchanges 73 = .ok (.iload 6, 2) := by decide +kernel
theorem dX8_exchanges_75 : decode cX8_exchanges 75 = .ok (.iload 4, 2) := by decide +kernel
theorem dX8_exchanges_77 : decode cX8_exchanges 77 = .ok (.invokestatic 105, 3) := by decide +kernel
theorem dX8_exchanges_80 : decode cX8_exchanges 80 = .ok (.ifCond .eq 13, 3) := by decide +kernel
theorem dX8_exchanges_83 : decode cX8_exchanges 83 = .ok (.iload 5, 2) := by decide +kernel
theorem dX8_exchanges_85 : decode cX8_exchanges 85 = .ok (.iload 4, 2) := by decide +kernel
theorem dX8_exchanges_87 : decode cX8_exchanges 87 = .ok (.invokestatic 105, 3) := by decide +kernel
theorem dX8_exchanges_90 : decode cX8_exchanges 90 = .ok (.ifCond .eq 5, 3) := by decide +kernel
theorem dX8_exchanges_93 : decode cX8_exchanges 93 = .ok (.iconst 0, 1) := by decide +kernel
theorem dX8_exchanges_94 : decode cX8_exchanges 94 = .ok (.ireturn, 1) := by decide +kernel
theorem dX8_exchanges_95 : decode cX8_exchanges 95 = .ok (.iconst 1, 1) := by decide +kernel
theorem dX8_exchanges_96 : decode cX8_exchanges 96 = .ok (.iload_n 2, 1) := by decide +kernel
theorem dX8_exchanges_97 : decode cX8_exchanges 97 = .ok (.ishl, 1) := by decide +kernel
theorem dX8_exchanges_98 : decode cX8_exchanges 98 = .ok (.iconst 1, 1) := by decide +kernel
theorem dX8_exchanges_99 : decode cX8_exchanges 99 = .ok (.iload 4, 2) := by decide +kernel
theorem dX8_exchanges_101 : decode cX8_exchanges 101 = .ok (.ishl, 1) := by decide +kernel
theorem dX8_exchanges_102 : decode cX8_exchanges 102 = .ok (.ior, 1) := by decide +kernel
theorem dX8_exchanges_103 : decode cX8_exchanges 103 = .ok (.istore 7, 2) := by decide +kernel
theorem dX8_exchanges_105 : decode cX8_exchanges 105 = .ok (.aload_n 0, 1) := by decide +kernel
theorem dX8_exchanges_106 : decode cX8_exchanges 106 = .ok (.getfield 64, 3) := by decide +kernel
theorem dX8_exchanges_109 : decode cX8_exchanges 109 = .ok (.iload_n 1, 1) := by decide +kernel
theorem dX8_exchanges_110 : decode cX8_exchanges 110 = .ok (.iload 5, 2) := by decide +kernel
theorem dX8_exchanges_112 : decode cX8_exchanges 112 = .ok (.iload 7, 2) := by decide +kernel
theorem dX8_exchanges_114 : decode cX8_exchanges 114 = .ok (.ixor, 1) := by decide +kernel
theorem dX8_exchanges_115 : decode cX8_exchanges 115 = .ok (.invokestatic 170, 3) := by decide +kernel
theorem dX8_exchanges_118 : decode cX8_exchanges 118 = .ok (.ifCond .eq 19, 3) := by decide +kernel
theorem dX8_exchanges_121 : decode cX8_exchanges 121 = .ok (.aload_n 0, 1) := by decide +kernel
theorem dX8_exchanges_122 : decode cX8_exchanges 122 = .ok (.getfield 64, 3) := by decide +kernel
theorem dX8_exchanges_125 : decode cX8_exchanges 125 = .ok (.iload_n 3, 1) := by decide +kernel
theorem dX8_exchanges_126 : decode cX8_exchanges 126 = .ok (.iload 6, 2) := by decide +kernel
theorem dX8_exchanges_128 : decode cX8_exchanges 128 = .ok (.iload 7, 2) := by decide +kernel
theorem dX8_exchanges_130 : decode cX8_exchanges 130 = .ok (.ixor, 1) := by decide +kernel
theorem dX8_exchanges_131 : decode cX8_exchanges 131 = .ok (.invokestatic 170, 3) := by decide +kernel
theorem dX8_exchanges_134 : decode cX8_exchanges 134 = .ok (.ifCond .ne 5, 3) := by decide +kernel
theorem dX8_exchanges_137 : decode cX8_exchanges 137 = .ok (.iconst 0, 1) := by decide +kernel
theorem dX8_exchanges_138 : decode cX8_exchanges 138 = .ok (.ireturn, 1) := by decide +kernel
theorem dX8_exchanges_139 : decode cX8_exchanges 139 = .ok (.aload_n 0, 1) := by decide +kernel
theorem dX8_exchanges_140 : decode cX8_exchanges 140 = .ok (.iload_n 1, 1) := by decide +kernel
theorem dX8_exchanges_141 : decode cX8_exchanges 141 = .ok (.iload_n 3, 1) := by decide +kernel
theorem dX8_exchanges_142 : decode cX8_exchanges 142 = .ok (.iload 7, 2) := by decide +kernel
theorem dX8_exchanges_144 : decode cX8_exchanges 144 = .ok (.invokevirtual 214, 3) := by decide +kernel
theorem dX8_exchanges_147 : decode cX8_exchanges 147 = .ok (.iconst 1, 1) := by decide +kernel
theorem dX8_exchanges_148 : decode cX8_exchanges 148 = .ok (.ireturn, 1) := by decide +kernel
theorem dX8_laysBetter_0 : decode cX8_laysBetter 0 = .ok (.aload_n 0, 1) := by decide +kernel
theorem dX8_laysBetter_1 : decode cX8_laysBetter 1 = .ok (.invokevirtual 211, 3) := by decide +kernel
theorem dX8_laysBetter_4 : decode cX8_laysBetter 4 = .ok (.istore_n 1, 1) := by decide +kernel
theorem dX8_laysBetter_5 : decode cX8_laysBetter 5 = .ok (.iconst 0, 1) := by decide +kernel
theorem dX8_laysBetter_6 : decode cX8_laysBetter 6 = .ok (.istore_n 2, 1) := by decide +kernel
theorem dX8_laysBetter_7 : decode cX8_laysBetter 7 = .ok (.iload_n 2, 1) := by decide +kernel
theorem dX8_laysBetter_8 : decode cX8_laysBetter 8 = .ok (.aload_n 0, 1) := by decide +kernel
theorem dX8_laysBetter_9 : decode cX8_laysBetter 9 = .ok (.invokevirtual 136, 3) := by decide +kernel
theorem dX8_laysBetter_12 : decode cX8_laysBetter 12 = .ok (.if_icmp .ge 138, 3) := by decide +kernel
theorem dX8_laysBetter_15 : decode cX8_laysBetter 15 = .ok (.iconst 0, 1) := by decide +kernel
theorem dX8_laysBetter_16 : decode cX8_laysBetter 16 = .ok (.istore_n 3, 1) := by decide +kernel
theorem dX8_laysBetter_17 : decode cX8_laysBetter 17 = .ok (.iload_n 3, 1) := by decide +kernel
theorem dX8_laysBetter_18 : decode cX8_laysBetter 18 = .ok (.aload_n 0, 1) := by decide +kernel
theorem dX8_laysBetter_19 : decode cX8_laysBetter 19 = .ok (.invokevirtual 132, 3) := by decide +kernel
theorem dX8_laysBetter_22 : decode cX8_laysBetter 22 = .ok (.if_icmp .ge 122, 3) := by decide +kernel
theorem dX8_laysBetter_25 : decode cX8_laysBetter 25 = .ok (.iload_n 2, 1) := by decide +kernel
theorem dX8_laysBetter_26 : decode cX8_laysBetter 26 = .ok (.iconst 1, 1) := by decide +kernel
theorem dX8_laysBetter_27 : decode cX8_laysBetter 27 = .ok (.iadd, 1) := by decide +kernel
theorem dX8_laysBetter_28 : decode cX8_laysBetter 28 = .ok (.istore 4, 2) := by decide +kernel
theorem dX8_laysBetter_30 : decode cX8_laysBetter 30 = .ok (.iload 4, 2) := by decide +kernel
theorem dX8_laysBetter_32 : decode cX8_laysBetter 32 = .ok (.aload_n 0, 1) := by decide +kernel
theorem dX8_laysBetter_33 : decode cX8_laysBetter 33 = .ok (.invokevirtual 136, 3) := by decide +kernel
theorem dX8_laysBetter_36 : decode cX8_laysBetter 36 = .ok (.if_icmp .ge 102, 3) := by decide +kernel
theorem dX8_laysBetter_39 : decode cX8_laysBetter 39 = .ok (.iconst 0, 1) := by decide +kernel
theorem dX8_laysBetter_40 : decode cX8_laysBetter 40 = .ok (.istore 5, 2) := by decide +kernel
theorem dX8_laysBetter_42 : decode cX8_laysBetter 42 = .ok (.iload 5, 2) := by decide +kernel
theorem dX8_laysBetter_44 : decode cX8_laysBetter 44 = .ok (.aload_n 0, 1) := by decide +kernel
theorem dX8_laysBetter_45 : decode cX8_laysBetter 45 = .ok (.invokevirtual 132, 3) := by decide +kernel
theorem dX8_laysBetter_48 : decode cX8_laysBetter 48 = .ok (.if_icmp .ge 84, 3) := by decide +kernel
theorem dX8_laysBetter_51 : decode cX8_laysBetter 51 = .ok (.aload_n 0, 1) := by decide +kernel
theorem dX8_laysBetter_52 : decode cX8_laysBetter 52 = .ok (.iload_n 2, 1) := by decide +kernel
theorem dX8_laysBetter_53 : decode cX8_laysBetter 53 = .ok (.iload_n 3, 1) := by decide +kernel
theorem dX8_laysBetter_54 : decode cX8_laysBetter 54 = .ok (.iload 4, 2) := by decide +kernel
theorem dX8_laysBetter_56 : decode cX8_laysBetter 56 = .ok (.iload 5, 2) := by decide +kernel
theorem dX8_laysBetter_58 : decode cX8_laysBetter 58 = .ok (.invokevirtual 218, 3) := by decide +kernel
theorem dX8_laysBetter_61 : decode cX8_laysBetter 61 = .ok (.ifCond .ne 6, 3) := by decide +kernel
theorem dX8_laysBetter_64 : decode cX8_laysBetter 64 = .ok (.goto 62, 3) := by decide +kernel
theorem dX8_laysBetter_67 : decode cX8_laysBetter 67 = .ok (.aload_n 0, 1) := by decide +kernel
theorem dX8_laysBetter_68 : decode cX8_laysBetter 68 = .ok (.iload_n 1, 1) := by decide +kernel
theorem dX8_laysBetter_69 : decode cX8_laysBetter 69 = .ok (.aload_n 0, 1) := by decide +kernel
theorem dX8_laysBetter_70 : decode cX8_laysBetter 70 = .ok (.invokevirtual 211, 3) := by decide +kernel
theorem dX8_laysBetter_73 : decode cX8_laysBetter 73 = .ok (.isub, 1) := by decide +kernel
theorem dX8_laysBetter_74 : decode cX8_laysBetter 74 = .ok (.putfield 222, 3) := by decide +kernel
theorem dX8_laysBetter_77 : decode cX8_laysBetter 77 = .ok (.aload_n 0, 1) := by decide +kernel
theorem dX8_laysBetter_78 : decode cX8_laysBetter 78 = .ok (.iload_n 2, 1) := by decide +kernel
theorem dX8_laysBetter_79 : decode cX8_laysBetter 79 = .ok (.iload 4, 2) := by decide +kernel
theorem dX8_laysBetter_81 : decode cX8_laysBetter 81 = .ok (.iconst 1, 1) := by decide +kernel
theorem dX8_laysBetter_82 : decode cX8_laysBetter 82 = .ok (.iload_n 3, 1) := by decide +kernel
theorem dX8_laysBetter_83 : decode cX8_laysBetter 83 = .ok (.ishl, 1) := by decide +kernel
theorem dX8_laysBetter_84 : decode cX8_laysBetter 84 = .ok (.iconst 1, 1) := by decide +kernel
theorem dX8_laysBetter_85 : decode cX8_laysBetter 85 = .ok (.iload 5, 2) := by decide +kernel
theorem dX8_laysBetter_87 : decode cX8_laysBetter 87 = .ok (.ishl, 1) := by decide +kernel
theorem dX8_laysBetter_88 : decode cX8_laysBetter 88 = .ok (.ior, 1) := by decide +kernel
theorem dX8_laysBetter_89 : decode cX8_laysBetter 89 = .ok (.invokevirtual 214, 3) := by decide +kernel
theorem dX8_laysBetter_92 : decode cX8_laysBetter 92 = .ok (.aload_n 0, 1) := by decide +kernel
theorem dX8_laysBetter_93 : decode cX8_laysBetter 93 = .ok (.getfield 222, 3) := by decide +kernel
theorem dX8_laysBetter_96 : decode cX8_laysBetter 96 = .ok (.ifCond .gt 6, 3) := by decide +kernel
theorem dX8_laysBetter_99 : decode cX8_laysBetter 99 = .ok (.goto 27, 3) := by decide +kernel
theorem dX8_laysBetter_102 : decode cX8_laysBetter 102 = .ok (.aload_n 0, 1) := by decide +kernel
theorem dX8_laysBetter_103 : decode cX8_laysBetter 103 = .ok (.iload_n 2, 1) := by decide +kernel
theorem dX8_laysBetter_104 : decode cX8_laysBetter 104 = .ok (.putfield 225, 3) := by decide +kernel
theorem dX8_laysBetter_107 : decode cX8_laysBetter 107 = .ok (.aload_n 0, 1) := by decide +kernel
theorem dX8_laysBetter_108 : decode cX8_laysBetter 108 = .ok (.iload_n 3, 1) := by decide +kernel
theorem dX8_laysBetter_109 : decode cX8_laysBetter 109 = .ok (.putfield 228, 3) := by decide +kernel
theorem dX8_laysBetter_112 : decode cX8_laysBetter 112 = .ok (.aload_n 0, 1) := by decide +kernel
theorem dX8_laysBetter_113 : decode cX8_laysBetter 113 = .ok (.iload 4, 2) := by decide +kernel
theorem dX8_laysBetter_115 : decode cX8_laysBetter 115 = .ok (.putfield 231, 3) := by decide +kernel
theorem dX8_laysBetter_118 : decode cX8_laysBetter 118 = .ok (.aload_n 0, 1) := by decide +kernel
theorem dX8_laysBetter_119 : decode cX8_laysBetter 119 = .ok (.iload 5, 2) := by decide +kernel
theorem dX8_laysBetter_121 : decode cX8_laysBetter 121 = .ok (.putfield 234, 3) := by decide +kernel
theorem dX8_laysBetter_124 : decode cX8_laysBetter 124 = .ok (.iconst 1, 1) := by decide +kernel
theorem dX8_laysBetter_125 : decode cX8_laysBetter 125 = .ok (.ireturn, 1) := by decide +kernel
theorem dX8_laysBetter_126 : decode cX8_laysBetter 126 = .ok (.iinc 5 1, 3) := by decide +kernel
theorem dX8_laysBetter_129 : decode cX8_laysBetter 129 = .ok (.goto (-87), 3) := by decide +kernel
theorem dX8_laysBetter_132 : decode cX8_laysBetter 132 = .ok (.iinc 4 1, 3) := by decide +kernel
theorem dX8_laysBetter_135 : decode cX8_laysBetter 135 = .ok (.goto (-105), 3) := by decide +kernel
theorem dX8_laysBetter_138 : decode cX8_laysBetter 138 = .ok (.iinc 3 1, 3) := by decide +kernel
theorem dX8_laysBetter_141 : decode cX8_laysBetter 141 = .ok (.goto (-124), 3) := by decide +kernel
theorem dX8_laysBetter_144 : decode cX8_laysBetter 144 = .ok (.iinc 2 1, 3) := by decide +kernel
theorem dX8_laysBetter_147 : decode cX8_laysBetter 147 = .ok (.goto (-140), 3) := by decide +kernel
theorem dX8_laysBetter_150 : decode cX8_laysBetter 150 = .ok (.iconst 0, 1) := by decide +kernel
theorem dX8_laysBetter_151 : decode cX8_laysBetter 151 = .ok (.ireturn, 1) := by decide +kernel
theorem dX8_better_0 : decode cX8_better 0 = .ok (.aload_n 0, 1) := by decide +kernel
theorem dX8_better_1 : decode cX8_better 1 = .ok (.iconst 0, 1) := by decide +kernel
theorem dX8_better_2 : decode cX8_better 2 = .ok (.putfield 1, 3) := by decide +kernel
theorem dX8_better_5 : decode cX8_better 5 = .ok (.iload_n 1, 1) := by decide +kernel
theorem dX8_better_6 : decode cX8_better 6 = .ok (.iconst 0, 1) := by decide +kernel
theorem dX8_better_7 : decode cX8_better 7 = .ok (.iconst 4, 1) := by decide +kernel
theorem dX8_better_8 : decode cX8_better 8 = .ok (.invokestatic 91, 3) := by decide +kernel
theorem dX8_better_11 : decode cX8_better 11 = .ok (.ifCond .eq 10, 3) := by decide +kernel
theorem dX8_better_14 : decode cX8_better 14 = .ok (.aload_n 0, 1) := by decide +kernel
theorem dX8_better_15 : decode cX8_better 15 = .ok (.invokevirtual 237, 3) := by decide +kernel
theorem dX8_better_18 : decode cX8_better 18 = .ok (.ifCond .ne 5, 3) := by decide +kernel
theorem dX8_better_21 : decode cX8_better 21 = .ok (.iconst (-1), 1) := by decide +kernel
theorem dX8_better_22 : decode cX8_better 22 = .ok (.ireturn, 1) := by decide +kernel
theorem dX8_better_23 : decode cX8_better 23 = .ok (.iload_n 1, 1) := by decide +kernel
theorem dX8_better_24 : decode cX8_better 24 = .ok (.tableswitch 52 0 3 #[32, 37, 42, 47], 32) := by decide +kernel
theorem dX8_better_56 : decode cX8_better 56 = .ok (.aload_n 0, 1) := by decide +kernel
theorem dX8_better_57 : decode cX8_better 57 = .ok (.getfield 225, 3) := by decide +kernel
theorem dX8_better_60 : decode cX8_better 60 = .ok (.ireturn, 1) := by decide +kernel
theorem dX8_better_61 : decode cX8_better 61 = .ok (.aload_n 0, 1) := by decide +kernel
theorem dX8_better_62 : decode cX8_better 62 = .ok (.getfield 228, 3) := by decide +kernel
theorem dX8_better_65 : decode cX8_better 65 = .ok (.ireturn, 1) := by decide +kernel
theorem dX8_better_66 : decode cX8_better 66 = .ok (.aload_n 0, 1) := by decide +kernel
theorem dX8_better_67 : decode cX8_better 67 = .ok (.getfield 231, 3) := by decide +kernel
theorem dX8_better_70 : decode cX8_better 70 = .ok (.ireturn, 1) := by decide +kernel
theorem dX8_better_71 : decode cX8_better 71 = .ok (.aload_n 0, 1) := by decide +kernel
theorem dX8_better_72 : decode cX8_better 72 = .ok (.getfield 234, 3) := by decide +kernel
theorem dX8_better_75 : decode cX8_better 75 = .ok (.ireturn, 1) := by decide +kernel
theorem dX8_better_76 : decode cX8_better 76 = .ok (.aload_n 0, 1) := by decide +kernel
theorem dX8_better_77 : decode cX8_better 77 = .ok (.getfield 222, 3) := by decide +kernel
theorem dX8_better_80 : decode cX8_better 80 = .ok (.ireturn, 1) := by decide +kernel
theorem dX8_exchange_0 : decode cX8_exchange 0 = .ok (.aload_n 0, 1) := by decide +kernel
theorem dX8_exchange_1 : decode cX8_exchange 1 = .ok (.iconst 0, 1) := by decide +kernel
theorem dX8_exchange_2 : decode cX8_exchange 2 = .ok (.putfield 1, 3) := by decide +kernel
theorem dX8_exchange_5 : decode cX8_exchange 5 = .ok (.aload_n 0, 1) := by decide +kernel
theorem dX8_exchange_6 : decode cX8_exchange 6 = .ok (.iload_n 1, 1) := by decide +kernel
theorem dX8_exchange_7 : decode cX8_exchange 7 = .ok (.invokevirtual 164, 3) := by decide +kernel
theorem dX8_exchange_10 : decode cX8_exchange 10 = .ok (.ifCond .eq 28, 3) := by decide +kernel
theorem dX8_exchange_13 : decode cX8_exchange 13 = .ok (.aload_n 0, 1) := by decide +kernel
theorem dX8_exchange_14 : decode cX8_exchange 14 = .ok (.iload_n 3, 1) := by decide +kernel
theorem dX8_exchange_15 : decode cX8_exchange 15 = .ok (.invokevirtual 164, 3) := by decide +kernel
theorem dX8_exchange_18 : decode cX8_exchange 18 = .ok (.ifCond .eq 20, 3) := by decide +kernel
theorem dX8_exchange_21 : decode cX8_exchange 21 = .ok (.aload_n 0, 1) := by decide +kernel
theorem dX8_exchange_22 : decode cX8_exchange 22 = .ok (.iload_n 2, 1) := by decide +kernel
theorem dX8_exchange_23 : decode cX8_exchange 23 = .ok (.invokevirtual 154, 3) := by decide +kernel
theorem dX8_exchange_26 : decode cX8_exchange 26 = .ok (.ifCond .eq 12, 3) := by decide +kernel
theorem dX8_exchange_29 : decode cX8_exchange 29 = .ok (.aload_n 0, 1) := by decide +kernel
theorem dX8_exchange_30 : decode cX8_exchange 30 = .ok (.iload 4, 2) := by decide +kernel
theorem dX8_exchange_32 : decode cX8_exchange 32 = .ok (.invokevirtual 154, 3) := by decide +kernel
theorem dX8_exchange_35 : decode cX8_exchange 35 = .ok (.ifCond .ne 5, 3) := by decide +kernel
theorem dX8_exchange_38 : decode cX8_exchange 38 = .ok (.iconst (-1), 1) := by decide +kernel
theorem dX8_exchange_39 : decode cX8_exchange 39 = .ok (.ireturn, 1) := by decide +kernel
theorem dX8_exchange_40 : decode cX8_exchange 40 = .ok (.aload_n 0, 1) := by decide +kernel
theorem dX8_exchange_41 : decode cX8_exchange 41 = .ok (.getfield 64, 3) := by decide +kernel
theorem dX8_exchange_44 : decode cX8_exchange 44 = .ok (.iconst 0, 1) := by decide +kernel
theorem dX8_exchange_45 : decode cX8_exchange 45 = .ok (.aload_n 0, 1) := by decide +kernel
theorem dX8_exchange_46 : decode cX8_exchange 46 = .ok (.getfield 76, 3) := by decide +kernel
theorem dX8_exchange_49 : decode cX8_exchange 49 = .ok (.iconst 0, 1) := by decide +kernel
theorem dX8_exchange_50 : decode cX8_exchange 50 = .ok (.invokestatic 125, 3) := by decide +kernel
theorem dX8_exchange_53 : decode cX8_exchange 53 = .ok (.aload_n 0, 1) := by decide +kernel
theorem dX8_exchange_54 : decode cX8_exchange 54 = .ok (.iload_n 1, 1) := by decide +kernel
theorem dX8_exchange_55 : decode cX8_exchange 55 = .ok (.iload_n 2, 1) := by decide +kernel
theorem dX8_exchange_56 : decode cX8_exchange 56 = .ok (.iload_n 3, 1) := by decide +kernel
theorem dX8_exchange_57 : decode cX8_exchange 57 = .ok (.iload 4, 2) := by decide +kernel
theorem dX8_exchange_59 : decode cX8_exchange 59 = .ok (.invokevirtual 218, 3) := by decide +kernel
theorem dX8_exchange_62 : decode cX8_exchange 62 = .ok (.ifCond .ne 5, 3) := by decide +kernel
theorem dX8_exchange_65 : decode cX8_exchange 65 = .ok (.iconst (-1), 1) := by decide +kernel
theorem dX8_exchange_66 : decode cX8_exchange 66 = .ok (.ireturn, 1) := by decide +kernel
theorem dX8_exchange_67 : decode cX8_exchange 67 = .ok (.aload_n 0, 1) := by decide +kernel
theorem dX8_exchange_68 : decode cX8_exchange 68 = .ok (.invokevirtual 201, 3) := by decide +kernel
theorem dX8_exchange_71 : decode cX8_exchange 71 = .ok (.aload_n 0, 1) := by decide +kernel
theorem dX8_exchange_72 : decode cX8_exchange 72 = .ok (.invokevirtual 211, 3) := by decide +kernel
theorem dX8_exchange_75 : decode cX8_exchange 75 = .ok (.ireturn, 1) := by decide +kernel
theorem dX8_smooth_0 : decode cX8_smooth 0 = .ok (.aload_n 0, 1) := by decide +kernel
theorem dX8_smooth_1 : decode cX8_smooth 1 = .ok (.iconst 0, 1) := by decide +kernel
theorem dX8_smooth_2 : decode cX8_smooth 2 = .ok (.putfield 1, 3) := by decide +kernel
theorem dX8_smooth_5 : decode cX8_smooth 5 = .ok (.aload_n 0, 1) := by decide +kernel
theorem dX8_smooth_6 : decode cX8_smooth 6 = .ok (.getfield 64, 3) := by decide +kernel
theorem dX8_smooth_9 : decode cX8_smooth 9 = .ok (.iconst 0, 1) := by decide +kernel
theorem dX8_smooth_10 : decode cX8_smooth 10 = .ok (.aload_n 0, 1) := by decide +kernel
theorem dX8_smooth_11 : decode cX8_smooth 11 = .ok (.getfield 76, 3) := by decide +kernel
theorem dX8_smooth_14 : decode cX8_smooth 14 = .ok (.iconst 0, 1) := by decide +kernel
theorem dX8_smooth_15 : decode cX8_smooth 15 = .ok (.invokestatic 125, 3) := by decide +kernel
theorem dX8_smooth_18 : decode cX8_smooth 18 = .ok (.iconst 0, 1) := by decide +kernel
theorem dX8_smooth_19 : decode cX8_smooth 19 = .ok (.istore_n 1, 1) := by decide +kernel
theorem dX8_smooth_20 : decode cX8_smooth 20 = .ok (.iload_n 1, 1) := by decide +kernel
theorem dX8_smooth_21 : decode cX8_smooth 21 = .ok (.bipush 40, 2) := by decide +kernel
theorem dX8_smooth_23 : decode cX8_smooth 23 = .ok (.if_icmp .ge 37, 3) := by decide +kernel
theorem dX8_smooth_26 : decode cX8_smooth 26 = .ok (.aload_n 0, 1) := by decide +kernel
theorem dX8_smooth_27 : decode cX8_smooth 27 = .ok (.invokevirtual 237, 3) := by decide +kernel
theorem dX8_smooth_30 : decode cX8_smooth 30 = .ok (.ifCond .eq 30, 3) := by decide +kernel
theorem dX8_smooth_33 : decode cX8_smooth 33 = .ok (.aload_n 0, 1) := by decide +kernel
theorem dX8_smooth_34 : decode cX8_smooth 34 = .ok (.aload_n 0, 1) := by decide +kernel
theorem dX8_smooth_35 : decode cX8_smooth 35 = .ok (.getfield 225, 3) := by decide +kernel
theorem dX8_smooth_38 : decode cX8_smooth 38 = .ok (.aload_n 0, 1) := by decide +kernel
theorem dX8_smooth_39 : decode cX8_smooth 39 = .ok (.getfield 228, 3) := by decide +kernel
theorem dX8_smooth_42 : decode cX8_smooth 42 = .ok (.aload_n 0, 1) := by decide +kernel
theorem dX8_smooth_43 : decode cX8_smooth 43 = .ok (.getfield 231, 3) := by decide +kernel
theorem dX8_smooth_46 : decode cX8_smooth 46 = .ok (.aload_n 0, 1) := by decide +kernel
theorem dX8_smooth_47 : decode cX8_smooth 47 = .ok (.getfield 234, 3) := by decide +kernel
theorem dX8_smooth_50 : decode cX8_smooth 50 = .ok (.invokevirtual 218, 3) := by decide +kernel
theorem dX8_smooth_53 : decode cX8_smooth 53 = .ok (.pop, 1) := by decide +kernel
theorem dX8_smooth_54 : decode cX8_smooth 54 = .ok (.iinc 1 1, 3) := by decide +kernel
theorem dX8_smooth_57 : decode cX8_smooth 57 = .ok (.goto (-37), 3) := by decide +kernel
theorem dX8_smooth_60 : decode cX8_smooth 60 = .ok (.iload_n 1, 1) := by decide +kernel
theorem dX8_smooth_61 : decode cX8_smooth 61 = .ok (.ifCond .ne 5, 3) := by decide +kernel
theorem dX8_smooth_64 : decode cX8_smooth 64 = .ok (.iconst (-1), 1) := by decide +kernel
theorem dX8_smooth_65 : decode cX8_smooth 65 = .ok (.ireturn, 1) := by decide +kernel
theorem dX8_smooth_66 : decode cX8_smooth 66 = .ok (.aload_n 0, 1) := by decide +kernel
theorem dX8_smooth_67 : decode cX8_smooth 67 = .ok (.invokevirtual 201, 3) := by decide +kernel
theorem dX8_smooth_70 : decode cX8_smooth 70 = .ok (.iload_n 1, 1) := by decide +kernel
theorem dX8_smooth_71 : decode cX8_smooth 71 = .ok (.ireturn, 1) := by decide +kernel
theorem dX8_laysAnew_0 : decode cX8_laysAnew 0 = .ok (.aload_n 0, 1) := by decide +kernel
theorem dX8_laysAnew_1 : decode cX8_laysAnew 1 = .ok (.getfield 64, 3) := by decide +kernel
theorem dX8_laysAnew_4 : decode cX8_laysAnew 4 = .ok (.iconst 0, 1) := by decide +kernel
theorem dX8_laysAnew_5 : decode cX8_laysAnew 5 = .ok (.aload_n 0, 1) := by decide +kernel
theorem dX8_laysAnew_6 : decode cX8_laysAnew 6 = .ok (.getfield 70, 3) := by decide +kernel
theorem dX8_laysAnew_9 : decode cX8_laysAnew 9 = .ok (.iconst 0, 1) := by decide +kernel
theorem dX8_laysAnew_10 : decode cX8_laysAnew 10 = .ok (.invokestatic 125, 3) := by decide +kernel
theorem dX8_laysAnew_13 : decode cX8_laysAnew 13 = .ok (.aload_n 0, 1) := by decide +kernel
theorem dX8_laysAnew_14 : decode cX8_laysAnew 14 = .ok (.getfield 70, 3) := by decide +kernel
theorem dX8_laysAnew_17 : decode cX8_laysAnew 17 = .ok (.iconst 5, 1) := by decide +kernel
theorem dX8_laysAnew_18 : decode cX8_laysAnew 18 = .ok (.aload_n 0, 1) := by decide +kernel
theorem dX8_laysAnew_19 : decode cX8_laysAnew 19 = .ok (.getfield 64, 3) := by decide +kernel
theorem dX8_laysAnew_22 : decode cX8_laysAnew 22 = .ok (.iconst 4, 1) := by decide +kernel
theorem dX8_laysAnew_23 : decode cX8_laysAnew 23 = .ok (.iaload, 1) := by decide +kernel
theorem dX8_laysAnew_24 : decode cX8_laysAnew 24 = .ok (.iastore, 1) := by decide +kernel
theorem dX8_laysAnew_25 : decode cX8_laysAnew 25 = .ok (.aload_n 0, 1) := by decide +kernel
theorem dX8_laysAnew_26 : decode cX8_laysAnew 26 = .ok (.getfield 70, 3) := by decide +kernel
theorem dX8_laysAnew_29 : decode cX8_laysAnew 29 = .ok (.bipush 17, 2) := by decide +kernel
theorem dX8_laysAnew_31 : decode cX8_laysAnew 31 = .ok (.iconst 0, 1) := by decide +kernel
theorem dX8_laysAnew_32 : decode cX8_laysAnew 32 = .ok (.iastore, 1) := by decide +kernel
theorem dX8_laysAnew_33 : decode cX8_laysAnew 33 = .ok (.iconst 0, 1) := by decide +kernel
theorem dX8_laysAnew_34 : decode cX8_laysAnew 34 = .ok (.istore_n 1, 1) := by decide +kernel
theorem dX8_laysAnew_35 : decode cX8_laysAnew 35 = .ok (.iload_n 1, 1) := by decide +kernel
theorem dX8_laysAnew_36 : decode cX8_laysAnew 36 = .ok (.bipush 14, 2) := by decide +kernel
theorem dX8_laysAnew_38 : decode cX8_laysAnew 38 = .ok (.if_icmp .ge 47, 3) := by decide +kernel
theorem dX8_laysAnew_41 : decode cX8_laysAnew 41 = .ok (.aload_n 0, 1) := by decide +kernel
theorem dX8_laysAnew_42 : decode cX8_laysAnew 42 = .ok (.getfield 70, 3) := by decide +kernel
theorem dX8_laysAnew_45 : decode cX8_laysAnew 45 = .ok (.bipush 47, 2) := by decide +kernel
theorem dX8_laysAnew_47 : decode cX8_laysAnew 47 = .ok (.iload_n 1, 1) := by decide +kernel
theorem dX8_laysAnew_48 : decode cX8_laysAnew 48 = .ok (.iadd, 1) := by decide +kernel
theorem dX8_laysAnew_49 : decode cX8_laysAnew 49 = .ok (.aload_n 0, 1) := by decide +kernel
theorem dX8_laysAnew_50 : decode cX8_laysAnew 50 = .ok (.getfield 64, 3) := by decide +kernel
theorem dX8_laysAnew_53 : decode cX8_laysAnew 53 = .ok (.bipush 33, 2) := by decide +kernel
theorem dX8_laysAnew_55 : decode cX8_laysAnew 55 = .ok (.iload_n 1, 1) := by decide +kernel
theorem dX8_laysAnew_56 : decode cX8_laysAnew 56 = .ok (.iadd, 1) := by decide +kernel
theorem dX8_laysAnew_57 : decode cX8_laysAnew 57 = .ok (.iaload, 1) := by decide +kernel
theorem dX8_laysAnew_58 : decode cX8_laysAnew 58 = .ok (.iastore, 1) := by decide +kernel
theorem dX8_laysAnew_59 : decode cX8_laysAnew 59 = .ok (.aload_n 0, 1) := by decide +kernel
theorem dX8_laysAnew_60 : decode cX8_laysAnew 60 = .ok (.getfield 70, 3) := by decide +kernel
theorem dX8_laysAnew_63 : decode cX8_laysAnew 63 = .ok (.bipush 61, 2) := by decide +kernel
theorem dX8_laysAnew_65 : decode cX8_laysAnew 65 = .ok (.iload_n 1, 1) := by decide +kernel
theorem dX8_laysAnew_66 : decode cX8_laysAnew 66 = .ok (.iadd, 1) := by decide +kernel
theorem dX8_laysAnew_67 : decode cX8_laysAnew 67 = .ok (.iconst 0, 1) := by decide +kernel
theorem dX8_laysAnew_68 : decode cX8_laysAnew 68 = .ok (.iastore, 1) := by decide +kernel
theorem dX8_laysAnew_69 : decode cX8_laysAnew 69 = .ok (.aload_n 0, 1) := by decide +kernel
theorem dX8_laysAnew_70 : decode cX8_laysAnew 70 = .ok (.getfield 70, 3) := by decide +kernel
theorem dX8_laysAnew_73 : decode cX8_laysAnew 73 = .ok (.bipush 75, 2) := by decide +kernel
theorem dX8_laysAnew_75 : decode cX8_laysAnew 75 = .ok (.iload_n 1, 1) := by decide +kernel
theorem dX8_laysAnew_76 : decode cX8_laysAnew 76 = .ok (.iadd, 1) := by decide +kernel
theorem dX8_laysAnew_77 : decode cX8_laysAnew 77 = .ok (.iconst 0, 1) := by decide +kernel
theorem dX8_laysAnew_78 : decode cX8_laysAnew 78 = .ok (.iastore, 1) := by decide +kernel
theorem dX8_laysAnew_79 : decode cX8_laysAnew 79 = .ok (.iinc 1 1, 3) := by decide +kernel
theorem dX8_laysAnew_82 : decode cX8_laysAnew 82 = .ok (.goto (-47), 3) := by decide +kernel
theorem dX8_laysAnew_85 : decode cX8_laysAnew 85 = .ok (.aload_n 0, 1) := by decide +kernel
theorem dX8_laysAnew_86 : decode cX8_laysAnew 86 = .ok (.aload_n 0, 1) := by decide +kernel
theorem dX8_laysAnew_87 : decode cX8_laysAnew 87 = .ok (.getfield 70, 3) := by decide +kernel
theorem dX8_laysAnew_90 : decode cX8_laysAnew 90 = .ok (.invokevirtual 204, 3) := by decide +kernel
theorem dX8_laysAnew_93 : decode cX8_laysAnew 93 = .ok (.pop, 1) := by decide +kernel
theorem dX8_laysAnew_94 : decode cX8_laysAnew 94 = .ok (.return_, 1) := by decide +kernel
theorem dX8_same_0 : decode cX8_same 0 = .ok (.aload_n 0, 1) := by decide +kernel
theorem dX8_same_1 : decode cX8_same 1 = .ok (.iconst 0, 1) := by decide +kernel
theorem dX8_same_2 : decode cX8_same 2 = .ok (.putfield 1, 3) := by decide +kernel
theorem dX8_same_5 : decode cX8_same 5 = .ok (.aload_n 0, 1) := by decide +kernel
theorem dX8_same_6 : decode cX8_same 6 = .ok (.invokevirtual 240, 3) := by decide +kernel
theorem dX8_same_9 : decode cX8_same 9 = .ok (.iconst 0, 1) := by decide +kernel
theorem dX8_same_10 : decode cX8_same 10 = .ok (.istore_n 1, 1) := by decide +kernel
theorem dX8_same_11 : decode cX8_same 11 = .ok (.iconst 0, 1) := by decide +kernel
theorem dX8_same_12 : decode cX8_same 12 = .ok (.istore_n 2, 1) := by decide +kernel
theorem dX8_same_13 : decode cX8_same 13 = .ok (.iload_n 2, 1) := by decide +kernel
theorem dX8_same_14 : decode cX8_same 14 = .ok (.aload_n 0, 1) := by decide +kernel
theorem dX8_same_15 : decode cX8_same 15 = .ok (.invokevirtual 136, 3) := by decide +kernel
theorem dX8_same_18 : decode cX8_same 18 = .ok (.if_icmp .ge 33, 3) := by decide +kernel
theorem dX8_same_21 : decode cX8_same 21 = .ok (.aload_n 0, 1) := by decide +kernel
theorem dX8_same_22 : decode cX8_same 22 = .ok (.getfield 64, 3) := by decide +kernel
theorem dX8_same_25 : decode cX8_same 25 = .ok (.bipush 61, 2) := by decide +kernel
theorem dX8_same_27 : decode cX8_same 27 = .ok (.iload_n 2, 1) := by decide +kernel
theorem dX8_same_28 : decode cX8_same 28 = .ok (.iadd, 1) := by decide +kernel
theorem dX8_same_29 : decode cX8_same 29 = .ok (.iaload, 1) := by decide +kernel
theorem dX8_same_30 : decode cX8_same 30 = .ok (.aload_n 0, 1) := by decide +kernel
theorem dX8_same_31 : decode cX8_same 31 = .ok (.getfield 70, 3) := by decide +kernel
theorem dX8_same_34 : decode cX8_same 34 = .ok (.bipush 61, 2) := by decide +kernel
theorem dX8_same_36 : decode cX8_same 36 = .ok (.iload_n 2, 1) := by decide +kernel
theorem dX8_same_37 : decode cX8_same 37 = .ok (.iadd, 1) := by decide +kernel
theorem dX8_same_38 : decode cX8_same 38 = .ok (.iaload, 1) := by decide +kernel
theorem dX8_same_39 : decode cX8_same 39 = .ok (.if_icmp .ne 6, 3) := by decide +kernel
theorem dX8_same_42 : decode cX8_same 42 = .ok (.iinc 1 1, 3) := by decide +kernel
theorem dX8_same_45 : decode cX8_same 45 = .ok (.iinc 2 1, 3) := by decide +kernel
theorem dX8_same_48 : decode cX8_same 48 = .ok (.goto (-35), 3) := by decide +kernel
theorem dX8_same_51 : decode cX8_same 51 = .ok (.iload_n 1, 1) := by decide +kernel
theorem dX8_same_52 : decode cX8_same 52 = .ok (.ireturn, 1) := by decide +kernel
theorem dX8_anew_0 : decode cX8_anew 0 = .ok (.aload_n 0, 1) := by decide +kernel
theorem dX8_anew_1 : decode cX8_anew 1 = .ok (.iconst 0, 1) := by decide +kernel
theorem dX8_anew_2 : decode cX8_anew 2 = .ok (.putfield 1, 3) := by decide +kernel
theorem dX8_anew_5 : decode cX8_anew 5 = .ok (.aload_n 0, 1) := by decide +kernel
theorem dX8_anew_6 : decode cX8_anew 6 = .ok (.iload_n 1, 1) := by decide +kernel
theorem dX8_anew_7 : decode cX8_anew 7 = .ok (.invokevirtual 164, 3) := by decide +kernel
theorem dX8_anew_10 : decode cX8_anew 10 = .ok (.ifCond .ne 5, 3) := by decide +kernel
theorem dX8_anew_13 : decode cX8_anew 13 = .ok (.iconst (-1), 1) := by decide +kernel
theorem dX8_anew_14 : decode cX8_anew 14 = .ok (.ireturn, 1) := by decide +kernel
theorem dX8_anew_15 : decode cX8_anew 15 = .ok (.aload_n 0, 1) := by decide +kernel
theorem dX8_anew_16 : decode cX8_anew 16 = .ok (.invokevirtual 240, 3) := by decide +kernel
theorem dX8_anew_19 : decode cX8_anew 19 = .ok (.aload_n 0, 1) := by decide +kernel
theorem dX8_anew_20 : decode cX8_anew 20 = .ok (.getfield 70, 3) := by decide +kernel
theorem dX8_anew_23 : decode cX8_anew 23 = .ok (.bipush 61, 2) := by decide +kernel
theorem dX8_anew_25 : decode cX8_anew 25 = .ok (.iload_n 1, 1) := by decide +kernel
theorem dX8_anew_26 : decode cX8_anew 26 = .ok (.iadd, 1) := by decide +kernel
theorem dX8_anew_27 : decode cX8_anew 27 = .ok (.iaload, 1) := by decide +kernel
theorem dX8_anew_28 : decode cX8_anew 28 = .ok (.ireturn, 1) := by decide +kernel
theorem dX8_undo_0 : decode cX8_undo 0 = .ok (.aload_n 0, 1) := by decide +kernel
theorem dX8_undo_1 : decode cX8_undo 1 = .ok (.iconst 0, 1) := by decide +kernel
theorem dX8_undo_2 : decode cX8_undo 2 = .ok (.putfield 1, 3) := by decide +kernel
theorem dX8_undo_5 : decode cX8_undo 5 = .ok (.aload_n 0, 1) := by decide +kernel
theorem dX8_undo_6 : decode cX8_undo 6 = .ok (.getfield 129, 3) := by decide +kernel
theorem dX8_undo_9 : decode cX8_undo 9 = .ok (.ifCond .ne 5, 3) := by decide +kernel
theorem dX8_undo_12 : decode cX8_undo 12 = .ok (.iconst (-1), 1) := by decide +kernel
theorem dX8_undo_13 : decode cX8_undo 13 = .ok (.ireturn, 1) := by decide +kernel
theorem dX8_undo_14 : decode cX8_undo 14 = .ok (.aload_n 0, 1) := by decide +kernel
theorem dX8_undo_15 : decode cX8_undo 15 = .ok (.dup, 1) := by decide +kernel
theorem dX8_undo_16 : decode cX8_undo 16 = .ok (.getfield 129, 3) := by decide +kernel
theorem dX8_undo_19 : decode cX8_undo 19 = .ok (.iconst 1, 1) := by decide +kernel
theorem dX8_undo_20 : decode cX8_undo 20 = .ok (.isub, 1) := by decide +kernel
theorem dX8_undo_21 : decode cX8_undo 21 = .ok (.putfield 129, 3) := by decide +kernel
theorem dX8_undo_24 : decode cX8_undo 24 = .ok (.aload_n 0, 1) := by decide +kernel
theorem dX8_undo_25 : decode cX8_undo 25 = .ok (.getfield 73, 3) := by decide +kernel
theorem dX8_undo_28 : decode cX8_undo 28 = .ok (.bipush 89, 2) := by decide +kernel
theorem dX8_undo_30 : decode cX8_undo 30 = .ok (.aload_n 0, 1) := by decide +kernel
theorem dX8_undo_31 : decode cX8_undo 31 = .ok (.getfield 129, 3) := by decide +kernel
theorem dX8_undo_34 : decode cX8_undo 34 = .ok (.imul, 1) := by decide +kernel
theorem dX8_undo_35 : decode cX8_undo 35 = .ok (.aload_n 0, 1) := by decide +kernel
theorem dX8_undo_36 : decode cX8_undo 36 = .ok (.getfield 64, 3) := by decide +kernel
theorem dX8_undo_39 : decode cX8_undo 39 = .ok (.iconst 0, 1) := by decide +kernel
theorem dX8_undo_40 : decode cX8_undo 40 = .ok (.invokestatic 125, 3) := by decide +kernel
theorem dX8_undo_43 : decode cX8_undo 43 = .ok (.aload_n 0, 1) := by decide +kernel
theorem dX8_undo_44 : decode cX8_undo 44 = .ok (.getfield 129, 3) := by decide +kernel
theorem dX8_undo_47 : decode cX8_undo 47 = .ok (.ireturn, 1) := by decide +kernel
end
section
theorem dL_judge_0 : decode cL_judge 0 = .ok (.aload_n 3, 1) := by decide +kernel
theorem dL_judge_1 : decode cL_judge 1 = .ok (.iconst 0, 1) := by decide +kernel
theorem dL_judge_2 : decode cL_judge 2 = .ok (.aload_n 0, 1) := by decide +kernel
theorem dL_judge_3 : decode cL_judge 3 = .ok (.iload_n 1, 1) := by decide +kernel
theorem dL_judge_4 : decode cL_judge 4 = .ok (.iload_n 2, 1) := by decide +kernel
theorem dL_judge_5 : decode cL_judge 5 = .ok (.invokevirtual 7, 3) := by decide +kernel
theorem dL_judge_8 : decode cL_judge 8 = .ok (.i2l, 1) := by decide +kernel
theorem dL_judge_9 : decode cL_judge 9 = .ok (.lastore, 1) := by decide +kernel
theorem dL_judge_10 : decode cL_judge 10 = .ok (.goto 7, 3) := by decide +kernel
theorem dL_judge_13 : decode cL_judge 13 = .ok (.astore 4, 2) := by decide +kernel
theorem dL_judge_15 : decode cL_judge 15 = .ok (.iconst 1, 1) := by decide +kernel
theorem dL_judge_16 : decode cL_judge 16 = .ok (.ireturn, 1) := by decide +kernel
theorem dL_judge_17 : decode cL_judge 17 = .ok (.iconst 0, 1) := by decide +kernel
theorem dL_judge_18 : decode cL_judge 18 = .ok (.ireturn, 1) := by decide +kernel
theorem dL_of_0 : decode cL_of 0 = .ok (.aload_n 3, 1) := by decide +kernel
theorem dL_of_1 : decode cL_of 1 = .ok (.iconst 0, 1) := by decide +kernel
theorem dL_of_2 : decode cL_of 2 = .ok (.aload_n 0, 1) := by decide +kernel
theorem dL_of_3 : decode cL_of 3 = .ok (.iload_n 1, 1) := by decide +kernel
theorem dL_of_4 : decode cL_of 4 = .ok (.iload_n 2, 1) := by decide +kernel
theorem dL_of_5 : decode cL_of 5 = .ok (.invokevirtual 15, 3) := by decide +kernel
theorem dL_of_8 : decode cL_of 8 = .ok (.i2l, 1) := by decide +kernel
theorem dL_of_9 : decode cL_of 9 = .ok (.lastore, 1) := by decide +kernel
theorem dL_of_10 : decode cL_of 10 = .ok (.goto 7, 3) := by decide +kernel
theorem dL_of_13 : decode cL_of 13 = .ok (.astore 4, 2) := by decide +kernel
theorem dL_of_15 : decode cL_of 15 = .ok (.iconst 1, 1) := by decide +kernel
theorem dL_of_16 : decode cL_of 16 = .ok (.ireturn, 1) := by decide +kernel
theorem dL_of_17 : decode cL_of 17 = .ok (.iconst 0, 1) := by decide +kernel
theorem dL_of_18 : decode cL_of 18 = .ok (.ireturn, 1) := by decide +kernel
theorem dL_law_0 : decode cL_law 0 = .ok (.new 8, 3) := by decide +kernel
theorem dL_law_3 : decode cL_law 3 = .ok (.dup, 1) := by decide +kernel
theorem dL_law_4 : decode cL_law 4 = .ok (.invokespecial 18, 3) := by decide +kernel
theorem dL_law_7 : decode cL_law 7 = .ok (.astore_n 1, 1) := by decide +kernel
theorem dL_law_8 : decode cL_law 8 = .ok (.new 19, 3) := by decide +kernel
theorem dL_law_11 : decode cL_law 11 = .ok (.dup, 1) := by decide +kernel
theorem dL_law_12 : decode cL_law 12 = .ok (.invokespecial 21, 3) := by decide +kernel
theorem dL_law_15 : decode cL_law 15 = .ok (.astore_n 2, 1) := by decide +kernel
theorem dL_law_16 : decode cL_law 16 = .ok (.iconst 1, 1) := by decide +kernel
theorem dL_law_17 : decode cL_law 17 = .ok (.newarray .long, 2) := by decide +kernel
theorem dL_law_19 : decode cL_law 19 = .ok (.astore_n 3, 1) := by decide +kernel
theorem dL_law_20 : decode cL_law 20 = .ok (.iconst 0, 1) := by decide +kernel
theorem dL_law_21 : decode cL_law 21 = .ok (.istore 4, 2) := by decide +kernel
theorem dL_law_23 : decode cL_law 23 = .ok (.iload 4, 2) := by decide +kernel
theorem dL_law_25 : decode cL_law 25 = .ok (.aload_n 0, 1) := by decide +kernel
theorem dL_law_26 : decode cL_law 26 = .ok (.arraylength, 1) := by decide +kernel
theorem dL_law_27 : decode cL_law 27 = .ok (.bipush 6, 2) := by decide +kernel
theorem dL_law_29 : decode cL_law 29 = .ok (.isub, 1) := by decide +kernel
theorem dL_law_30 : decode cL_law 30 = .ok (.if_icmp .gt 1031, 3) := by decide +kernel
theorem dL_law_33 : decode cL_law 33 = .ok (.aload_n 0, 1) := by decide +kernel
theorem dL_law_34 : decode cL_law 34 = .ok (.iload 4, 2) := by decide +kernel
theorem dL_law_36 : decode cL_law 36 = .ok (.iaload, 1) := by decide +kernel
theorem dL_law_37 : decode cL_law 37 = .ok (.bipush 31, 2) := by decide +kernel
theorem dL_law_39 : decode cL_law 39 = .ok (.iand, 1) := by decide +kernel
theorem dL_law_40 : decode cL_law 40 = .ok (.tableswitch 1015 0 28 #[132, 205, 230, 243, 256, 281, 349, 417, 454, 479, 504, 541, 578, 615, 640, 677, 702, 727, 740, 777, 802, 827, 852, 865, 890, 951, 964, 977, 1002], 132) := by decide +kernel
theorem dL_law_172 : decode cL_law 172 = .ok (.aload_n 1, 1) := by decide +kernel
theorem dL_law_173 : decode cL_law 173 = .ok (.aload_n 0, 1) := by decide +kernel
theorem dL_law_174 : decode cL_law 174 = .ok (.iload 4, 2) := by decide +kernel
theorem dL_law_176 : decode cL_law 176 = .ok (.iconst 1, 1) := by decide +kernel
theorem dL_law_177 : decode cL_law 177 = .ok (.iadd, 1) := by decide +kernel
theorem dL_law_178 : decode cL_law 178 = .ok (.iaload, 1) := by decide +kernel
theorem dL_law_179 : decode cL_law 179 = .ok (.aload_n 0, 1) := by decide +kernel
theorem dL_law_180 : decode cL_law 180 = .ok (.iload 4, 2) := by decide +kernel
theorem dL_law_182 : decode cL_law 182 = .ok (.iconst 2, 1) := by decide +kernel
theorem dL_law_183 : decode cL_law 183 = .ok (.iadd, 1) := by decide +kernel
theorem dL_law_184 : decode cL_law 184 = .ok (.iaload, 1) := by decide +kernel
theorem dL_law_185 : decode cL_law 185 = .ok (.aload_n 0, 1) := by decide +kernel
theorem dL_law_186 : decode cL_law 186 = .ok (.iload 4, 2) := by decide +kernel
theorem dL_law_188 : decode cL_law 188 = .ok (.iconst 3, 1) := by decide +kernel
theorem dL_law_189 : decode cL_law 189 = .ok (.iadd, 1) := by decide +kernel
theorem dL_law_190 : decode cL_law 190 = .ok (.iaload, 1) := by decide +kernel
theorem dL_law_191 : decode cL_law 191 = .ok (.aload_n 0, 1) := by decide +kernel
theorem dL_law_192 : decode cL_law 192 = .ok (.iload 4, 2) := by decide +kernel
theorem dL_law_194 : decode cL_law 194 = .ok (.iconst 4, 1) := by decide +kernel
theorem dL_law_195 : decode cL_law 195 = .ok (.iadd, 1) := by decide +kernel
theorem dL_law_196 : decode cL_law 196 = .ok (.iaload, 1) := by decide +kernel
theorem dL_law_197 : decode cL_law 197 = .ok (.aload_n 0, 1) := by decide +kernel
theorem dL_law_198 : decode cL_law 198 = .ok (.iload 4, 2) := by decide +kernel
theorem dL_law_200 : decode cL_law 200 = .ok (.iconst 5, 1) := by decide +kernel
theorem dL_law_201 : decode cL_law 201 = .ok (.iadd, 1) := by decide +kernel
theorem dL_law_202 : decode cL_law 202 = .ok (.iaload, 1) := by decide +kernel
theorem dL_law_203 : decode cL_law 203 = .ok (.invokevirtual 22, 3) := by decide +kernel
theorem dL_law_206 : decode cL_law 206 = .ok (.aload_n 2, 1) := by decide +kernel
theorem dL_law_207 : decode cL_law 207 = .ok (.aload_n 0, 1) := by decide +kernel
theorem dL_law_208 : decode cL_law 208 = .ok (.iload 4, 2) := by decide +kernel
theorem dL_law_210 : decode cL_law 210 = .ok (.iconst 1, 1) := by decide +kernel
theorem dL_law_211 : decode cL_law 211 = .ok (.iadd, 1) := by decide +kernel
theorem dL_law_212 : decode cL_law 212 = .ok (.iaload, 1) := by decide +kernel
theorem dL_law_213 : decode cL_law 213 = .ok (.aload_n 0, 1) := by decide +kernel
theorem dL_law_214 : decode cL_law 214 = .ok (.iload 4, 2) := by decide +kernel
theorem dL_law_216 : decode cL_law 216 = .ok (.iconst 2, 1) := by decide +kernel
theorem dL_law_217 : decode cL_law 217 = .ok (.iadd, 1) := by decide +kernel
theorem dL_law_218 : decode cL_law 218 = .ok (.iaload, 1) := by decide +kernel
theorem dL_law_219 : decode cL_law 219 = .ok (.aload_n 0, 1) := by decide +kernel
theorem dL_law_220 : decode cL_law 220 = .ok (.iload 4, 2) := by decide +kernel
theorem dL_law_222 : decode cL_law 222 = .ok (.iconst 3, 1) := by decide +kernel
theorem dL_law_223 : decode cL_law 223 = .ok (.iadd, 1) := by decide +kernel
theorem dL_law_224 : decode cL_law 224 = .ok (.iaload, 1) := by decide +kernel
theorem dL_law_225 : decode cL_law 225 = .ok (.aload_n 0, 1) := by decide +kernel
theorem dL_law_226 : decode cL_law 226 = .ok (.iload 4, 2) := by decide +kernel
theorem dL_law_228 : decode cL_law 228 = .ok (.iconst 4, 1) := by decide +kernel
theorem dL_law_229 : decode cL_law 229 = .ok (.iadd, 1) := by decide +kernel
theorem dL_law_230 : decode cL_law 230 = .ok (.iaload, 1) := by decide +kernel
theorem dL_law_231 : decode cL_law 231 = .ok (.aload_n 0, 1) := by decide +kernel
theorem dL_law_232 : decode cL_law 232 = .ok (.iload 4, 2) := by decide +kernel
theorem dL_law_234 : decode cL_law 234 = .ok (.iconst 5, 1) := by decide +kernel
theorem dL_law_235 : decode cL_law 235 = .ok (.iadd, 1) := by decide +kernel
theorem dL_law_236 : decode cL_law 236 = .ok (.iaload, 1) := by decide +kernel
theorem dL_law_237 : decode cL_law 237 = .ok (.invokevirtual 26, 3) := by decide +kernel
theorem dL_law_240 : decode cL_law 240 = .ok (.if_icmp .eq 815, 3) := by decide +kernel
theorem dL_law_243 : decode cL_law 243 = .ok (.iconst 0, 1) := by decide +kernel
theorem dL_law_244 : decode cL_law 244 = .ok (.ireturn, 1) := by decide +kernel
theorem dL_law_245 : decode cL_law 245 = .ok (.aload_n 1, 1) := by decide +kernel
theorem dL_law_246 : decode cL_law 246 = .ok (.aload_n 0, 1) := by decide +kernel
theorem dL_law_247 : decode cL_law 247 = .ok (.iload 4, 2) := by decide +kernel
theorem dL_law_249 : decode cL_law 249 = .ok (.iconst 1, 1) := by decide +kernel
theorem dL_law_250 : decode cL_law 250 = .ok (.iadd, 1) := by decide +kernel
theorem dL_law_251 : decode cL_law 251 = .ok (.iaload, 1) := by decide +kernel
theorem dL_law_252 : decode cL_law 252 = .ok (.invokevirtual 27, 3) := by decide +kernel
theorem dL_law_255 : decode cL_law 255 = .ok (.aload_n 2, 1) := by decide +kernel
theorem dL_law_256 : decode cL_law 256 = .ok (.aload_n 0, 1) := by decide +kernel
theorem dL_law_257 : decode cL_law 257 = .ok (.iload 4, 2) := by decide +kernel
theorem dL_law_259 : decode cL_law 259 = .ok (.iconst 1, 1) := by decide +kernel
theorem dL_law_260 : decode cL_law 260 = .ok (.iadd, 1) := by decide +kernel
theorem dL_law_261 : decode cL_law 261 = .ok (.iaload, 1) := by decide +kernel
theorem dL_law_262 : decode cL_law 262 = .ok (.invokevirtual 31, 3) := by decide +kernel
theorem dL_law_265 : decode cL_law 265 = .ok (.if_icmp .eq 790, 3) := by decide +kernel
theorem dL_law_268 : decode cL_law 268 = .ok (.iconst 0, 1) := by decide +kernel
theorem dL_law_269 : decode cL_law 269 = .ok (.ireturn, 1) := by decide +kernel
theorem dL_law_270 : decode cL_law 270 = .ok (.aload_n 1, 1) := by decide +kernel
theorem dL_law_271 : decode cL_law 271 = .ok (.invokevirtual 32, 3) := by decide +kernel
theorem dL_law_274 : decode cL_law 274 = .ok (.aload_n 2, 1) := by decide +kernel
theorem dL_law_275 : decode cL_law 275 = .ok (.invokevirtual 36, 3) := by decide +kernel
theorem dL_law_278 : decode cL_law 278 = .ok (.if_icmp .eq 777, 3) := by decide +kernel
theorem dL_law_281 : decode cL_law 281 = .ok (.iconst 0, 1) := by decide +kernel
theorem dL_law_282 : decode cL_law 282 = .ok (.ireturn, 1) := by decide +kernel
theorem dL_law_283 : decode cL_law 283 = .ok (.aload_n 1, 1) := by decide +kernel
theorem dL_law_284 : decode cL_law 284 = .ok (.invokevirtual 37, 3) := by decide +kernel
theorem dL_law_287 : decode cL_law 287 = .ok (.aload_n 2, 1) := by decide +kernel
theorem dL_law_288 : decode cL_law 288 = .ok (.invokevirtual 40, 3) := by decide +kernel
theorem dL_law_291 : decode cL_law 291 = .ok (.if_icmp .eq 764, 3) := by decide +kernel
theorem dL_law_294 : decode cL_law 294 = .ok (.iconst 0, 1) := by decide +kernel
theorem dL_law_295 : decode cL_law 295 = .ok (.ireturn, 1) := by decide +kernel
theorem dL_law_296 : decode cL_law 296 = .ok (.aload_n 1, 1) := by decide +kernel
theorem dL_law_297 : decode cL_law 297 = .ok (.aload_n 0, 1) := by decide +kernel
theorem dL_law_298 : decode cL_law 298 = .ok (.iload 4, 2) := by decide +kernel
theorem dL_law_300 : decode cL_law 300 = .ok (.iconst 1, 1) := by decide +kernel
theorem dL_law_301 : decode cL_law 301 = .ok (.iadd, 1) := by decide +kernel
theorem dL_law_302 : decode cL_law 302 = .ok (.iaload, 1) := by decide +kernel
theorem dL_law_303 : decode cL_law 303 = .ok (.invokevirtual 41, 3) := by decide +kernel
theorem dL_law_306 : decode cL_law 306 = .ok (.aload_n 2, 1) := by decide +kernel
theorem dL_law_307 : decode cL_law 307 = .ok (.aload_n 0, 1) := by decide +kernel
theorem dL_law_308 : decode cL_law 308 = .ok (.iload 4, 2) := by decide +kernel
theorem dL_law_310 : decode cL_law 310 = .ok (.iconst 1, 1) := by decide +kernel
theorem dL_law_311 : decode cL_law 311 = .ok (.iadd, 1) := by decide +kernel
theorem dL_law_312 : decode cL_law 312 = .ok (.iaload, 1) := by decide +kernel
theorem dL_law_313 : decode cL_law 313 = .ok (.invokevirtual 45, 3) := by decide +kernel
theorem dL_law_316 : decode cL_law 316 = .ok (.if_icmp .eq 739, 3) := by decide +kernel
theorem dL_law_319 : decode cL_law 319 = .ok (.iconst 0, 1) := by decide +kernel
theorem dL_law_320 : decode cL_law 320 = .ok (.ireturn, 1) := by decide +kernel
theorem dL_law_321 : decode cL_law 321 = .ok (.aload_n 1, 1) := by decide +kernel
theorem dL_law_322 : decode cL_law 322 = .ok (.aload_n 0, 1) := by decide +kernel
theorem dL_law_323 : decode cL_law 323 = .ok (.iload 4, 2) := by decide +kernel
theorem dL_law_325 : decode cL_law 325 = .ok (.iconst 1, 1) := by decide +kernel
theorem dL_law_326 : decode cL_law 326 = .ok (.iadd, 1) := by decide +kernel
theorem dL_law_327 : decode cL_law 327 = .ok (.iaload, 1) := by decide +kernel
theorem dL_law_328 : decode cL_law 328 = .ok (.aload_n 0, 1) := by decide +kernel
theorem dL_law_329 : decode cL_law 329 = .ok (.iload 4, 2) := by decide +kernel
theorem dL_law_331 : decode cL_law 331 = .ok (.iconst 2, 1) := by decide +kernel
theorem dL_law_332 : decode cL_law 332 = .ok (.iadd, 1) := by decide +kernel
theorem dL_law_333 : decode cL_law 333 = .ok (.iaload, 1) := by decide +kernel
theorem dL_law_334 : decode cL_law 334 = .ok (.aload_n 3, 1) := by decide +kernel
theorem dL_law_335 : decode cL_law 335 = .ok (.invokestatic 46, 3) := by decide +kernel
theorem dL_law_338 : decode cL_law 338 = .ok (.istore 5, 2) := by decide +kernel
theorem dL_law_340 : decode cL_law 340 = .ok (.aload_n 2, 1) := by decide +kernel
theorem dL_law_341 : decode cL_law 341 = .ok (.aload_n 0, 1) := by decide +kernel
theorem dL_law_342 : decode cL_law 342 = .ok (.iload 4, 2) := by decide +kernel
theorem dL_law_344 : decode cL_law 344 = .ok (.iconst 1, 1) := by decide +kernel
theorem dL_law_345 : decode cL_law 345 = .ok (.iadd, 1) := by decide +kernel
theorem dL_law_346 : decode cL_law 346 = .ok (.iaload, 1) := by decide +kernel
theorem dL_law_347 : decode cL_law 347 = .ok (.aload_n 0, 1) := by decide +kernel
theorem dL_law_348 : decode cL_law 348 = .ok (.iload 4, 2) := by decide +kernel
theorem dL_law_350 : decode cL_law 350 = .ok (.iconst 2, 1) := by decide +kernel
theorem dL_law_351 : decode cL_law 351 = .ok (.iadd, 1) := by decide +kernel
theorem dL_law_352 : decode cL_law 352 = .ok (.iaload, 1) := by decide +kernel
theorem dL_law_353 : decode cL_law 353 = .ok (.invokevirtual 51, 3) := by decide +kernel
theorem dL_law_356 : decode cL_law 356 = .ok (.istore 6, 2) := by decide +kernel
theorem dL_law_358 : decode cL_law 358 = .ok (.aload_n 2, 1) := by decide +kernel
theorem dL_law_359 : decode cL_law 359 = .ok (.invokevirtual 52, 3) := by decide +kernel
theorem dL_law_362 : decode cL_law 362 = .ok (.iload 5, 2) := by decide +kernel
theorem dL_law_364 : decode cL_law 364 = .ok (.if_icmp .eq 5, 3) := by decide +kernel
theorem dL_law_367 : decode cL_law 367 = .ok (.iconst 0, 1) := by decide +kernel
theorem dL_law_368 : decode cL_law 368 = .ok (.ireturn, 1) := by decide +kernel
theorem dL_law_369 : decode cL_law 369 = .ok (.iload 5, 2) := by decide +kernel
theorem dL_law_371 : decode cL_law 371 = .ok (.ifCond .ne 15, 3) := by decide +kernel
theorem dL_law_374 : decode cL_law 374 = .ok (.aload_n 3, 1) := by decide +kernel
theorem dL_law_375 : decode cL_law 375 = .ok (.iconst 0, 1) := by decide +kernel
theorem dL_law_376 : decode cL_law 376 = .ok (.laload, 1) := by decide +kernel
theorem dL_law_377 : decode cL_law 377 = .ok (.iload 6, 2) := by decide +kernel
theorem dL_law_379 : decode cL_law 379 = .ok (.i2l, 1) := by decide +kernel
theorem dL_law_380 : decode cL_law 380 = .ok (.lcmp, 1) := by decide +kernel
theorem dL_law_381 : decode cL_law 381 = .ok (.ifCond .eq 5, 3) := by decide +kernel
theorem dL_law_384 : decode cL_law 384 = .ok (.iconst 0, 1) := by decide +kernel
theorem dL_law_385 : decode cL_law 385 = .ok (.ireturn, 1) := by decide +kernel
theorem dL_law_386 : decode cL_law 386 = .ok (.goto 669, 3) := by decide +kernel
theorem dL_law_389 : decode cL_law 389 = .ok (.aload_n 1, 1) := by decide +kernel
theorem dL_law_390 : decode cL_law 390 = .ok (.aload_n 0, 1) := by decide +kernel
theorem dL_law_391 : decode cL_law 391 = .ok (.iload 4, 2) := by decide +kernel
theorem dL_law_393 : decode cL_law 393 = .ok (.iconst 1, 1) := by decide +kernel
theorem dL_law_394 : decode cL_law 394 = .ok (.iadd, 1) := by decide +kernel
theorem dL_law_395 : decode cL_law 395 = .ok (.iaload, 1) := by decide +kernel
theorem dL_law_396 : decode cL_law 396 = .ok (.aload_n 0, 1) := by decide +kernel
theorem dL_law_397 : decode cL_law 397 = .ok (.iload 4, 2) := by decide +kernel
theorem dL_law_399 : decode cL_law 399 = .ok (.iconst 2, 1) := by decide +kernel
theorem dL_law_400 : decode cL_law 400 = .ok (.iadd, 1) := by decide +kernel
theorem dL_law_401 : decode cL_law 401 = .ok (.iaload, 1) := by decide +kernel
theorem dL_law_402 : decode cL_law 402 = .ok (.aload_n 3, 1) := by decide +kernel
theorem dL_law_403 : decode cL_law 403 = .ok (.invokestatic 55, 3) := by decide +kernel
theorem dL_law_406 : decode cL_law 406 = .ok (.istore 5, 2) := by decide +kernel
theorem dL_law_408 : decode cL_law 408 = .ok (.aload_n 2, 1) := by decide +kernel
theorem dL_law_409 : decode cL_law 409 = .ok (.aload_n 0, 1) := by decide +kernel
theorem dL_law_410 : decode cL_law 410 = .ok (.iload 4, 2) := by decide +kernel
theorem dL_law_412 : decode cL_law 412 = .ok (.iconst 1, 1) := by decide +kernel
theorem dL_law_413 : decode cL_law 413 = .ok (.iadd, 1) := by decide +kernel
theorem dL_law_414 : decode cL_law 414 = .ok (.iaload, 1) := by decide +kernel
theorem dL_law_415 : decode cL_law 415 = .ok (.aload_n 0, 1) := by decide +kernel
theorem dL_law_416 : decode cL_law 416 = .ok (.iload 4, 2) := by decide +kernel
theorem dL_law_418 : decode cL_law 418 = .ok (.iconst 2, 1) := by decide +kernel
theorem dL_law_419 : decode cL_law 419 = .ok (.iadd, 1) := by decide +kernel
theorem dL_law_420 : decode cL_law 420 = .ok (.iaload, 1) := by decide +kernel
theorem dL_law_421 : decode cL_law 421 = .ok (.invokevirtual 57, 3) := by decide +kernel
theorem dL_law_424 : decode cL_law 424 = .ok (.istore 6, 2) := by decide +kernel
theorem dL_law_426 : decode cL_law 426 = .ok (.aload_n 2, 1) := by decide +kernel
theorem dL_law_427 : decode cL_law 427 = .ok (.invokevirtual 52, 3) := by decide +kernel
theorem dL_law_430 : decode cL_law 430 = .ok (.iload 5, 2) := by decide +kernel
theorem dL_law_432 : decode cL_law 432 = .ok (.if_icmp .eq 5, 3) := by decide +kernel
theorem dL_law_435 : decode cL_law 435 = .ok (.iconst 0, 1) := by decide +kernel
theorem dL_law_436 : decode cL_law 436 = .ok (.ireturn, 1) := by decide +kernel
theorem dL_law_437 : decode cL_law 437 = .ok (.iload 5, 2) := by decide +kernel
theorem dL_law_439 : decode cL_law 439 = .ok (.ifCond .ne 15, 3) := by decide +kernel
theorem dL_law_442 : decode cL_law 442 = .ok (.aload_n 3, 1) := by decide +kernel
theorem dL_law_443 : decode cL_law 443 = .ok (.iconst 0, 1) := by decide +kernel
theorem dL_law_444 : decode cL_law 444 = .ok (.laload, 1) := by decide +kernel
theorem dL_law_445 : decode cL_law 445 = .ok (.iload 6, 2) := by decide +kernel
theorem dL_law_447 : decode cL_law 447 = .ok (.i2l, 1) := by decide +kernel
theorem dL_law_448 : decode cL_law 448 = .ok (.lcmp, 1) := by decide +kernel
theorem dL_law_449 : decode cL_law 449 = .ok (.ifCond .eq 5, 3) := by decide +kernel
theorem dL_law_452 : decode cL_law 452 = .ok (.iconst 0, 1) := by decide +kernel
theorem dL_law_453 : decode cL_law 453 = .ok (.ireturn, 1) := by decide +kernel
theorem dL_law_454 : decode cL_law 454 = .ok (.goto 601, 3) := by decide +kernel
theorem dL_law_457 : decode cL_law 457 = .ok (.aload_n 1, 1) := by decide +kernel
theorem dL_law_458 : decode cL_law 458 = .ok (.aload_n 0, 1) := by decide +kernel
theorem dL_law_459 : decode cL_law 459 = .ok (.iload 4, 2) := by decide +kernel
theorem dL_law_461 : decode cL_law 461 = .ok (.iconst 1, 1) := by decide +kernel
theorem dL_law_462 : decode cL_law 462 = .ok (.iadd, 1) := by decide +kernel
theorem dL_law_463 : decode cL_law 463 = .ok (.iaload, 1) := by decide +kernel
theorem dL_law_464 : decode cL_law 464 = .ok (.aload_n 0, 1) := by decide +kernel
theorem dL_law_465 : decode cL_law 465 = .ok (.iload 4, 2) := by decide +kernel
theorem dL_law_467 : decode cL_law 467 = .ok (.iconst 2, 1) := by decide +kernel
theorem dL_law_468 : decode cL_law 468 = .ok (.iadd, 1) := by decide +kernel
theorem dL_law_469 : decode cL_law 469 = .ok (.iaload, 1) := by decide +kernel
theorem dL_law_470 : decode cL_law 470 = .ok (.invokevirtual 58, 3) := by decide +kernel
theorem dL_law_473 : decode cL_law 473 = .ok (.aload_n 2, 1) := by decide +kernel
theorem dL_law_474 : decode cL_law 474 = .ok (.aload_n 0, 1) := by decide +kernel
theorem dL_law_475 : decode cL_law 475 = .ok (.iload 4, 2) := by decide +kernel
theorem dL_law_477 : decode cL_law 477 = .ok (.iconst 1, 1) := by decide +kernel
theorem dL_law_478 : decode cL_law 478 = .ok (.iadd, 1) := by decide +kernel
theorem dL_law_479 : decode cL_law 479 = .ok (.iaload, 1) := by decide +kernel
theorem dL_law_480 : decode cL_law 480 = .ok (.aload_n 0, 1) := by decide +kernel
theorem dL_law_481 : decode cL_law 481 = .ok (.iload 4, 2) := by decide +kernel
theorem dL_law_483 : decode cL_law 483 = .ok (.iconst 2, 1) := by decide +kernel
theorem dL_law_484 : decode cL_law 484 = .ok (.iadd, 1) := by decide +kernel
theorem dL_law_485 : decode cL_law 485 = .ok (.iaload, 1) := by decide +kernel
theorem dL_law_486 : decode cL_law 486 = .ok (.invokevirtual 61, 3) := by decide +kernel
theorem dL_law_489 : decode cL_law 489 = .ok (.if_icmp .eq 566, 3) := by decide +kernel
theorem dL_law_492 : decode cL_law 492 = .ok (.iconst 0, 1) := by decide +kernel
theorem dL_law_493 : decode cL_law 493 = .ok (.ireturn, 1) := by decide +kernel
theorem dL_law_494 : decode cL_law 494 = .ok (.aload_n 1, 1) := by decide +kernel
theorem dL_law_495 : decode cL_law 495 = .ok (.aload_n 0, 1) := by decide +kernel
theorem dL_law_496 : decode cL_law 496 = .ok (.iload 4, 2) := by decide +kernel
theorem dL_law_498 : decode cL_law 498 = .ok (.iconst 1, 1) := by decide +kernel
theorem dL_law_499 : decode cL_law 499 = .ok (.iadd, 1) := by decide +kernel
theorem dL_law_500 : decode cL_law 500 = .ok (.iaload, 1) := by decide +kernel
theorem dL_law_501 : decode cL_law 501 = .ok (.invokevirtual 62, 3) := by decide +kernel
theorem dL_law_504 : decode cL_law 504 = .ok (.aload_n 2, 1) := by decide +kernel
theorem dL_law_505 : decode cL_law 505 = .ok (.aload_n 0, 1) := by decide +kernel
theorem dL_law_506 : decode cL_law 506 = .ok (.iload 4, 2) := by decide +kernel
theorem dL_law_508 : decode cL_law 508 = .ok (.iconst 1, 1) := by decide +kernel
theorem dL_law_509 : decode cL_law 509 = .ok (.iadd, 1) := by decide +kernel
theorem dL_law_510 : decode cL_law 510 = .ok (.iaload, 1) := by decide +kernel
theorem dL_law_511 : decode cL_law 511 = .ok (.invokevirtual 65, 3) := by decide +kernel
theorem dL_law_514 : decode cL_law 514 = .ok (.if_icmp .eq 541, 3) := by decide +kernel
theorem dL_law_517 : decode cL_law 517 = .ok (.iconst 0, 1) := by decide +kernel
theorem dL_law_518 : decode cL_law 518 = .ok (.ireturn, 1) := by decide +kernel
theorem dL_law_519 : decode cL_law 519 = .ok (.aload_n 1, 1) := by decide +kernel
theorem dL_law_520 : decode cL_law 520 = .ok (.aload_n 0, 1) := by decide +kernel
theorem dL_law_521 : decode cL_law 521 = .ok (.iload 4, 2) := by decide +kernel
theorem dL_law_523 : decode cL_law 523 = .ok (.iconst 1, 1) := by decide +kernel
theorem dL_law_524 : decode cL_law 524 = .ok (.iadd, 1) := by decide +kernel
theorem dL_law_525 : decode cL_law 525 = .ok (.iaload, 1) := by decide +kernel
theorem dL_law_526 : decode cL_law 526 = .ok (.invokevirtual 66, 3) := by decide +kernel
theorem dL_law_529 : decode cL_law 529 = .ok (.aload_n 2, 1) := by decide +kernel
theorem dL_law_530 : decode cL_law 530 = .ok (.aload_n 0, 1) := by decide +kernel
theorem dL_law_531 : decode cL_law 531 = .ok (.iload 4, 2) := by decide +kernel
theorem dL_law_533 : decode cL_law 533 = .ok (.iconst 1, 1) := by decide +kernel
theorem dL_law_534 : decode cL_law 534 = .ok (.iadd, 1) := by decide +kernel
theorem dL_law_535 : decode cL_law 535 = .ok (.iaload, 1) := by decide +kernel
theorem dL_law_536 : decode cL_law 536 = .ok (.invokevirtual 69, 3) := by decide +kernel
theorem dL_law_539 : decode cL_law 539 = .ok (.if_icmp .eq 516, 3) := by decide +kernel
theorem dL_law_542 : decode cL_law 542 = .ok (.iconst 0, 1) := by decide +kernel
theorem dL_law_543 : decode cL_law 543 = .ok (.ireturn, 1) := by decide +kernel
theorem dL_law_544 : decode cL_law 544 = .ok (.aload_n 1, 1) := by decide +kernel
theorem dL_law_545 : decode cL_law 545 = .ok (.aload_n 0, 1) := by decide +kernel
theorem dL_law_546 : decode cL_law 546 = .ok (.iload 4, 2) := by decide +kernel
theorem dL_law_548 : decode cL_law 548 = .ok (.iconst 1, 1) := by decide +kernel
theorem dL_law_549 : decode cL_law 549 = .ok (.iadd, 1) := by decide +kernel
theorem dL_law_550 : decode cL_law 550 = .ok (.iaload, 1) := by decide +kernel
theorem dL_law_551 : decode cL_law 551 = .ok (.aload_n 0, 1) := by decide +kernel
theorem dL_law_552 : decode cL_law 552 = .ok (.iload 4, 2) := by decide +kernel
theorem dL_law_554 : decode cL_law 554 = .ok (.iconst 2, 1) := by decide +kernel
theorem dL_law_555 : decode cL_law 555 = .ok (.iadd, 1) := by decide +kernel
theorem dL_law_556 : decode cL_law 556 = .ok (.iaload, 1) := by decide +kernel
theorem dL_law_557 : decode cL_law 557 = .ok (.invokevirtual 70, 3) := by decide +kernel
theorem dL_law_560 : decode cL_law 560 = .ok (.aload_n 2, 1) := by decide +kernel
theorem dL_law_561 : decode cL_law 561 = .ok (.aload_n 0, 1) := by decide +kernel
theorem dL_law_562 : decode cL_law 562 = .ok (.iload 4, 2) := by decide +kernel
theorem dL_law_564 : decode cL_law 564 = .ok (.iconst 1, 1) := by decide +kernel
theorem dL_law_565 : decode cL_law 565 = .ok (.iadd, 1) := by decide +kernel
theorem dL_law_566 : decode cL_law 566 = .ok (.iaload, 1) := by decide +kernel
theorem dL_law_567 : decode cL_law 567 = .ok (.aload_n 0, 1) := by decide +kernel
theorem dL_law_568 : decode cL_law 568 = .ok (.iload 4, 2) := by decide +kernel
theorem dL_law_570 : decode cL_law 570 = .ok (.iconst 2, 1) := by decide +kernel
theorem dL_law_571 : decode cL_law 571 = .ok (.iadd, 1) := by decide +kernel
theorem dL_law_572 : decode cL_law 572 = .ok (.iaload, 1) := by decide +kernel
theorem dL_law_573 : decode cL_law 573 = .ok (.invokevirtual 73, 3) := by decide +kernel
theorem dL_law_576 : decode cL_law 576 = .ok (.if_icmp .eq 479, 3) := by decide +kernel
theorem dL_law_579 : decode cL_law 579 = .ok (.iconst 0, 1) := by decide +kernel
theorem dL_law_580 : decode cL_law 580 = .ok (.ireturn, 1) := by decide +kernel
theorem dL_law_581 : decode cL_law 581 = .ok (.aload_n 1, 1) := by decide +kernel
theorem dL_law_582 : decode cL_law 582 = .ok (.aload_n 0, 1) := by decide +kernel
theorem dL_law_583 : decode cL_law 583 = .ok (.iload 4, 2) := by decide +kernel
theorem dL_law_585 : decode cL_law 585 = .ok (.iconst 1, 1) := by decide +kernel
theorem dL_law_586 : decode cL_law 586 = .ok (.iadd, 1) := by decide +kernel
theorem dL_law_587 : decode cL_law 587 = .ok (.iaload, 1) := by decide +kernel
theorem dL_law_588 : decode cL_law 588 = .ok (.aload_n 0, 1) := by decide +kernel
theorem dL_law_589 : decode cL_law 589 = .ok (.iload 4, 2) := by decide +kernel
theorem dL_law_591 : decode cL_law 591 = .ok (.iconst 2, 1) := by decide +kernel
theorem dL_law_592 : decode cL_law 592 = .ok (.iadd, 1) := by decide +kernel
theorem dL_law_593 : decode cL_law 593 = .ok (.iaload, 1) := by decide +kernel
theorem dL_law_594 : decode cL_law 594 = .ok (.invokevirtual 74, 3) := by decide +kernel
theorem dL_law_597 : decode cL_law 597 = .ok (.aload_n 2, 1) := by decide +kernel
theorem dL_law_598 : decode cL_law 598 = .ok (.aload_n 0, 1) := by decide +kernel
theorem dL_law_599 : decode cL_law 599 = .ok (.iload 4, 2) := by decide +kernel
theorem dL_law_601 : decode cL_law 601 = .ok (.iconst 1, 1) := by decide +kernel
theorem dL_law_602 : decode cL_law 602 = .ok (.iadd, 1) := by decide +kernel
theorem dL_law_603 : decode cL_law 603 = .ok (.iaload, 1) := by decide +kernel
theorem dL_law_604 : decode cL_law 604 = .ok (.aload_n 0, 1) := by decide +kernel
theorem dL_law_605 : decode cL_law 605 = .ok (.iload 4, 2) := by decide +kernel
theorem dL_law_607 : decode cL_law 607 = .ok (.iconst 2, 1) := by decide +kernel
theorem dL_law_608 : decode cL_law 608 = .ok (.iadd, 1) := by decide +kernel
theorem dL_law_609 : decode cL_law 609 = .ok (.iaload, 1) := by decide +kernel
theorem dL_law_610 : decode cL_law 610 = .ok (.invokevirtual 77, 3) := by decide +kernel
theorem dL_law_613 : decode cL_law 613 = .ok (.if_icmp .eq 442, 3) := by decide +kernel
theorem dL_law_616 : decode cL_law 616 = .ok (.iconst 0, 1) := by decide +kernel
theorem dL_law_617 : decode cL_law 617 = .ok (.ireturn, 1) := by decide +kernel
theorem dL_law_618 : decode cL_law 618 = .ok (.aload_n 1, 1) := by decide +kernel
theorem dL_law_619 : decode cL_law 619 = .ok (.aload_n 0, 1) := by decide +kernel
theorem dL_law_620 : decode cL_law 620 = .ok (.iload 4, 2) := by decide +kernel
theorem dL_law_622 : decode cL_law 622 = .ok (.iconst 1, 1) := by decide +kernel
theorem dL_law_623 : decode cL_law 623 = .ok (.iadd, 1) := by decide +kernel
theorem dL_law_624 : decode cL_law 624 = .ok (.iaload, 1) := by decide +kernel
theorem dL_law_625 : decode cL_law 625 = .ok (.aload_n 0, 1) := by decide +kernel
theorem dL_law_626 : decode cL_law 626 = .ok (.iload 4, 2) := by decide +kernel
theorem dL_law_628 : decode cL_law 628 = .ok (.iconst 2, 1) := by decide +kernel
theorem dL_law_629 : decode cL_law 629 = .ok (.iadd, 1) := by decide +kernel
theorem dL_law_630 : decode cL_law 630 = .ok (.iaload, 1) := by decide +kernel
theorem dL_law_631 : decode cL_law 631 = .ok (.invokevirtual 78, 3) := by decide +kernel
theorem dL_law_634 : decode cL_law 634 = .ok (.aload_n 2, 1) := by decide +kernel
theorem dL_law_635 : decode cL_law 635 = .ok (.aload_n 0, 1) := by decide +kernel
theorem dL_law_636 : decode cL_law 636 = .ok (.iload 4, 2) := by decide +kernel
theorem dL_law_638 : decode cL_law 638 = .ok (.iconst 1, 1) := by decide +kernel
theorem dL_law_639 : decode cL_law 639 = .ok (.iadd, 1) := by decide +kernel
theorem dL_law_640 : decode cL_law 640 = .ok (.iaload, 1) := by decide +kernel
theorem dL_law_641 : decode cL_law 641 = .ok (.aload_n 0, 1) := by decide +kernel
theorem dL_law_642 : decode cL_law 642 = .ok (.iload 4, 2) := by decide +kernel
theorem dL_law_644 : decode cL_law 644 = .ok (.iconst 2, 1) := by decide +kernel
theorem dL_law_645 : decode cL_law 645 = .ok (.iadd, 1) := by decide +kernel
theorem dL_law_646 : decode cL_law 646 = .ok (.iaload, 1) := by decide +kernel
theorem dL_law_647 : decode cL_law 647 = .ok (.invokevirtual 81, 3) := by decide +kernel
theorem dL_law_650 : decode cL_law 650 = .ok (.if_icmp .eq 405, 3) := by decide +kernel
theorem dL_law_653 : decode cL_law 653 = .ok (.iconst 0, 1) := by decide +kernel
theorem dL_law_654 : decode cL_law 654 = .ok (.ireturn, 1) := by decide +kernel
theorem dL_law_655 : decode cL_law 655 = .ok (.aload_n 1, 1) := by decide +kernel
theorem dL_law_656 : decode cL_law 656 = .ok (.aload_n 0, 1) := by decide +kernel
theorem dL_law_657 : decode cL_law 657 = .ok (.iload 4, 2) := by decide +kernel
theorem dL_law_659 : decode cL_law 659 = .ok (.iconst 1, 1) := by decide +kernel
theorem dL_law_660 : decode cL_law 660 = .ok (.iadd, 1) := by decide +kernel
theorem dL_law_661 : decode cL_law 661 = .ok (.iaload, 1) := by decide +kernel
theorem dL_law_662 : decode cL_law 662 = .ok (.invokevirtual 82, 3) := by decide +kernel
theorem dL_law_665 : decode cL_law 665 = .ok (.aload_n 2, 1) := by decide +kernel
theorem dL_law_666 : decode cL_law 666 = .ok (.aload_n 0, 1) := by decide +kernel
theorem dL_law_667 : decode cL_law 667 = .ok (.iload 4, 2) := by decide +kernel
theorem dL_law_669 : decode cL_law 669 = .ok (.iconst 1, 1) := by decide +kernel
theorem dL_law_670 : decode cL_law 670 = .ok (.iadd, 1) := by decide +kernel
theorem dL_law_671 : decode cL_law 671 = .ok (.iaload, 1) := by decide +kernel
theorem dL_law_672 : decode cL_law 672 = .ok (.invokevirtual 85, 3) := by decide +kernel
theorem dL_law_675 : decode cL_law 675 = .ok (.if_icmp .eq 380, 3) := by decide +kernel
theorem dL_law_678 : decode cL_law 678 = .ok (.iconst 0, 1) := by decide +kernel
theorem dL_law_679 : decode cL_law 679 = .ok (.ireturn, 1) := by decide +kernel
theorem dL_law_680 : decode cL_law 680 = .ok (.aload_n 1, 1) := by decide +kernel
theorem dL_law_681 : decode cL_law 681 = .ok (.aload_n 0, 1) := by decide +kernel
theorem dL_law_682 : decode cL_law 682 = .ok (.iload 4, 2) := by decide +kernel
theorem dL_law_684 : decode cL_law 684 = .ok (.iconst 1, 1) := by decide +kernel
theorem dL_law_685 : decode cL_law 685 = .ok (.iadd, 1) := by decide +kernel
theorem dL_law_686 : decode cL_law 686 = .ok (.iaload, 1) := by decide +kernel
theorem dL_law_687 : decode cL_law 687 = .ok (.aload_n 0, 1) := by decide +kernel
theorem dL_law_688 : decode cL_law 688 = .ok (.iload 4, 2) := by decide +kernel
theorem dL_law_690 : decode cL_law 690 = .ok (.iconst 2, 1) := by decide +kernel
theorem dL_law_691 : decode cL_law 691 = .ok (.iadd, 1) := by decide +kernel
theorem dL_law_692 : decode cL_law 692 = .ok (.iaload, 1) := by decide +kernel
theorem dL_law_693 : decode cL_law 693 = .ok (.invokevirtual 86, 3) := by decide +kernel
theorem dL_law_696 : decode cL_law 696 = .ok (.aload_n 2, 1) := by decide +kernel
theorem dL_law_697 : decode cL_law 697 = .ok (.aload_n 0, 1) := by decide +kernel
theorem dL_law_698 : decode cL_law 698 = .ok (.iload 4, 2) := by decide +kernel
theorem dL_law_700 : decode cL_law 700 = .ok (.iconst 1, 1) := by decide +kernel
theorem dL_law_701 : decode cL_law 701 = .ok (.iadd, 1) := by decide +kernel
theorem dL_law_702 : decode cL_law 702 = .ok (.iaload, 1) := by decide +kernel
theorem dL_law_703 : decode cL_law 703 = .ok (.aload_n 0, 1) := by decide +kernel
theorem dL_law_704 : decode cL_law 704 = .ok (.iload 4, 2) := by decide +kernel
theorem dL_law_706 : decode cL_law 706 = .ok (.iconst 2, 1) := by decide +kernel
theorem dL_law_707 : decode cL_law 707 = .ok (.iadd, 1) := by decide +kernel
theorem dL_law_708 : decode cL_law 708 = .ok (.iaload, 1) := by decide +kernel
theorem dL_law_709 : decode cL_law 709 = .ok (.invokevirtual 89, 3) := by decide +kernel
theorem dL_law_712 : decode cL_law 712 = .ok (.if_icmp .eq 343, 3) := by decide +kernel
theorem dL_law_715 : decode cL_law 715 = .ok (.iconst 0, 1) := by decide +kernel
theorem dL_law_716 : decode cL_law 716 = .ok (.ireturn, 1) := by decide +kernel
theorem dL_law_717 : decode cL_law 717 = .ok (.aload_n 1, 1) := by decide +kernel
theorem dL_law_718 : decode cL_law 718 = .ok (.aload_n 0, 1) := by decide +kernel
theorem dL_law_719 : decode cL_law 719 = .ok (.iload 4, 2) := by decide +kernel
theorem dL_law_721 : decode cL_law 721 = .ok (.iconst 1, 1) := by decide +kernel
theorem dL_law_722 : decode cL_law 722 = .ok (.iadd, 1) := by decide +kernel
theorem dL_law_723 : decode cL_law 723 = .ok (.iaload, 1) := by decide +kernel
theorem dL_law_724 : decode cL_law 724 = .ok (.invokevirtual 90, 3) := by decide +kernel
theorem dL_law_727 : decode cL_law 727 = .ok (.aload_n 2, 1) := by decide +kernel
theorem dL_law_728 : decode cL_law 728 = .ok (.aload_n 0, 1) := by decide +kernel
theorem dL_law_729 : decode cL_law 729 = .ok (.iload 4, 2) := by decide +kernel
theorem dL_law_731 : decode cL_law 731 = .ok (.iconst 1, 1) := by decide +kernel
theorem dL_law_732 : decode cL_law 732 = .ok (.iadd, 1) := by decide +kernel
theorem dL_law_733 : decode cL_law 733 = .ok (.iaload, 1) := by decide +kernel
theorem dL_law_734 : decode cL_law 734 = .ok (.invokevirtual 93, 3) := by decide +kernel
theorem dL_law_737 : decode cL_law 737 = .ok (.if_icmp .eq 318, 3) := by decide +kernel
theorem dL_law_740 : decode cL_law 740 = .ok (.iconst 0, 1) := by decide +kernel
theorem dL_law_741 : decode cL_law 741 = .ok (.ireturn, 1) := by decide +kernel
theorem dL_law_742 : decode cL_law 742 = .ok (.aload_n 1, 1) := by decide +kernel
theorem dL_law_743 : decode cL_law 743 = .ok (.aload_n 0, 1) := by decide +kernel
theorem dL_law_744 : decode cL_law 744 = .ok (.iload 4, 2) := by decide +kernel
theorem dL_law_746 : decode cL_law 746 = .ok (.iconst 1, 1) := by decide +kernel
theorem dL_law_747 : decode cL_law 747 = .ok (.iadd, 1) := by decide +kernel
theorem dL_law_748 : decode cL_law 748 = .ok (.iaload, 1) := by decide +kernel
theorem dL_law_749 : decode cL_law 749 = .ok (.invokevirtual 94, 3) := by decide +kernel
theorem dL_law_752 : decode cL_law 752 = .ok (.aload_n 2, 1) := by decide +kernel
theorem dL_law_753 : decode cL_law 753 = .ok (.aload_n 0, 1) := by decide +kernel
theorem dL_law_754 : decode cL_law 754 = .ok (.iload 4, 2) := by decide +kernel
theorem dL_law_756 : decode cL_law 756 = .ok (.iconst 1, 1) := by decide +kernel
theorem dL_law_757 : decode cL_law 757 = .ok (.iadd, 1) := by decide +kernel
theorem dL_law_758 : decode cL_law 758 = .ok (.iaload, 1) := by decide +kernel
theorem dL_law_759 : decode cL_law 759 = .ok (.invokevirtual 97, 3) := by decide +kernel
theorem dL_law_762 : decode cL_law 762 = .ok (.if_icmp .eq 293, 3) := by decide +kernel
theorem dL_law_765 : decode cL_law 765 = .ok (.iconst 0, 1) := by decide +kernel
theorem dL_law_766 : decode cL_law 766 = .ok (.ireturn, 1) := by decide +kernel
theorem dL_law_767 : decode cL_law 767 = .ok (.aload_n 1, 1) := by decide +kernel
theorem dL_law_768 : decode cL_law 768 = .ok (.invokevirtual 98, 3) := by decide +kernel
theorem dL_law_771 : decode cL_law 771 = .ok (.aload_n 2, 1) := by decide +kernel
theorem dL_law_772 : decode cL_law 772 = .ok (.invokevirtual 101, 3) := by decide +kernel
theorem dL_law_775 : decode cL_law 775 = .ok (.if_icmp .eq 280, 3) := by decide +kernel
theorem dL_law_778 : decode cL_law 778 = .ok (.iconst 0, 1) := by decide +kernel
theorem dL_law_779 : decode cL_law 779 = .ok (.ireturn, 1) := by decide +kernel
theorem dL_law_780 : decode cL_law 780 = .ok (.aload_n 1, 1) := by decide +kernel
theorem dL_law_781 : decode cL_law 781 = .ok (.aload_n 0, 1) := by decide +kernel
theorem dL_law_782 : decode cL_law 782 = .ok (.iload 4, 2) := by decide +kernel
theorem dL_law_784 : decode cL_law 784 = .ok (.iconst 1, 1) := by decide +kernel
theorem dL_law_785 : decode cL_law 785 = .ok (.iadd, 1) := by decide +kernel
theorem dL_law_786 : decode cL_law 786 = .ok (.iaload, 1) := by decide +kernel
theorem dL_law_787 : decode cL_law 787 = .ok (.aload_n 0, 1) := by decide +kernel
theorem dL_law_788 : decode cL_law 788 = .ok (.iload 4, 2) := by decide +kernel
theorem dL_law_790 : decode cL_law 790 = .ok (.iconst 2, 1) := by decide +kernel
theorem dL_law_791 : decode cL_law 791 = .ok (.iadd, 1) := by decide +kernel
theorem dL_law_792 : decode cL_law 792 = .ok (.iaload, 1) := by decide +kernel
theorem dL_law_793 : decode cL_law 793 = .ok (.invokevirtual 102, 3) := by decide +kernel
theorem dL_law_796 : decode cL_law 796 = .ok (.aload_n 2, 1) := by decide +kernel
theorem dL_law_797 : decode cL_law 797 = .ok (.aload_n 0, 1) := by decide +kernel
theorem dL_law_798 : decode cL_law 798 = .ok (.iload 4, 2) := by decide +kernel
theorem dL_law_800 : decode cL_law 800 = .ok (.iconst 1, 1) := by decide +kernel
theorem dL_law_801 : decode cL_law 801 = .ok (.iadd, 1) := by decide +kernel
theorem dL_law_802 : decode cL_law 802 = .ok (.iaload, 1) := by decide +kernel
theorem dL_law_803 : decode cL_law 803 = .ok (.aload_n 0, 1) := by decide +kernel
theorem dL_law_804 : decode cL_law 804 = .ok (.iload 4, 2) := by decide +kernel
theorem dL_law_806 : decode cL_law 806 = .ok (.iconst 2, 1) := by decide +kernel
theorem dL_law_807 : decode cL_law 807 = .ok (.iadd, 1) := by decide +kernel
theorem dL_law_808 : decode cL_law 808 = .ok (.iaload, 1) := by decide +kernel
theorem dL_law_809 : decode cL_law 809 = .ok (.invokevirtual 105, 3) := by decide +kernel
theorem dL_law_812 : decode cL_law 812 = .ok (.if_icmp .eq 243, 3) := by decide +kernel
theorem dL_law_815 : decode cL_law 815 = .ok (.iconst 0, 1) := by decide +kernel
theorem dL_law_816 : decode cL_law 816 = .ok (.ireturn, 1) := by decide +kernel
theorem dL_law_817 : decode cL_law 817 = .ok (.aload_n 1, 1) := by decide +kernel
theorem dL_law_818 : decode cL_law 818 = .ok (.aload_n 0, 1) := by decide +kernel
theorem dL_law_819 : decode cL_law 819 = .ok (.iload 4, 2) := by decide +kernel
theorem dL_law_821 : decode cL_law 821 = .ok (.iconst 1, 1) := by decide +kernel
theorem dL_law_822 : decode cL_law 822 = .ok (.iadd, 1) := by decide +kernel
theorem dL_law_823 : decode cL_law 823 = .ok (.iaload, 1) := by decide +kernel
theorem dL_law_824 : decode cL_law 824 = .ok (.invokevirtual 106, 3) := by decide +kernel
theorem dL_law_827 : decode cL_law 827 = .ok (.aload_n 2, 1) := by decide +kernel
theorem dL_law_828 : decode cL_law 828 = .ok (.aload_n 0, 1) := by decide +kernel
theorem dL_law_829 : decode cL_law 829 = .ok (.iload 4, 2) := by decide +kernel
theorem dL_law_831 : decode cL_law 831 = .ok (.iconst 1, 1) := by decide +kernel
theorem dL_law_832 : decode cL_law 832 = .ok (.iadd, 1) := by decide +kernel
theorem dL_law_833 : decode cL_law 833 = .ok (.iaload, 1) := by decide +kernel
theorem dL_law_834 : decode cL_law 834 = .ok (.invokevirtual 109, 3) := by decide +kernel
theorem dL_law_837 : decode cL_law 837 = .ok (.if_icmp .eq 218, 3) := by decide +kernel
theorem dL_law_840 : decode cL_law 840 = .ok (.iconst 0, 1) := by decide +kernel
theorem dL_law_841 : decode cL_law 841 = .ok (.ireturn, 1) := by decide +kernel
theorem dL_law_842 : decode cL_law 842 = .ok (.aload_n 1, 1) := by decide +kernel
theorem dL_law_843 : decode cL_law 843 = .ok (.aload_n 0, 1) := by decide +kernel
theorem dL_law_844 : decode cL_law 844 = .ok (.iload 4, 2) := by decide +kernel
theorem dL_law_846 : decode cL_law 846 = .ok (.iconst 1, 1) := by decide +kernel
theorem dL_law_847 : decode cL_law 847 = .ok (.iadd, 1) := by decide +kernel
theorem dL_law_848 : decode cL_law 848 = .ok (.iaload, 1) := by decide +kernel
theorem dL_law_849 : decode cL_law 849 = .ok (.invokevirtual 110, 3) := by decide +kernel
theorem dL_law_852 : decode cL_law 852 = .ok (.aload_n 2, 1) := by decide +kernel
theorem dL_law_853 : decode cL_law 853 = .ok (.aload_n 0, 1) := by decide +kernel
theorem dL_law_854 : decode cL_law 854 = .ok (.iload 4, 2) := by decide +kernel
theorem dL_law_856 : decode cL_law 856 = .ok (.iconst 1, 1) := by decide +kernel
theorem dL_law_857 : decode cL_law 857 = .ok (.iadd, 1) := by decide +kernel
theorem dL_law_858 : decode cL_law 858 = .ok (.iaload, 1) := by decide +kernel
theorem dL_law_859 : decode cL_law 859 = .ok (.invokevirtual 113, 3) := by decide +kernel
theorem dL_law_862 : decode cL_law 862 = .ok (.if_icmp .eq 193, 3) := by decide +kernel
theorem dL_law_865 : decode cL_law 865 = .ok (.iconst 0, 1) := by decide +kernel
theorem dL_law_866 : decode cL_law 866 = .ok (.ireturn, 1) := by decide +kernel
theorem dL_law_867 : decode cL_law 867 = .ok (.aload_n 1, 1) := by decide +kernel
theorem dL_law_868 : decode cL_law 868 = .ok (.aload_n 0, 1) := by decide +kernel
theorem dL_law_869 : decode cL_law 869 = .ok (.iload 4, 2) := by decide +kernel
theorem dL_law_871 : decode cL_law 871 = .ok (.iconst 1, 1) := by decide +kernel
theorem dL_law_872 : decode cL_law 872 = .ok (.iadd, 1) := by decide +kernel
theorem dL_law_873 : decode cL_law 873 = .ok (.iaload, 1) := by decide +kernel
theorem dL_law_874 : decode cL_law 874 = .ok (.invokevirtual 114, 3) := by decide +kernel
theorem dL_law_877 : decode cL_law 877 = .ok (.aload_n 2, 1) := by decide +kernel
theorem dL_law_878 : decode cL_law 878 = .ok (.aload_n 0, 1) := by decide +kernel
theorem dL_law_879 : decode cL_law 879 = .ok (.iload 4, 2) := by decide +kernel
theorem dL_law_881 : decode cL_law 881 = .ok (.iconst 1, 1) := by decide +kernel
theorem dL_law_882 : decode cL_law 882 = .ok (.iadd, 1) := by decide +kernel
theorem dL_law_883 : decode cL_law 883 = .ok (.iaload, 1) := by decide +kernel
theorem dL_law_884 : decode cL_law 884 = .ok (.invokevirtual 117, 3) := by decide +kernel
theorem dL_law_887 : decode cL_law 887 = .ok (.if_icmp .eq 168, 3) := by decide +kernel
theorem dL_law_890 : decode cL_law 890 = .ok (.iconst 0, 1) := by decide +kernel
theorem dL_law_891 : decode cL_law 891 = .ok (.ireturn, 1) := by decide +kernel
theorem dL_law_892 : decode cL_law 892 = .ok (.aload_n 1, 1) := by decide +kernel
theorem dL_law_893 : decode cL_law 893 = .ok (.invokevirtual 118, 3) := by decide +kernel
theorem dL_law_896 : decode cL_law 896 = .ok (.aload_n 2, 1) := by decide +kernel
theorem dL_law_897 : decode cL_law 897 = .ok (.invokevirtual 121, 3) := by decide +kernel
theorem dL_law_900 : decode cL_law 900 = .ok (.if_icmp .eq 155, 3) := by decide +kernel
theorem dL_law_903 : decode cL_law 903 = .ok (.iconst 0, 1) := by decide +kernel
theorem dL_law_904 : decode cL_law 904 = .ok (.ireturn, 1) := by decide +kernel
theorem dL_law_905 : decode cL_law 905 = .ok (.aload_n 1, 1) := by decide +kernel
theorem dL_law_906 : decode cL_law 906 = .ok (.aload_n 0, 1) := by decide +kernel
theorem dL_law_907 : decode cL_law 907 = .ok (.iload 4, 2) := by decide +kernel
theorem dL_law_909 : decode cL_law 909 = .ok (.iconst 1, 1) := by decide +kernel
theorem dL_law_910 : decode cL_law 910 = .ok (.iadd, 1) := by decide +kernel
theorem dL_law_911 : decode cL_law 911 = .ok (.iaload, 1) := by decide +kernel
theorem dL_law_912 : decode cL_law 912 = .ok (.invokevirtual 122, 3) := by decide +kernel
theorem dL_law_915 : decode cL_law 915 = .ok (.aload_n 2, 1) := by decide +kernel
theorem dL_law_916 : decode cL_law 916 = .ok (.aload_n 0, 1) := by decide +kernel
theorem dL_law_917 : decode cL_law 917 = .ok (.iload 4, 2) := by decide +kernel
theorem dL_law_919 : decode cL_law 919 = .ok (.iconst 1, 1) := by decide +kernel
theorem dL_law_920 : decode cL_law 920 = .ok (.iadd, 1) := by decide +kernel
theorem dL_law_921 : decode cL_law 921 = .ok (.iaload, 1) := by decide +kernel
theorem dL_law_922 : decode cL_law 922 = .ok (.invokevirtual 125, 3) := by decide +kernel
theorem dL_law_925 : decode cL_law 925 = .ok (.if_icmp .eq 130, 3) := by decide +kernel
theorem dL_law_928 : decode cL_law 928 = .ok (.iconst 0, 1) := by decide +kernel
theorem dL_law_929 : decode cL_law 929 = .ok (.ireturn, 1) := by decide +kernel
theorem dL_law_930 : decode cL_law 930 = .ok (.aload_n 1, 1) := by decide +kernel
theorem dL_law_931 : decode cL_law 931 = .ok (.aload_n 0, 1) := by decide +kernel
theorem dL_law_932 : decode cL_law 932 = .ok (.iload 4, 2) := by decide +kernel
theorem dL_law_934 : decode cL_law 934 = .ok (.iconst 1, 1) := by decide +kernel
theorem dL_law_935 : decode cL_law 935 = .ok (.iadd, 1) := by decide +kernel
theorem dL_law_936 : decode cL_law 936 = .ok (.iaload, 1) := by decide +kernel
theorem dL_law_937 : decode cL_law 937 = .ok (.aload_n 0, 1) := by decide +kernel
theorem dL_law_938 : decode cL_law 938 = .ok (.iload 4, 2) := by decide +kernel
theorem dL_law_940 : decode cL_law 940 = .ok (.iconst 2, 1) := by decide +kernel
theorem dL_law_941 : decode cL_law 941 = .ok (.iadd, 1) := by decide +kernel
theorem dL_law_942 : decode cL_law 942 = .ok (.iaload, 1) := by decide +kernel
theorem dL_law_943 : decode cL_law 943 = .ok (.aload_n 0, 1) := by decide +kernel
theorem dL_law_944 : decode cL_law 944 = .ok (.iload 4, 2) := by decide +kernel
theorem dL_law_946 : decode cL_law 946 = .ok (.iconst 3, 1) := by decide +kernel
theorem dL_law_947 : decode cL_law 947 = .ok (.iadd, 1) := by decide +kernel
theorem dL_law_948 : decode cL_law 948 = .ok (.iaload, 1) := by decide +kernel
theorem dL_law_949 : decode cL_law 949 = .ok (.aload_n 0, 1) := by decide +kernel
theorem dL_law_950 : decode cL_law 950 = .ok (.iload 4, 2) := by decide +kernel
theorem dL_law_952 : decode cL_law 952 = .ok (.iconst 4, 1) := by decide +kernel
theorem dL_law_953 : decode cL_law 953 = .ok (.iadd, 1) := by decide +kernel
theorem dL_law_954 : decode cL_law 954 = .ok (.iaload, 1) := by decide +kernel
theorem dL_law_955 : decode cL_law 955 = .ok (.invokevirtual 126, 3) := by decide +kernel
theorem dL_law_958 : decode cL_law 958 = .ok (.aload_n 2, 1) := by decide +kernel
theorem dL_law_959 : decode cL_law 959 = .ok (.aload_n 0, 1) := by decide +kernel
theorem dL_law_960 : decode cL_law 960 = .ok (.iload 4, 2) := by decide +kernel
theorem dL_law_962 : decode cL_law 962 = .ok (.iconst 1, 1) := by decide +kernel
theorem dL_law_963 : decode cL_law 963 = .ok (.iadd, 1) := by decide +kernel
theorem dL_law_964 : decode cL_law 964 = .ok (.iaload, 1) := by decide +kernel
theorem dL_law_965 : decode cL_law 965 = .ok (.aload_n 0, 1) := by decide +kernel
theorem dL_law_966 : decode cL_law 966 = .ok (.iload 4, 2) := by decide +kernel
theorem dL_law_968 : decode cL_law 968 = .ok (.iconst 2, 1) := by decide +kernel
theorem dL_law_969 : decode cL_law 969 = .ok (.iadd, 1) := by decide +kernel
theorem dL_law_970 : decode cL_law 970 = .ok (.iaload, 1) := by decide +kernel
theorem dL_law_971 : decode cL_law 971 = .ok (.aload_n 0, 1) := by decide +kernel
theorem dL_law_972 : decode cL_law 972 = .ok (.iload 4, 2) := by decide +kernel
theorem dL_law_974 : decode cL_law 974 = .ok (.iconst 3, 1) := by decide +kernel
theorem dL_law_975 : decode cL_law 975 = .ok (.iadd, 1) := by decide +kernel
theorem dL_law_976 : decode cL_law 976 = .ok (.iaload, 1) := by decide +kernel
theorem dL_law_977 : decode cL_law 977 = .ok (.aload_n 0, 1) := by decide +kernel
theorem dL_law_978 : decode cL_law 978 = .ok (.iload 4, 2) := by decide +kernel
theorem dL_law_980 : decode cL_law 980 = .ok (.iconst 4, 1) := by decide +kernel
theorem dL_law_981 : decode cL_law 981 = .ok (.iadd, 1) := by decide +kernel
theorem dL_law_982 : decode cL_law 982 = .ok (.iaload, 1) := by decide +kernel
theorem dL_law_983 : decode cL_law 983 = .ok (.invokevirtual 130, 3) := by decide +kernel
theorem dL_law_986 : decode cL_law 986 = .ok (.if_icmp .eq 69, 3) := by decide +kernel
theorem dL_law_989 : decode cL_law 989 = .ok (.iconst 0, 1) := by decide +kernel
theorem dL_law_990 : decode cL_law 990 = .ok (.ireturn, 1) := by decide +kernel
theorem dL_law_991 : decode cL_law 991 = .ok (.aload_n 1, 1) := by decide +kernel
theorem dL_law_992 : decode cL_law 992 = .ok (.invokevirtual 131, 3) := by decide +kernel
theorem dL_law_995 : decode cL_law 995 = .ok (.aload_n 2, 1) := by decide +kernel
theorem dL_law_996 : decode cL_law 996 = .ok (.invokevirtual 134, 3) := by decide +kernel
theorem dL_law_999 : decode cL_law 999 = .ok (.if_icmp .eq 56, 3) := by decide +kernel
theorem dL_law_1002 : decode cL_law 1002 = .ok (.iconst 0, 1) := by decide +kernel
theorem dL_law_1003 : decode cL_law 1003 = .ok (.ireturn, 1) := by decide +kernel
theorem dL_law_1004 : decode cL_law 1004 = .ok (.aload_n 1, 1) := by decide +kernel
theorem dL_law_1005 : decode cL_law 1005 = .ok (.invokevirtual 135, 3) := by decide +kernel
theorem dL_law_1008 : decode cL_law 1008 = .ok (.aload_n 2, 1) := by decide +kernel
theorem dL_law_1009 : decode cL_law 1009 = .ok (.invokevirtual 138, 3) := by decide +kernel
theorem dL_law_1012 : decode cL_law 1012 = .ok (.if_icmp .eq 43, 3) := by decide +kernel
theorem dL_law_1015 : decode cL_law 1015 = .ok (.iconst 0, 1) := by decide +kernel
theorem dL_law_1016 : decode cL_law 1016 = .ok (.ireturn, 1) := by decide +kernel
theorem dL_law_1017 : decode cL_law 1017 = .ok (.aload_n 1, 1) := by decide +kernel
theorem dL_law_1018 : decode cL_law 1018 = .ok (.aload_n 0, 1) := by decide +kernel
theorem dL_law_1019 : decode cL_law 1019 = .ok (.iload 4, 2) := by decide +kernel
theorem dL_law_1021 : decode cL_law 1021 = .ok (.iconst 1, 1) := by decide +kernel
theorem dL_law_1022 : decode cL_law 1022 = .ok (.iadd, 1) := by decide +kernel
theorem dL_law_1023 : decode cL_law 1023 = .ok (.iaload, 1) := by decide +kernel
theorem dL_law_1024 : decode cL_law 1024 = .ok (.invokevirtual 139, 3) := by decide +kernel
theorem dL_law_1027 : decode cL_law 1027 = .ok (.aload_n 2, 1) := by decide +kernel
theorem dL_law_1028 : decode cL_law 1028 = .ok (.aload_n 0, 1) := by decide +kernel
theorem dL_law_1029 : decode cL_law 1029 = .ok (.iload 4, 2) := by decide +kernel
theorem dL_law_1031 : decode cL_law 1031 = .ok (.iconst 1, 1) := by decide +kernel
theorem dL_law_1032 : decode cL_law 1032 = .ok (.iadd, 1) := by decide +kernel
theorem dL_law_1033 : decode cL_law 1033 = .ok (.iaload, 1) := by decide +kernel
theorem dL_law_1034 : decode cL_law 1034 = .ok (.invokevirtual 142, 3) := by decide +kernel
theorem dL_law_1037 : decode cL_law 1037 = .ok (.if_icmp .eq 18, 3) := by decide +kernel
theorem dL_law_1040 : decode cL_law 1040 = .ok (.iconst 0, 1) := by decide +kernel
theorem dL_law_1041 : decode cL_law 1041 = .ok (.ireturn, 1) := by decide +kernel
theorem dL_law_1042 : decode cL_law 1042 = .ok (.aload_n 1, 1) := by decide +kernel
theorem dL_law_1043 : decode cL_law 1043 = .ok (.invokevirtual 143, 3) := by decide +kernel
theorem dL_law_1046 : decode cL_law 1046 = .ok (.aload_n 2, 1) := by decide +kernel
theorem dL_law_1047 : decode cL_law 1047 = .ok (.invokevirtual 146, 3) := by decide +kernel
theorem dL_law_1050 : decode cL_law 1050 = .ok (.if_icmp .eq 5, 3) := by decide +kernel
theorem dL_law_1053 : decode cL_law 1053 = .ok (.iconst 0, 1) := by decide +kernel
theorem dL_law_1054 : decode cL_law 1054 = .ok (.ireturn, 1) := by decide +kernel
theorem dL_law_1055 : decode cL_law 1055 = .ok (.iinc 4 6, 3) := by decide +kernel
theorem dL_law_1058 : decode cL_law 1058 = .ok (.goto (-1035), 3) := by decide +kernel
theorem dL_law_1061 : decode cL_law 1061 = .ok (.iconst 1, 1) := by decide +kernel
theorem dL_law_1062 : decode cL_law 1062 = .ok (.ireturn, 1) := by decide +kernel
end
section
theorem dX1_init_0 : decode cX1_init 0 = .ok (.aload_n 0, 1) := by decide +kernel
theorem dX1_init_1 : decode cX1_init 1 = .ok (.invokespecial 3, 3) := by decide +kernel
theorem dX1_init_4 : decode cX1_init 4 = .ok (.aload_n 0, 1) := by decide +kernel
theorem dX1_init_5 : decode cX1_init 5 = .ok (.bipush 14, 2) := by decide +kernel
theorem dX1_init_7 : decode cX1_init 7 = .ok (.newarray .int, 2) := by decide +kernel
theorem dX1_init_9 : decode cX1_init 9 = .ok (.putfield 9, 3) := by decide +kernel
theorem dX1_init_12 : decode cX1_init 12 = .ok (.aload_n 0, 1) := by decide +kernel
theorem dX1_init_13 : decode cX1_init 13 = .ok (.bipush 14, 2) := by decide +kernel
theorem dX1_init_15 : decode cX1_init 15 = .ok (.newarray .int, 2) := by decide +kernel
theorem dX1_init_17 : decode cX1_init 17 = .ok (.putfield 15, 3) := by decide +kernel
theorem dX1_init_20 : decode cX1_init 20 = .ok (.aload_n 0, 1) := by decide +kernel
theorem dX1_init_21 : decode cX1_init 21 = .ok (.bipush 14, 2) := by decide +kernel
theorem dX1_init_23 : decode cX1_init 23 = .ok (.newarray .int, 2) := by decide +kernel
theorem dX1_init_25 : decode cX1_init 25 = .ok (.putfield 18, 3) := by decide +kernel
theorem dX1_init_28 : decode cX1_init 28 = .ok (.return_, 1) := by decide +kernel
theorem dX1_begin_0 : decode cX1_begin 0 = .ok (.aload_n 0, 1) := by decide +kernel
theorem dX1_begin_1 : decode cX1_begin 1 = .ok (.aload_n 1, 1) := by decide +kernel
theorem dX1_begin_2 : decode cX1_begin 2 = .ok (.getfield 21, 3) := by decide +kernel
theorem dX1_begin_5 : decode cX1_begin 5 = .ok (.putfield 27, 3) := by decide +kernel
theorem dX1_begin_8 : decode cX1_begin 8 = .ok (.aload_n 0, 1) := by decide +kernel
theorem dX1_begin_9 : decode cX1_begin 9 = .ok (.iconst 0, 1) := by decide +kernel
theorem dX1_begin_10 : decode cX1_begin 10 = .ok (.putfield 28, 3) := by decide +kernel
theorem dX1_begin_13 : decode cX1_begin 13 = .ok (.aload_n 0, 1) := by decide +kernel
theorem dX1_begin_14 : decode cX1_begin 14 = .ok (.getfield 9, 3) := by decide +kernel
theorem dX1_begin_17 : decode cX1_begin 17 = .ok (.iconst 0, 1) := by decide +kernel
theorem dX1_begin_18 : decode cX1_begin 18 = .ok (.invokestatic 31, 3) := by decide +kernel
theorem dX1_begin_21 : decode cX1_begin 21 = .ok (.aload_n 0, 1) := by decide +kernel
theorem dX1_begin_22 : decode cX1_begin 22 = .ok (.getfield 15, 3) := by decide +kernel
theorem dX1_begin_25 : decode cX1_begin 25 = .ok (.iconst 0, 1) := by decide +kernel
theorem dX1_begin_26 : decode cX1_begin 26 = .ok (.invokestatic 31, 3) := by decide +kernel
theorem dX1_begin_29 : decode cX1_begin 29 = .ok (.aload_n 1, 1) := by decide +kernel
theorem dX1_begin_30 : decode cX1_begin 30 = .ok (.getfield 37, 3) := by decide +kernel
theorem dX1_begin_33 : decode cX1_begin 33 = .ok (.iconst 0, 1) := by decide +kernel
theorem dX1_begin_34 : decode cX1_begin 34 = .ok (.aload_n 0, 1) := by decide +kernel
theorem dX1_begin_35 : decode cX1_begin 35 = .ok (.getfield 18, 3) := by decide +kernel
theorem dX1_begin_38 : decode cX1_begin 38 = .ok (.iconst 0, 1) := by decide +kernel
theorem dX1_begin_39 : decode cX1_begin 39 = .ok (.bipush 14, 2) := by decide +kernel
theorem dX1_begin_41 : decode cX1_begin 41 = .ok (.invokestatic 38, 3) := by decide +kernel
theorem dX1_begin_44 : decode cX1_begin 44 = .ok (.return_, 1) := by decide +kernel
theorem dX1_become_0 : decode cX1_become 0 = .ok (.aload_n 0, 1) := by decide +kernel
theorem dX1_become_1 : decode cX1_become 1 = .ok (.aload_n 1, 1) := by decide +kernel
theorem dX1_become_2 : decode cX1_become 2 = .ok (.getfield 27, 3) := by decide +kernel
theorem dX1_become_5 : decode cX1_become 5 = .ok (.putfield 27, 3) := by decide +kernel
theorem dX1_become_8 : decode cX1_become 8 = .ok (.aload_n 0, 1) := by decide +kernel
theorem dX1_become_9 : decode cX1_become 9 = .ok (.aload_n 1, 1) := by decide +kernel
theorem dX1_become_10 : decode cX1_become 10 = .ok (.getfield 28, 3) := by decide +kernel
theorem dX1_become_13 : decode cX1_become 13 = .ok (.putfield 28, 3) := by decide +kernel
theorem dX1_become_16 : decode cX1_become 16 = .ok (.aload_n 1, 1) := by decide +kernel
theorem dX1_become_17 : decode cX1_become 17 = .ok (.getfield 9, 3) := by decide +kernel
theorem dX1_become_20 : decode cX1_become 20 = .ok (.iconst 0, 1) := by decide +kernel
theorem dX1_become_21 : decode cX1_become 21 = .ok (.aload_n 0, 1) := by decide +kernel
theorem dX1_become_22 : decode cX1_become 22 = .ok (.getfield 9, 3) := by decide +kernel
theorem dX1_become_25 : decode cX1_become 25 = .ok (.iconst 0, 1) := by decide +kernel
theorem dX1_become_26 : decode cX1_become 26 = .ok (.bipush 14, 2) := by decide +kernel
theorem dX1_become_28 : decode cX1_become 28 = .ok (.invokestatic 38, 3) := by decide +kernel
theorem dX1_become_31 : decode cX1_become 31 = .ok (.aload_n 1, 1) := by decide +kernel
theorem dX1_become_32 : decode cX1_become 32 = .ok (.getfield 15, 3) := by decide +kernel
theorem dX1_become_35 : decode cX1_become 35 = .ok (.iconst 0, 1) := by decide +kernel
theorem dX1_become_36 : decode cX1_become 36 = .ok (.aload_n 0, 1) := by decide +kernel
theorem dX1_become_37 : decode cX1_become 37 = .ok (.getfield 15, 3) := by decide +kernel
theorem dX1_become_40 : decode cX1_become 40 = .ok (.iconst 0, 1) := by decide +kernel
theorem dX1_become_41 : decode cX1_become 41 = .ok (.bipush 14, 2) := by decide +kernel
theorem dX1_become_43 : decode cX1_become 43 = .ok (.invokestatic 38, 3) := by decide +kernel
theorem dX1_become_46 : decode cX1_become 46 = .ok (.aload_n 1, 1) := by decide +kernel
theorem dX1_become_47 : decode cX1_become 47 = .ok (.getfield 18, 3) := by decide +kernel
theorem dX1_become_50 : decode cX1_become 50 = .ok (.iconst 0, 1) := by decide +kernel
theorem dX1_become_51 : decode cX1_become 51 = .ok (.aload_n 0, 1) := by decide +kernel
theorem dX1_become_52 : decode cX1_become 52 = .ok (.getfield 18, 3) := by decide +kernel
theorem dX1_become_55 : decode cX1_become 55 = .ok (.iconst 0, 1) := by decide +kernel
theorem dX1_become_56 : decode cX1_become 56 = .ok (.bipush 14, 2) := by decide +kernel
theorem dX1_become_58 : decode cX1_become 58 = .ok (.invokestatic 38, 3) := by decide +kernel
theorem dX1_become_61 : decode cX1_become 61 = .ok (.return_, 1) := by decide +kernel
theorem dX2_init_0 : decode cX2_init 0 = .ok (.aload_n 0, 1) := by decide +kernel
theorem dX2_init_1 : decode cX2_init 1 = .ok (.invokespecial 1, 3) := by decide +kernel
theorem dX2_init_4 : decode cX2_init 4 = .ok (.return_, 1) := by decide +kernel
theorem dX3_init_0 : decode cX3_init 0 = .ok (.aload_n 0, 1) := by decide +kernel
theorem dX3_init_1 : decode cX3_init 1 = .ok (.invokespecial 3, 3) := by decide +kernel
theorem dX3_init_4 : decode cX3_init 4 = .ok (.aload_n 0, 1) := by decide +kernel
theorem dX3_init_5 : decode cX3_init 5 = .ok (.bipush 11, 2) := by decide +kernel
theorem dX3_init_7 : decode cX3_init 7 = .ok (.anewarray 11, 3) := by decide +kernel
theorem dX3_init_10 : decode cX3_init 10 = .ok (.putfield 13, 3) := by decide +kernel
theorem dX3_init_13 : decode cX3_init 13 = .ok (.iconst 0, 1) := by decide +kernel
theorem dX3_init_14 : decode cX3_init 14 = .ok (.istore_n 1, 1) := by decide +kernel
theorem dX3_init_15 : decode cX3_init 15 = .ok (.iload_n 1, 1) := by decide +kernel
theorem dX3_init_16 : decode cX3_init 16 = .ok (.bipush 11, 2) := by decide +kernel
theorem dX3_init_18 : decode cX3_init 18 = .ok (.if_icmp .ge 22, 3) := by decide +kernel
theorem dX3_init_21 : decode cX3_init 21 = .ok (.aload_n 0, 1) := by decide +kernel
theorem dX3_init_22 : decode cX3_init 22 = .ok (.getfield 13, 3) := by decide +kernel
theorem dX3_init_25 : decode cX3_init 25 = .ok (.iload_n 1, 1) := by decide +kernel
theorem dX3_init_26 : decode cX3_init 26 = .ok (.new 11, 3) := by decide +kernel
theorem dX3_init_29 : decode cX3_init 29 = .ok (.dup, 1) := by decide +kernel
theorem dX3_init_30 : decode cX3_init 30 = .ok (.invokespecial 17, 3) := by decide +kernel
theorem dX3_init_33 : decode cX3_init 33 = .ok (.aastore, 1) := by decide +kernel
theorem dX3_init_34 : decode cX3_init 34 = .ok (.iinc 1 1, 3) := by decide +kernel
theorem dX3_init_37 : decode cX3_init 37 = .ok (.goto (-22), 3) := by decide +kernel
theorem dX3_init_40 : decode cX3_init 40 = .ok (.aload_n 0, 1) := by decide +kernel
theorem dX3_init_41 : decode cX3_init 41 = .ok (.iconst 0, 1) := by decide +kernel
theorem dX3_init_42 : decode cX3_init 42 = .ok (.putfield 18, 3) := by decide +kernel
theorem dX3_init_45 : decode cX3_init 45 = .ok (.aload_n 0, 1) := by decide +kernel
theorem dX3_init_46 : decode cX3_init 46 = .ok (.iconst 0, 1) := by decide +kernel
theorem dX3_init_47 : decode cX3_init 47 = .ok (.putfield 22, 3) := by decide +kernel
theorem dX3_init_50 : decode cX3_init 50 = .ok (.return_, 1) := by decide +kernel
theorem dX3_forget_0 : decode cX3_forget 0 = .ok (.aload_n 0, 1) := by decide +kernel
theorem dX3_forget_1 : decode cX3_forget 1 = .ok (.iconst 0, 1) := by decide +kernel
theorem dX3_forget_2 : decode cX3_forget 2 = .ok (.putfield 22, 3) := by decide +kernel
theorem dX3_forget_5 : decode cX3_forget 5 = .ok (.return_, 1) := by decide +kernel
theorem dX3_prepare_0 : decode cX3_prepare 0 = .ok (.aload_n 0, 1) := by decide +kernel
theorem dX3_prepare_1 : decode cX3_prepare 1 = .ok (.getfield 13, 3) := by decide +kernel
theorem dX3_prepare_4 : decode cX3_prepare 4 = .ok (.aload_n 0, 1) := by decide +kernel
theorem dX3_prepare_5 : decode cX3_prepare 5 = .ok (.getfield 18, 3) := by decide +kernel
theorem dX3_prepare_8 : decode cX3_prepare 8 = .ok (.aaload, 1) := by decide +kernel
theorem dX3_prepare_9 : decode cX3_prepare 9 = .ok (.aload_n 1, 1) := by decide +kernel
theorem dX3_prepare_10 : decode cX3_prepare 10 = .ok (.invokevirtual 25, 3) := by decide +kernel
theorem dX3_prepare_13 : decode cX3_prepare 13 = .ok (.return_, 1) := by decide +kernel
theorem dX3_keepPrepared_0 : decode cX3_keepPrepared 0 = .ok (.aload_n 0, 1) := by decide +kernel
theorem dX3_keepPrepared_1 : decode cX3_keepPrepared 1 = .ok (.aload_n 0, 1) := by decide +kernel
theorem dX3_keepPrepared_2 : decode cX3_keepPrepared 2 = .ok (.getfield 18, 3) := by decide +kernel
theorem dX3_keepPrepared_5 : decode cX3_keepPrepared 5 = .ok (.iconst 1, 1) := by decide +kernel
theorem dX3_keepPrepared_6 : decode cX3_keepPrepared 6 = .ok (.iadd, 1) := by decide +kernel
theorem dX3_keepPrepared_7 : decode cX3_keepPrepared 7 = .ok (.bipush 11, 2) := by decide +kernel
theorem dX3_keepPrepared_9 : decode cX3_keepPrepared 9 = .ok (.irem, 1) := by decide +kernel
theorem dX3_keepPrepared_10 : decode cX3_keepPrepared 10 = .ok (.putfield 18, 3) := by decide +kernel
theorem dX3_keepPrepared_13 : decode cX3_keepPrepared 13 = .ok (.aload_n 0, 1) := by decide +kernel
theorem dX3_keepPrepared_14 : decode cX3_keepPrepared 14 = .ok (.aload_n 0, 1) := by decide +kernel
theorem dX3_keepPrepared_15 : decode cX3_keepPrepared 15 = .ok (.getfield 22, 3) := by decide +kernel
theorem dX3_keepPrepared_18 : decode cX3_keepPrepared 18 = .ok (.iconst 1, 1) := by decide +kernel
theorem dX3_keepPrepared_19 : decode cX3_keepPrepared 19 = .ok (.iadd, 1) := by decide +kernel
theorem dX3_keepPrepared_20 : decode cX3_keepPrepared 20 = .ok (.bipush 10, 2) := by decide +kernel
theorem dX3_keepPrepared_22 : decode cX3_keepPrepared 22 = .ok (.invokestatic 29, 3) := by decide +kernel
theorem dX3_keepPrepared_25 : decode cX3_keepPrepared 25 = .ok (.putfield 22, 3) := by decide +kernel
theorem dX3_keepPrepared_28 : decode cX3_keepPrepared 28 = .ok (.return_, 1) := by decide +kernel
theorem dX3_giveBack_0 : decode cX3_giveBack 0 = .ok (.aload_n 0, 1) := by decide +kernel
theorem dX3_giveBack_1 : decode cX3_giveBack 1 = .ok (.aload_n 0, 1) := by decide +kernel
theorem dX3_giveBack_2 : decode cX3_giveBack 2 = .ok (.getfield 18, 3) := by decide +kernel
theorem dX3_giveBack_5 : decode cX3_giveBack 5 = .ok (.bipush 11, 2) := by decide +kernel
theorem dX3_giveBack_7 : decode cX3_giveBack 7 = .ok (.iadd, 1) := by decide +kernel
theorem dX3_giveBack_8 : decode cX3_giveBack 8 = .ok (.iconst 1, 1) := by decide +kernel
theorem dX3_giveBack_9 : decode cX3_giveBack 9 = .ok (.isub, 1) := by decide +kernel
theorem dX3_giveBack_10 : decode cX3_giveBack 10 = .ok (.bipush 11, 2) := by decide +kernel
theorem dX3_giveBack_12 : decode cX3_giveBack 12 = .ok (.irem, 1) := by decide +kernel
theorem dX3_giveBack_13 : decode cX3_giveBack 13 = .ok (.putfield 18, 3) := by decide +kernel
theorem dX3_giveBack_16 : decode cX3_giveBack 16 = .ok (.aload_n 0, 1) := by decide +kernel
theorem dX3_giveBack_17 : decode cX3_giveBack 17 = .ok (.dup, 1) := by decide +kernel
theorem dX3_giveBack_18 : decode cX3_giveBack 18 = .ok (.getfield 22, 3) := by decide +kernel
theorem dX3_giveBack_21 : decode cX3_giveBack 21 = .ok (.iconst 1, 1) := by decide +kernel
theorem dX3_giveBack_22 : decode cX3_giveBack 22 = .ok (.isub, 1) := by decide +kernel
theorem dX3_giveBack_23 : decode cX3_giveBack 23 = .ok (.putfield 22, 3) := by decide +kernel
theorem dX3_giveBack_26 : decode cX3_giveBack 26 = .ok (.aload_n 1, 1) := by decide +kernel
theorem dX3_giveBack_27 : decode cX3_giveBack 27 = .ok (.aload_n 0, 1) := by decide +kernel
theorem dX3_giveBack_28 : decode cX3_giveBack 28 = .ok (.getfield 13, 3) := by decide +kernel
theorem dX3_giveBack_31 : decode cX3_giveBack 31 = .ok (.aload_n 0, 1) := by decide +kernel
theorem dX3_giveBack_32 : decode cX3_giveBack 32 = .ok (.getfield 18, 3) := by decide +kernel
theorem dX3_giveBack_35 : decode cX3_giveBack 35 = .ok (.aaload, 1) := by decide +kernel
theorem dX3_giveBack_36 : decode cX3_giveBack 36 = .ok (.invokevirtual 25, 3) := by decide +kernel
theorem dX3_giveBack_39 : decode cX3_giveBack 39 = .ok (.return_, 1) := by decide +kernel
theorem dX4_init_0 : decode cX4_init 0 = .ok (.aload_n 0, 1) := by decide +kernel
theorem dX4_init_1 : decode cX4_init 1 = .ok (.invokespecial 3, 3) := by decide +kernel
theorem dX4_init_4 : decode cX4_init 4 = .ok (.aload_n 0, 1) := by decide +kernel
theorem dX4_init_5 : decode cX4_init 5 = .ok (.aload_n 1, 1) := by decide +kernel
theorem dX4_init_6 : decode cX4_init 6 = .ok (.putfield 9, 3) := by decide +kernel
theorem dX4_init_9 : decode cX4_init 9 = .ok (.aload_n 0, 1) := by decide +kernel
theorem dX4_init_10 : decode cX4_init 10 = .ok (.new 15, 3) := by decide +kernel
theorem dX4_init_13 : decode cX4_init 13 = .ok (.dup, 1) := by decide +kernel
theorem dX4_init_14 : decode cX4_init 14 = .ok (.invokespecial 17, 3) := by decide +kernel
theorem dX4_init_17 : decode cX4_init 17 = .ok (.putfield 18, 3) := by decide +kernel
theorem dX4_init_20 : decode cX4_init 20 = .ok (.return_, 1) := by decide +kernel
theorem dX4_read_0 : decode cX4_read 0 = .ok (.aload_n 0, 1) := by decide +kernel
theorem dX4_read_1 : decode cX4_read 1 = .ok (.getfield 18, 3) := by decide +kernel
theorem dX4_read_4 : decode cX4_read 4 = .ok (.invokevirtual 22, 3) := by decide +kernel
theorem dX4_read_7 : decode cX4_read 7 = .ok (.aload_n 0, 1) := by decide +kernel
theorem dX4_read_8 : decode cX4_read 8 = .ok (.iconst 0, 1) := by decide +kernel
theorem dX4_read_9 : decode cX4_read 9 = .ok (.putfield 25, 3) := by decide +kernel
theorem dX4_read_12 : decode cX4_read 12 = .ok (.aload_n 0, 1) := by decide +kernel
theorem dX4_read_13 : decode cX4_read 13 = .ok (.iconst 0, 1) := by decide +kernel
theorem dX4_read_14 : decode cX4_read 14 = .ok (.putfield 29, 3) := by decide +kernel
theorem dX4_read_17 : decode cX4_read 17 = .ok (.aload_n 0, 1) := by decide +kernel
theorem dX4_read_18 : decode cX4_read 18 = .ok (.iconst 0, 1) := by decide +kernel
theorem dX4_read_19 : decode cX4_read 19 = .ok (.putfield 32, 3) := by decide +kernel
theorem dX4_read_22 : decode cX4_read 22 = .ok (.aload_n 0, 1) := by decide +kernel
theorem dX4_read_23 : decode cX4_read 23 = .ok (.iconst 0, 1) := by decide +kernel
theorem dX4_read_24 : decode cX4_read 24 = .ok (.putfield 35, 3) := by decide +kernel
theorem dX4_read_27 : decode cX4_read 27 = .ok (.aload_n 0, 1) := by decide +kernel
theorem dX4_read_28 : decode cX4_read 28 = .ok (.invokevirtual 39, 3) := by decide +kernel
theorem dX4_read_31 : decode cX4_read 31 = .ok (.iconst 0, 1) := by decide +kernel
theorem dX4_read_32 : decode cX4_read 32 = .ok (.istore_n 1, 1) := by decide +kernel
theorem dX4_read_33 : decode cX4_read 33 = .ok (.iload_n 1, 1) := by decide +kernel
theorem dX4_read_34 : decode cX4_read 34 = .ok (.sipush 540, 3) := by decide +kernel
theorem dX4_read_37 : decode cX4_read 37 = .ok (.if_icmp .ge 28, 3) := by decide +kernel
theorem dX4_read_40 : decode cX4_read 40 = .ok (.aload_n 0, 1) := by decide +kernel
theorem dX4_read_41 : decode cX4_read 41 = .ok (.getfield 42, 3) := by decide +kernel
theorem dX4_read_44 : decode cX4_read 44 = .ok (.iconst 1, 1) := by decide +kernel
theorem dX4_read_45 : decode cX4_read 45 = .ok (.if_icmp .eq 20, 3) := by decide +kernel
theorem dX4_read_48 : decode cX4_read 48 = .ok (.aload_n 0, 1) := by decide +kernel
theorem dX4_read_49 : decode cX4_read 49 = .ok (.getfield 25, 3) := by decide +kernel
theorem dX4_read_52 : decode cX4_read 52 = .ok (.ifCond .ne 13, 3) := by decide +kernel
theorem dX4_read_55 : decode cX4_read 55 = .ok (.aload_n 0, 1) := by decide +kernel
theorem dX4_read_56 : decode cX4_read 56 = .ok (.invokevirtual 45, 3) := by decide +kernel
theorem dX4_read_59 : decode cX4_read 59 = .ok (.iinc 1 1, 3) := by decide +kernel
theorem dX4_read_62 : decode cX4_read 62 = .ok (.goto (-29), 3) := by decide +kernel
theorem dX4_read_65 : decode cX4_read 65 = .ok (.aload_n 0, 1) := by decide +kernel
theorem dX4_read_66 : decode cX4_read 66 = .ok (.getfield 25, 3) := by decide +kernel
theorem dX4_read_69 : decode cX4_read 69 = .ok (.ifCond .ne 21, 3) := by decide +kernel
theorem dX4_read_72 : decode cX4_read 72 = .ok (.aload_n 0, 1) := by decide +kernel
theorem dX4_read_73 : decode cX4_read 73 = .ok (.getfield 9, 3) := by decide +kernel
theorem dX4_read_76 : decode cX4_read 76 = .ok (.getfield 48, 3) := by decide +kernel
theorem dX4_read_79 : decode cX4_read 79 = .ok (.sipush 500, 3) := by decide +kernel
theorem dX4_read_82 : decode cX4_read 82 = .ok (.if_icmp .le 8, 3) := by decide +kernel
theorem dX4_read_85 : decode cX4_read 85 = .ok (.aload_n 0, 1) := by decide +kernel
theorem dX4_read_86 : decode cX4_read 86 = .ok (.iconst 1, 1) := by decide +kernel
theorem dX4_read_87 : decode cX4_read 87 = .ok (.putfield 25, 3) := by decide +kernel
theorem dX4_read_90 : decode cX4_read 90 = .ok (.aload_n 0, 1) := by decide +kernel
theorem dX4_read_91 : decode cX4_read 91 = .ok (.getfield 25, 3) := by decide +kernel
theorem dX4_read_94 : decode cX4_read 94 = .ok (.ifCond .ne 7, 3) := by decide +kernel
theorem dX4_read_97 : decode cX4_read 97 = .ok (.iconst 1, 1) := by decide +kernel
theorem dX4_read_98 : decode cX4_read 98 = .ok (.goto 4, 3) := by decide +kernel
theorem dX4_read_101 : decode cX4_read 101 = .ok (.iconst 0, 1) := by decide +kernel
theorem dX4_read_102 : decode cX4_read 102 = .ok (.ireturn, 1) := by decide +kernel
theorem dX4_readLine_0 : decode cX4_readLine 0 = .ok (.aload_n 0, 1) := by decide +kernel
theorem dX4_readLine_1 : decode cX4_readLine 1 = .ok (.getfield 29, 3) := by decide +kernel
theorem dX4_readLine_4 : decode cX4_readLine 4 = .ok (.ifCond .ne 10, 3) := by decide +kernel
theorem dX4_readLine_7 : decode cX4_readLine 7 = .ok (.aload_n 0, 1) := by decide +kernel
theorem dX4_readLine_8 : decode cX4_readLine 8 = .ok (.invokevirtual 53, 3) := by decide +kernel
theorem dX4_readLine_11 : decode cX4_readLine 11 = .ok (.goto 56, 3) := by decide +kernel
theorem dX4_readLine_14 : decode cX4_readLine 14 = .ok (.aload_n 0, 1) := by decide +kernel
theorem dX4_readLine_15 : decode cX4_readLine 15 = .ok (.ldc 56, 2) := by decide +kernel
theorem dX4_readLine_17 : decode cX4_readLine 17 = .ok (.invokevirtual 58, 3) := by decide +kernel
theorem dX4_readLine_20 : decode cX4_readLine 20 = .ok (.ifCond .eq 10, 3) := by decide +kernel
theorem dX4_readLine_23 : decode cX4_readLine 23 = .ok (.aload_n 0, 1) := by decide +kernel
theorem dX4_readLine_24 : decode cX4_readLine 24 = .ok (.invokevirtual 62, 3) := by decide +kernel
theorem dX4_readLine_27 : decode cX4_readLine 27 = .ok (.goto 40, 3) := by decide +kernel
theorem dX4_readLine_30 : decode cX4_readLine 30 = .ok (.aload_n 0, 1) := by decide +kernel
theorem dX4_readLine_31 : decode cX4_readLine 31 = .ok (.ldc 65, 2) := by decide +kernel
theorem dX4_readLine_33 : decode cX4_readLine 33 = .ok (.invokevirtual 58, 3) := by decide +kernel
theorem dX4_readLine_36 : decode cX4_readLine 36 = .ok (.ifCond .eq 10, 3) := by decide +kernel
theorem dX4_readLine_39 : decode cX4_readLine 39 = .ok (.aload_n 0, 1) := by decide +kernel
theorem dX4_readLine_40 : decode cX4_readLine 40 = .ok (.invokevirtual 67, 3) := by decide +kernel
theorem dX4_readLine_43 : decode cX4_readLine 43 = .ok (.goto 24, 3) := by decide +kernel
theorem dX4_readLine_46 : decode cX4_readLine 46 = .ok (.aload_n 0, 1) := by decide +kernel
theorem dX4_readLine_47 : decode cX4_readLine 47 = .ok (.ldc 70, 2) := by decide +kernel
theorem dX4_readLine_49 : decode cX4_readLine 49 = .ok (.invokevirtual 58, 3) := by decide +kernel
theorem dX4_readLine_52 : decode cX4_readLine 52 = .ok (.ifCond .eq 10, 3) := by decide +kernel
theorem dX4_readLine_55 : decode cX4_readLine 55 = .ok (.aload_n 0, 1) := by decide +kernel
theorem dX4_readLine_56 : decode cX4_readLine 56 = .ok (.invokevirtual 72, 3) := by decide +kernel
theorem dX4_readLine_59 : decode cX4_readLine 59 = .ok (.goto 8, 3) := by decide +kernel
theorem dX4_readLine_62 : decode cX4_readLine 62 = .ok (.aload_n 0, 1) := by decide +kernel
theorem dX4_readLine_63 : decode cX4_readLine 63 = .ok (.iconst 1, 1) := by decide +kernel
theorem dX4_readLine_64 : decode cX4_readLine 64 = .ok (.putfield 25, 3) := by decide +kernel
theorem dX4_readLine_67 : decode cX4_readLine 67 = .ok (.aload_n 0, 1) := by decide +kernel
theorem dX4_readLine_68 : decode cX4_readLine 68 = .ok (.invokevirtual 75, 3) := by decide +kernel
theorem dX4_readLine_71 : decode cX4_readLine 71 = .ok (.return_, 1) := by decide +kernel
theorem dX4_readCourt_0 : decode cX4_readCourt 0 = .ok (.aload_n 0, 1) := by decide +kernel
theorem dX4_readCourt_1 : decode cX4_readCourt 1 = .ok (.ldc 78, 2) := by decide +kernel
theorem dX4_readCourt_3 : decode cX4_readCourt 3 = .ok (.invokevirtual 58, 3) := by decide +kernel
theorem dX4_readCourt_6 : decode cX4_readCourt 6 = .ok (.ifCond .ne 9, 3) := by decide +kernel
theorem dX4_readCourt_9 : decode cX4_readCourt 9 = .ok (.aload_n 0, 1) := by decide +kernel
theorem dX4_readCourt_10 : decode cX4_readCourt 10 = .ok (.iconst 1, 1) := by decide +kernel
theorem dX4_readCourt_11 : decode cX4_readCourt 11 = .ok (.putfield 25, 3) := by decide +kernel
theorem dX4_readCourt_14 : decode cX4_readCourt 14 = .ok (.return_, 1) := by decide +kernel
theorem dX4_readCourt_15 : decode cX4_readCourt 15 = .ok (.aload_n 0, 1) := by decide +kernel
theorem dX4_readCourt_16 : decode cX4_readCourt 16 = .ok (.invokevirtual 39, 3) := by decide +kernel
theorem dX4_readCourt_19 : decode cX4_readCourt 19 = .ok (.aload_n 0, 1) := by decide +kernel
theorem dX4_readCourt_20 : decode cX4_readCourt 20 = .ok (.getfield 18, 3) := by decide +kernel
theorem dX4_readCourt_23 : decode cX4_readCourt 23 = .ok (.aload_n 0, 1) := by decide +kernel
theorem dX4_readCourt_24 : decode cX4_readCourt 24 = .ok (.iconst 0, 1) := by decide +kernel
theorem dX4_readCourt_25 : decode cX4_readCourt 25 = .ok (.sipush 9999, 3) := by decide +kernel
theorem dX4_readCourt_28 : decode cX4_readCourt 28 = .ok (.invokevirtual 80, 3) := by decide +kernel
theorem dX4_readCourt_31 : decode cX4_readCourt 31 = .ok (.putfield 84, 3) := by decide +kernel
theorem dX4_readCourt_34 : decode cX4_readCourt 34 = .ok (.aload_n 0, 1) := by decide +kernel
theorem dX4_readCourt_35 : decode cX4_readCourt 35 = .ok (.getfield 18, 3) := by decide +kernel
theorem dX4_readCourt_38 : decode cX4_readCourt 38 = .ok (.aload_n 0, 1) := by decide +kernel
theorem dX4_readCourt_39 : decode cX4_readCourt 39 = .ok (.iconst 1, 1) := by decide +kernel
theorem dX4_readCourt_40 : decode cX4_readCourt 40 = .ok (.bipush 20, 2) := by decide +kernel
theorem dX4_readCourt_42 : decode cX4_readCourt 42 = .ok (.invokevirtual 80, 3) := by decide +kernel
theorem dX4_readCourt_45 : decode cX4_readCourt 45 = .ok (.putfield 87, 3) := by decide +kernel
theorem dX4_readCourt_48 : decode cX4_readCourt 48 = .ok (.aload_n 0, 1) := by decide +kernel
theorem dX4_readCourt_49 : decode cX4_readCourt 49 = .ok (.getfield 18, 3) := by decide +kernel
theorem dX4_readCourt_52 : decode cX4_readCourt 52 = .ok (.aload_n 0, 1) := by decide +kernel
theorem dX4_readCourt_53 : decode cX4_readCourt 53 = .ok (.iconst 0, 1) := by decide +kernel
theorem dX4_readCourt_54 : decode cX4_readCourt 54 = .ok (.bipush 9, 2) := by decide +kernel
theorem dX4_readCourt_56 : decode cX4_readCourt 56 = .ok (.invokevirtual 80, 3) := by decide +kernel
theorem dX4_readCourt_59 : decode cX4_readCourt 59 = .ok (.putfield 90, 3) := by decide +kernel
theorem dX4_readCourt_62 : decode cX4_readCourt 62 = .ok (.aload_n 0, 1) := by decide +kernel
theorem dX4_readCourt_63 : decode cX4_readCourt 63 = .ok (.getfield 18, 3) := by decide +kernel
theorem dX4_readCourt_66 : decode cX4_readCourt 66 = .ok (.aload_n 0, 1) := by decide +kernel
theorem dX4_readCourt_67 : decode cX4_readCourt 67 = .ok (.iconst 0, 1) := by decide +kernel
theorem dX4_readCourt_68 : decode cX4_readCourt 68 = .ok (.bipush 9, 2) := by decide +kernel
theorem dX4_readCourt_70 : decode cX4_readCourt 70 = .ok (.invokevirtual 80, 3) := by decide +kernel
theorem dX4_readCourt_73 : decode cX4_readCourt 73 = .ok (.putfield 93, 3) := by decide +kernel
theorem dX4_readCourt_76 : decode cX4_readCourt 76 = .ok (.aload_n 0, 1) := by decide +kernel
theorem dX4_readCourt_77 : decode cX4_readCourt 77 = .ok (.getfield 18, 3) := by decide +kernel
theorem dX4_readCourt_80 : decode cX4_readCourt 80 = .ok (.aload_n 0, 1) := by decide +kernel
theorem dX4_readCourt_81 : decode cX4_readCourt 81 = .ok (.iconst 0, 1) := by decide +kernel
theorem dX4_readCourt_82 : decode cX4_readCourt 82 = .ok (.bipush 9, 2) := by decide +kernel
theorem dX4_readCourt_84 : decode cX4_readCourt 84 = .ok (.invokevirtual 80, 3) := by decide +kernel
theorem dX4_readCourt_87 : decode cX4_readCourt 87 = .ok (.putfield 96, 3) := by decide +kernel
theorem dX4_readCourt_90 : decode cX4_readCourt 90 = .ok (.return_, 1) := by decide +kernel
theorem dX4_readJudge_0 : decode cX4_readJudge 0 = .ok (.aload_n 0, 1) := by decide +kernel
theorem dX4_readJudge_1 : decode cX4_readJudge 1 = .ok (.getfield 18, 3) := by decide +kernel
theorem dX4_readJudge_4 : decode cX4_readJudge 4 = .ok (.getfield 99, 3) := by decide +kernel
theorem dX4_readJudge_7 : decode cX4_readJudge 7 = .ok (.bipush 9, 2) := by decide +kernel
theorem dX4_readJudge_9 : decode cX4_readJudge 9 = .ok (.if_icmp .lt 9, 3) := by decide +kernel
theorem dX4_readJudge_12 : decode cX4_readJudge 12 = .ok (.aload_n 0, 1) := by decide +kernel
theorem dX4_readJudge_13 : decode cX4_readJudge 13 = .ok (.iconst 3, 1) := by decide +kernel
theorem dX4_readJudge_14 : decode cX4_readJudge 14 = .ok (.putfield 25, 3) := by decide +kernel
theorem dX4_readJudge_17 : decode cX4_readJudge 17 = .ok (.return_, 1) := by decide +kernel
theorem dX4_readJudge_18 : decode cX4_readJudge 18 = .ok (.aload_n 0, 1) := by decide +kernel
theorem dX4_readJudge_19 : decode cX4_readJudge 19 = .ok (.invokevirtual 39, 3) := by decide +kernel
theorem dX4_readJudge_22 : decode cX4_readJudge 22 = .ok (.aload_n 0, 1) := by decide +kernel
theorem dX4_readJudge_23 : decode cX4_readJudge 23 = .ok (.getfield 18, 3) := by decide +kernel
theorem dX4_readJudge_26 : decode cX4_readJudge 26 = .ok (.getfield 102, 3) := by decide +kernel
theorem dX4_readJudge_29 : decode cX4_readJudge 29 = .ok (.aload_n 0, 1) := by decide +kernel
theorem dX4_readJudge_30 : decode cX4_readJudge 30 = .ok (.getfield 18, 3) := by decide +kernel
theorem dX4_readJudge_33 : decode cX4_readJudge 33 = .ok (.getfield 99, 3) := by decide +kernel
theorem dX4_readJudge_36 : decode cX4_readJudge 36 = .ok (.aload_n 0, 1) := by decide +kernel
theorem dX4_readJudge_37 : decode cX4_readJudge 37 = .ok (.iconst 1, 1) := by decide +kernel
theorem dX4_readJudge_38 : decode cX4_readJudge 38 = .ok (.bipush 99, 2) := by decide +kernel
theorem dX4_readJudge_40 : decode cX4_readJudge 40 = .ok (.invokevirtual 80, 3) := by decide +kernel
theorem dX4_readJudge_43 : decode cX4_readJudge 43 = .ok (.iastore, 1) := by decide +kernel
theorem dX4_readJudge_44 : decode cX4_readJudge 44 = .ok (.aload_n 0, 1) := by decide +kernel
theorem dX4_readJudge_45 : decode cX4_readJudge 45 = .ok (.getfield 18, 3) := by decide +kernel
theorem dX4_readJudge_48 : decode cX4_readJudge 48 = .ok (.dup, 1) := by decide +kernel
theorem dX4_readJudge_49 : decode cX4_readJudge 49 = .ok (.getfield 99, 3) := by decide +kernel
theorem dX4_readJudge_52 : decode cX4_readJudge 52 = .ok (.iconst 1, 1) := by decide +kernel
theorem dX4_readJudge_53 : decode cX4_readJudge 53 = .ok (.iadd, 1) := by decide +kernel
theorem dX4_readJudge_54 : decode cX4_readJudge 54 = .ok (.putfield 99, 3) := by decide +kernel
theorem dX4_readJudge_57 : decode cX4_readJudge 57 = .ok (.return_, 1) := by decide +kernel
theorem dX4_readSenior_0 : decode cX4_readSenior 0 = .ok (.aload_n 0, 1) := by decide +kernel
theorem dX4_readSenior_1 : decode cX4_readSenior 1 = .ok (.getfield 35, 3) := by decide +kernel
theorem dX4_readSenior_4 : decode cX4_readSenior 4 = .ok (.ifCond .eq 9, 3) := by decide +kernel
theorem dX4_readSenior_7 : decode cX4_readSenior 7 = .ok (.aload_n 0, 1) := by decide +kernel
theorem dX4_readSenior_8 : decode cX4_readSenior 8 = .ok (.iconst 3, 1) := by decide +kernel
theorem dX4_readSenior_9 : decode cX4_readSenior 9 = .ok (.putfield 25, 3) := by decide +kernel
theorem dX4_readSenior_12 : decode cX4_readSenior 12 = .ok (.return_, 1) := by decide +kernel
theorem dX4_readSenior_13 : decode cX4_readSenior 13 = .ok (.aload_n 0, 1) := by decide +kernel
theorem dX4_readSenior_14 : decode cX4_readSenior 14 = .ok (.iconst 1, 1) := by decide +kernel
theorem dX4_readSenior_15 : decode cX4_readSenior 15 = .ok (.putfield 35, 3) := by decide +kernel
theorem dX4_readSenior_18 : decode cX4_readSenior 18 = .ok (.aload_n 0, 1) := by decide +kernel
theorem dX4_readSenior_19 : decode cX4_readSenior 19 = .ok (.invokevirtual 39, 3) := by decide +kernel
theorem dX4_readSenior_22 : decode cX4_readSenior 22 = .ok (.aload_n 0, 1) := by decide +kernel
theorem dX4_readSenior_23 : decode cX4_readSenior 23 = .ok (.getfield 18, 3) := by decide +kernel
theorem dX4_readSenior_26 : decode cX4_readSenior 26 = .ok (.aload_n 0, 1) := by decide +kernel
theorem dX4_readSenior_27 : decode cX4_readSenior 27 = .ok (.iconst 1, 1) := by decide +kernel
theorem dX4_readSenior_28 : decode cX4_readSenior 28 = .ok (.bipush 99, 2) := by decide +kernel
theorem dX4_readSenior_30 : decode cX4_readSenior 30 = .ok (.invokevirtual 80, 3) := by decide +kernel
theorem dX4_readSenior_33 : decode cX4_readSenior 33 = .ok (.putfield 106, 3) := by decide +kernel
theorem dX4_readSenior_36 : decode cX4_readSenior 36 = .ok (.return_, 1) := by decide +kernel
theorem dX4_readCase_0 : decode cX4_readCase 0 = .ok (.aload_n 0, 1) := by decide +kernel
theorem dX4_readCase_1 : decode cX4_readCase 1 = .ok (.getfield 18, 3) := by decide +kernel
theorem dX4_readCase_4 : decode cX4_readCase 4 = .ok (.getfield 109, 3) := by decide +kernel
theorem dX4_readCase_7 : decode cX4_readCase 7 = .ok (.istore_n 1, 1) := by decide +kernel
theorem dX4_readCase_8 : decode cX4_readCase 8 = .ok (.iload_n 1, 1) := by decide +kernel
theorem dX4_readCase_9 : decode cX4_readCase 9 = .ok (.bipush 14, 2) := by decide +kernel
theorem dX4_readCase_11 : decode cX4_readCase 11 = .ok (.if_icmp .lt 9, 3) := by decide +kernel
theorem dX4_readCase_14 : decode cX4_readCase 14 = .ok (.aload_n 0, 1) := by decide +kernel
theorem dX4_readCase_15 : decode cX4_readCase 15 = .ok (.iconst 3, 1) := by decide +kernel
theorem dX4_readCase_16 : decode cX4_readCase 16 = .ok (.putfield 25, 3) := by decide +kernel
theorem dX4_readCase_19 : decode cX4_readCase 19 = .ok (.return_, 1) := by decide +kernel
theorem dX4_readCase_20 : decode cX4_readCase 20 = .ok (.aload_n 0, 1) := by decide +kernel
theorem dX4_readCase_21 : decode cX4_readCase 21 = .ok (.invokevirtual 39, 3) := by decide +kernel
theorem dX4_readCase_24 : decode cX4_readCase 24 = .ok (.aload_n 0, 1) := by decide +kernel
theorem dX4_readCase_25 : decode cX4_readCase 25 = .ok (.getfield 18, 3) := by decide +kernel
theorem dX4_readCase_28 : decode cX4_readCase 28 = .ok (.getfield 112, 3) := by decide +kernel
theorem dX4_readCase_31 : decode cX4_readCase 31 = .ok (.iload_n 1, 1) := by decide +kernel
theorem dX4_readCase_32 : decode cX4_readCase 32 = .ok (.aload_n 0, 1) := by decide +kernel
theorem dX4_readCase_33 : decode cX4_readCase 33 = .ok (.iconst 1, 1) := by decide +kernel
theorem dX4_readCase_34 : decode cX4_readCase 34 = .ok (.bipush 9, 2) := by decide +kernel
theorem dX4_readCase_36 : decode cX4_readCase 36 = .ok (.invokevirtual 80, 3) := by decide +kernel
theorem dX4_readCase_39 : decode cX4_readCase 39 = .ok (.iastore, 1) := by decide +kernel
theorem dX4_readCase_40 : decode cX4_readCase 40 = .ok (.aload_n 0, 1) := by decide +kernel
theorem dX4_readCase_41 : decode cX4_readCase 41 = .ok (.getfield 18, 3) := by decide +kernel
theorem dX4_readCase_44 : decode cX4_readCase 44 = .ok (.getfield 115, 3) := by decide +kernel
theorem dX4_readCase_47 : decode cX4_readCase 47 = .ok (.iload_n 1, 1) := by decide +kernel
theorem dX4_readCase_48 : decode cX4_readCase 48 = .ok (.iconst 0, 1) := by decide +kernel
theorem dX4_readCase_49 : decode cX4_readCase 49 = .ok (.iastore, 1) := by decide +kernel
theorem dX4_readCase_50 : decode cX4_readCase 50 = .ok (.aload_n 0, 1) := by decide +kernel
theorem dX4_readCase_51 : decode cX4_readCase 51 = .ok (.getfield 18, 3) := by decide +kernel
theorem dX4_readCase_54 : decode cX4_readCase 54 = .ok (.dup, 1) := by decide +kernel
theorem dX4_readCase_55 : decode cX4_readCase 55 = .ok (.getfield 109, 3) := by decide +kernel
theorem dX4_readCase_58 : decode cX4_readCase 58 = .ok (.iconst 1, 1) := by decide +kernel
theorem dX4_readCase_59 : decode cX4_readCase 59 = .ok (.iadd, 1) := by decide +kernel
theorem dX4_readCase_60 : decode cX4_readCase 60 = .ok (.putfield 109, 3) := by decide +kernel
theorem dX4_readCase_63 : decode cX4_readCase 63 = .ok (.aload_n 0, 1) := by decide +kernel
theorem dX4_readCase_64 : decode cX4_readCase 64 = .ok (.getfield 25, 3) := by decide +kernel
theorem dX4_readCase_67 : decode cX4_readCase 67 = .ok (.ifCond .ne 29, 3) := by decide +kernel
theorem dX4_readCase_70 : decode cX4_readCase 70 = .ok (.aload_n 0, 1) := by decide +kernel
theorem dX4_readCase_71 : decode cX4_readCase 71 = .ok (.ldc 118, 2) := by decide +kernel
theorem dX4_readCase_73 : decode cX4_readCase 73 = .ok (.invokevirtual 58, 3) := by decide +kernel
theorem dX4_readCase_76 : decode cX4_readCase 76 = .ok (.ifCond .eq 20, 3) := by decide +kernel
theorem dX4_readCase_79 : decode cX4_readCase 79 = .ok (.aload_n 0, 1) := by decide +kernel
theorem dX4_readCase_80 : decode cX4_readCase 80 = .ok (.invokevirtual 39, 3) := by decide +kernel
theorem dX4_readCase_83 : decode cX4_readCase 83 = .ok (.aload_n 0, 1) := by decide +kernel
theorem dX4_readCase_84 : decode cX4_readCase 84 = .ok (.getfield 18, 3) := by decide +kernel
theorem dX4_readCase_87 : decode cX4_readCase 87 = .ok (.getfield 115, 3) := by decide +kernel
theorem dX4_readCase_90 : decode cX4_readCase 90 = .ok (.iload_n 1, 1) := by decide +kernel
theorem dX4_readCase_91 : decode cX4_readCase 91 = .ok (.aload_n 0, 1) := by decide +kernel
theorem dX4_readCase_92 : decode cX4_readCase 92 = .ok (.invokevirtual 120, 3) := by decide +kernel
theorem dX4_readCase_95 : decode cX4_readCase 95 = .ok (.iastore, 1) := by decide +kernel
theorem dX4_readCase_96 : decode cX4_readCase 96 = .ok (.return_, 1) := by decide +kernel
theorem dX4_takeBarred_0 : decode cX4_takeBarred 0 = .ok (.iconst 0, 1) := by decide +kernel
theorem dX4_takeBarred_1 : decode cX4_takeBarred 1 = .ok (.istore_n 1, 1) := by decide +kernel
theorem dX4_takeBarred_2 : decode cX4_takeBarred 2 = .ok (.aload_n 0, 1) := by decide +kernel
theorem dX4_takeBarred_3 : decode cX4_takeBarred 3 = .ok (.getfield 42, 3) := by decide +kernel
theorem dX4_takeBarred_6 : decode cX4_takeBarred 6 = .ok (.iconst 3, 1) := by decide +kernel
theorem dX4_takeBarred_7 : decode cX4_takeBarred 7 = .ok (.if_icmp .eq 8, 3) := by decide +kernel
theorem dX4_takeBarred_10 : decode cX4_takeBarred 10 = .ok (.aload_n 0, 1) := by decide +kernel
theorem dX4_takeBarred_11 : decode cX4_takeBarred 11 = .ok (.iconst 1, 1) := by decide +kernel
theorem dX4_takeBarred_12 : decode cX4_takeBarred 12 = .ok (.putfield 25, 3) := by decide +kernel
theorem dX4_takeBarred_15 : decode cX4_takeBarred 15 = .ok (.iconst 0, 1) := by decide +kernel
theorem dX4_takeBarred_16 : decode cX4_takeBarred 16 = .ok (.istore_n 2, 1) := by decide +kernel
theorem dX4_takeBarred_17 : decode cX4_takeBarred 17 = .ok (.iload_n 2, 1) := by decide +kernel
theorem dX4_takeBarred_18 : decode cX4_takeBarred 18 = .ok (.bipush 9, 2) := by decide +kernel
theorem dX4_takeBarred_20 : decode cX4_takeBarred 20 = .ok (.if_icmp .gt 70, 3) := by decide +kernel
theorem dX4_takeBarred_23 : decode cX4_takeBarred 23 = .ok (.aload_n 0, 1) := by decide +kernel
theorem dX4_takeBarred_24 : decode cX4_takeBarred 24 = .ok (.getfield 42, 3) := by decide +kernel
theorem dX4_takeBarred_27 : decode cX4_takeBarred 27 = .ok (.iconst 3, 1) := by decide +kernel
theorem dX4_takeBarred_28 : decode cX4_takeBarred 28 = .ok (.if_icmp .ne 62, 3) := by decide +kernel
theorem dX4_takeBarred_31 : decode cX4_takeBarred 31 = .ok (.aload_n 0, 1) := by decide +kernel
theorem dX4_takeBarred_32 : decode cX4_takeBarred 32 = .ok (.getfield 25, 3) := by decide +kernel
theorem dX4_takeBarred_35 : decode cX4_takeBarred 35 = .ok (.ifCond .ne 55, 3) := by decide +kernel
theorem dX4_takeBarred_38 : decode cX4_takeBarred 38 = .ok (.aload_n 0, 1) := by decide +kernel
theorem dX4_takeBarred_39 : decode cX4_takeBarred 39 = .ok (.getfield 18, 3) := by decide +kernel
theorem dX4_takeBarred_42 : decode cX4_takeBarred 42 = .ok (.aload_n 0, 1) := by decide +kernel
theorem dX4_takeBarred_43 : decode cX4_takeBarred 43 = .ok (.getfield 124, 3) := by decide +kernel
theorem dX4_takeBarred_46 : decode cX4_takeBarred 46 = .ok (.invokevirtual 127, 3) := by decide +kernel
theorem dX4_takeBarred_49 : decode cX4_takeBarred 49 = .ok (.ifCond .eq 14, 3) := by decide +kernel
theorem dX4_takeBarred_52 : decode cX4_takeBarred 52 = .ok (.iload_n 1, 1) := by decide +kernel
theorem dX4_takeBarred_53 : decode cX4_takeBarred 53 = .ok (.aload_n 0, 1) := by decide +kernel
theorem dX4_takeBarred_54 : decode cX4_takeBarred 54 = .ok (.getfield 124, 3) := by decide +kernel
theorem dX4_takeBarred_57 : decode cX4_takeBarred 57 = .ok (.invokestatic 131, 3) := by decide +kernel
theorem dX4_takeBarred_60 : decode cX4_takeBarred 60 = .ok (.ifCond .eq 11, 3) := by decide +kernel
theorem dX4_takeBarred_63 : decode cX4_takeBarred 63 = .ok (.aload_n 0, 1) := by decide +kernel
theorem dX4_takeBarred_64 : decode cX4_takeBarred 64 = .ok (.iconst 4, 1) := by decide +kernel
theorem dX4_takeBarred_65 : decode cX4_takeBarred 65 = .ok (.putfield 25, 3) := by decide +kernel
theorem dX4_takeBarred_68 : decode cX4_takeBarred 68 = .ok (.goto 16, 3) := by decide +kernel
theorem dX4_takeBarred_71 : decode cX4_takeBarred 71 = .ok (.iload_n 1, 1) := by decide +kernel
theorem dX4_takeBarred_72 : decode cX4_takeBarred 72 = .ok (.iconst 1, 1) := by decide +kernel
theorem dX4_takeBarred_73 : decode cX4_takeBarred 73 = .ok (.aload_n 0, 1) := by decide +kernel
theorem dX4_takeBarred_74 : decode cX4_takeBarred 74 = .ok (.getfield 124, 3) := by decide +kernel
theorem dX4_takeBarred_77 : decode cX4_takeBarred 77 = .ok (.ishl, 1) := by decide +kernel
theorem dX4_takeBarred_78 : decode cX4_takeBarred 78 = .ok (.ior, 1) := by decide +kernel
theorem dX4_takeBarred_79 : decode cX4_takeBarred 79 = .ok (.istore_n 1, 1) := by decide +kernel
theorem dX4_takeBarred_80 : decode cX4_takeBarred 80 = .ok (.aload_n 0, 1) := by decide +kernel
theorem dX4_takeBarred_81 : decode cX4_takeBarred 81 = .ok (.invokevirtual 39, 3) := by decide +kernel
theorem dX4_takeBarred_84 : decode cX4_takeBarred 84 = .ok (.iinc 2 1, 3) := by decide +kernel
theorem dX4_takeBarred_87 : decode cX4_takeBarred 87 = .ok (.goto (-70), 3) := by decide +kernel
theorem dX4_takeBarred_90 : decode cX4_takeBarred 90 = .ok (.iload_n 1, 1) := by decide +kernel
theorem dX4_takeBarred_91 : decode cX4_takeBarred 91 = .ok (.ireturn, 1) := by decide +kernel
theorem dX4_takeNumber_0 : decode cX4_takeNumber 0 = .ok (.aload_n 0, 1) := by decide +kernel
theorem dX4_takeNumber_1 : decode cX4_takeNumber 1 = .ok (.getfield 25, 3) := by decide +kernel
theorem dX4_takeNumber_4 : decode cX4_takeNumber 4 = .ok (.ifCond .eq 5, 3) := by decide +kernel
theorem dX4_takeNumber_7 : decode cX4_takeNumber 7 = .ok (.iconst (-1), 1) := by decide +kernel
theorem dX4_takeNumber_8 : decode cX4_takeNumber 8 = .ok (.ireturn, 1) := by decide +kernel
theorem dX4_takeNumber_9 : decode cX4_takeNumber 9 = .ok (.aload_n 0, 1) := by decide +kernel
theorem dX4_takeNumber_10 : decode cX4_takeNumber 10 = .ok (.getfield 42, 3) := by decide +kernel
theorem dX4_takeNumber_13 : decode cX4_takeNumber 13 = .ok (.iconst 3, 1) := by decide +kernel
theorem dX4_takeNumber_14 : decode cX4_takeNumber 14 = .ok (.if_icmp .eq 10, 3) := by decide +kernel
theorem dX4_takeNumber_17 : decode cX4_takeNumber 17 = .ok (.aload_n 0, 1) := by decide +kernel
theorem dX4_takeNumber_18 : decode cX4_takeNumber 18 = .ok (.iconst 1, 1) := by decide +kernel
theorem dX4_takeNumber_19 : decode cX4_takeNumber 19 = .ok (.putfield 25, 3) := by decide +kernel
theorem dX4_takeNumber_22 : decode cX4_takeNumber 22 = .ok (.iconst (-1), 1) := by decide +kernel
theorem dX4_takeNumber_23 : decode cX4_takeNumber 23 = .ok (.ireturn, 1) := by decide +kernel
theorem dX4_takeNumber_24 : decode cX4_takeNumber 24 = .ok (.aload_n 0, 1) := by decide +kernel
theorem dX4_takeNumber_25 : decode cX4_takeNumber 25 = .ok (.getfield 124, 3) := by decide +kernel
theorem dX4_takeNumber_28 : decode cX4_takeNumber 28 = .ok (.iload_n 1, 1) := by decide +kernel
theorem dX4_takeNumber_29 : decode cX4_takeNumber 29 = .ok (.if_icmp .lt 11, 3) := by decide +kernel
theorem dX4_takeNumber_32 : decode cX4_takeNumber 32 = .ok (.aload_n 0, 1) := by decide +kernel
theorem dX4_takeNumber_33 : decode cX4_takeNumber 33 = .ok (.getfield 124, 3) := by decide +kernel
theorem dX4_takeNumber_36 : decode cX4_takeNumber 36 = .ok (.iload_n 2, 1) := by decide +kernel
theorem dX4_takeNumber_37 : decode cX4_takeNumber 37 = .ok (.if_icmp .le 10, 3) := by decide +kernel
theorem dX4_takeNumber_40 : decode cX4_takeNumber 40 = .ok (.aload_n 0, 1) := by decide +kernel
theorem dX4_takeNumber_41 : decode cX4_takeNumber 41 = .ok (.iconst 2, 1) := by decide +kernel
theorem dX4_takeNumber_42 : decode cX4_takeNumber 42 = .ok (.putfield 25, 3) := by decide +kernel
theorem dX4_takeNumber_45 : decode cX4_takeNumber 45 = .ok (.iconst (-1), 1) := by decide +kernel
theorem dX4_takeNumber_46 : decode cX4_takeNumber 46 = .ok (.ireturn, 1) := by decide +kernel
theorem dX4_takeNumber_47 : decode cX4_takeNumber 47 = .ok (.aload_n 0, 1) := by decide +kernel
theorem dX4_takeNumber_48 : decode cX4_takeNumber 48 = .ok (.getfield 124, 3) := by decide +kernel
theorem dX4_takeNumber_51 : decode cX4_takeNumber 51 = .ok (.istore_n 3, 1) := by decide +kernel
theorem dX4_takeNumber_52 : decode cX4_takeNumber 52 = .ok (.aload_n 0, 1) := by decide +kernel
theorem dX4_takeNumber_53 : decode cX4_takeNumber 53 = .ok (.invokevirtual 39, 3) := by decide +kernel
theorem dX4_takeNumber_56 : decode cX4_takeNumber 56 = .ok (.iload_n 3, 1) := by decide +kernel
theorem dX4_takeNumber_57 : decode cX4_takeNumber 57 = .ok (.ireturn, 1) := by decide +kernel
theorem dX4_takeSign_0 : decode cX4_takeSign 0 = .ok (.aload_n 0, 1) := by decide +kernel
theorem dX4_takeSign_1 : decode cX4_takeSign 1 = .ok (.getfield 25, 3) := by decide +kernel
theorem dX4_takeSign_4 : decode cX4_takeSign 4 = .ok (.ifCond .eq 4, 3) := by decide +kernel
theorem dX4_takeSign_7 : decode cX4_takeSign 7 = .ok (.return_, 1) := by decide +kernel
theorem dX4_takeSign_8 : decode cX4_takeSign 8 = .ok (.aload_n 0, 1) := by decide +kernel
theorem dX4_takeSign_9 : decode cX4_takeSign 9 = .ok (.getfield 42, 3) := by decide +kernel
theorem dX4_takeSign_12 : decode cX4_takeSign 12 = .ok (.iconst 4, 1) := by decide +kernel
theorem dX4_takeSign_13 : decode cX4_takeSign 13 = .ok (.if_icmp .eq 9, 3) := by decide +kernel
theorem dX4_takeSign_16 : decode cX4_takeSign 16 = .ok (.aload_n 0, 1) := by decide +kernel
theorem dX4_takeSign_17 : decode cX4_takeSign 17 = .ok (.iconst 1, 1) := by decide +kernel
theorem dX4_takeSign_18 : decode cX4_takeSign 18 = .ok (.putfield 25, 3) := by decide +kernel
theorem dX4_takeSign_21 : decode cX4_takeSign 21 = .ok (.return_, 1) := by decide +kernel
theorem dX4_takeSign_22 : decode cX4_takeSign 22 = .ok (.aload_n 0, 1) := by decide +kernel
theorem dX4_takeSign_23 : decode cX4_takeSign 23 = .ok (.dup, 1) := by decide +kernel
theorem dX4_takeSign_24 : decode cX4_takeSign 24 = .ok (.getfield 29, 3) := by decide +kernel
theorem dX4_takeSign_27 : decode cX4_takeSign 27 = .ok (.iconst 1, 1) := by decide +kernel
theorem dX4_takeSign_28 : decode cX4_takeSign 28 = .ok (.iadd, 1) := by decide +kernel
theorem dX4_takeSign_29 : decode cX4_takeSign 29 = .ok (.putfield 29, 3) := by decide +kernel
theorem dX4_takeSign_32 : decode cX4_takeSign 32 = .ok (.aload_n 0, 1) := by decide +kernel
theorem dX4_takeSign_33 : decode cX4_takeSign 33 = .ok (.invokevirtual 39, 3) := by decide +kernel
theorem dX4_takeSign_36 : decode cX4_takeSign 36 = .ok (.return_, 1) := by decide +kernel
theorem dX4_isWord_0 : decode cX4_isWord 0 = .ok (.aload_n 0, 1) := by decide +kernel
theorem dX4_isWord_1 : decode cX4_isWord 1 = .ok (.getfield 42, 3) := by decide +kernel
theorem dX4_isWord_4 : decode cX4_isWord 4 = .ok (.iconst 2, 1) := by decide +kernel
theorem dX4_isWord_5 : decode cX4_isWord 5 = .ok (.if_icmp .ne 19, 3) := by decide +kernel
theorem dX4_isWord_8 : decode cX4_isWord 8 = .ok (.aload_n 0, 1) := by decide +kernel
theorem dX4_isWord_9 : decode cX4_isWord 9 = .ok (.getfield 32, 3) := by decide +kernel
theorem dX4_isWord_12 : decode cX4_isWord 12 = .ok (.aload_n 0, 1) := by decide +kernel
theorem dX4_isWord_13 : decode cX4_isWord 13 = .ok (.getfield 135, 3) := by decide +kernel
theorem dX4_isWord_16 : decode cX4_isWord 16 = .ok (.isub, 1) := by decide +kernel
theorem dX4_isWord_17 : decode cX4_isWord 17 = .ok (.aload_n 1, 1) := by decide +kernel
theorem dX4_isWord_18 : decode cX4_isWord 18 = .ok (.invokevirtual 138, 3) := by decide +kernel
theorem dX4_isWord_21 : decode cX4_isWord 21 = .ok (.if_icmp .eq 5, 3) := by decide +kernel
theorem dX4_isWord_24 : decode cX4_isWord 24 = .ok (.iconst 0, 1) := by decide +kernel
theorem dX4_isWord_25 : decode cX4_isWord 25 = .ok (.ireturn, 1) := by decide +kernel
theorem dX4_isWord_26 : decode cX4_isWord 26 = .ok (.iconst 0, 1) := by decide +kernel
theorem dX4_isWord_27 : decode cX4_isWord 27 = .ok (.istore_n 2, 1) := by decide +kernel
theorem dX4_isWord_28 : decode cX4_isWord 28 = .ok (.iload_n 2, 1) := by decide +kernel
theorem dX4_isWord_29 : decode cX4_isWord 29 = .ok (.aload_n 1, 1) := by decide +kernel
theorem dX4_isWord_30 : decode cX4_isWord 30 = .ok (.invokevirtual 138, 3) := by decide +kernel
theorem dX4_isWord_33 : decode cX4_isWord 33 = .ok (.if_icmp .ge 33, 3) := by decide +kernel
theorem dX4_isWord_36 : decode cX4_isWord 36 = .ok (.aload_n 0, 1) := by decide +kernel
theorem dX4_isWord_37 : decode cX4_isWord 37 = .ok (.getfield 9, 3) := by decide +kernel
theorem dX4_isWord_40 : decode cX4_isWord 40 = .ok (.getfield 142, 3) := by decide +kernel
theorem dX4_isWord_43 : decode cX4_isWord 43 = .ok (.aload_n 0, 1) := by decide +kernel
theorem dX4_isWord_44 : decode cX4_isWord 44 = .ok (.getfield 135, 3) := by decide +kernel
theorem dX4_isWord_47 : decode cX4_isWord 47 = .ok (.iload_n 2, 1) := by decide +kernel
theorem dX4_isWord_48 : decode cX4_isWord 48 = .ok (.iadd, 1) := by decide +kernel
theorem dX4_isWord_49 : decode cX4_isWord 49 = .ok (.baload, 1) := by decide +kernel
theorem dX4_isWord_50 : decode cX4_isWord 50 = .ok (.aload_n 1, 1) := by decide +kernel
theorem dX4_isWord_51 : decode cX4_isWord 51 = .ok (.iload_n 2, 1) := by decide +kernel
theorem dX4_isWord_52 : decode cX4_isWord 52 = .ok (.invokevirtual 146, 3) := by decide +kernel
theorem dX4_isWord_55 : decode cX4_isWord 55 = .ok (.if_icmp .eq 5, 3) := by decide +kernel
theorem dX4_isWord_58 : decode cX4_isWord 58 = .ok (.iconst 0, 1) := by decide +kernel
theorem dX4_isWord_59 : decode cX4_isWord 59 = .ok (.ireturn, 1) := by decide +kernel
theorem dX4_isWord_60 : decode cX4_isWord 60 = .ok (.iinc 2 1, 3) := by decide +kernel
theorem dX4_isWord_63 : decode cX4_isWord 63 = .ok (.goto (-35), 3) := by decide +kernel
theorem dX4_isWord_66 : decode cX4_isWord 66 = .ok (.iconst 1, 1) := by decide +kernel
theorem dX4_isWord_67 : decode cX4_isWord 67 = .ok (.ireturn, 1) := by decide +kernel
theorem dX4_step_0 : decode cX4_step 0 = .ok (.aload_n 0, 1) := by decide +kernel
theorem dX4_step_1 : decode cX4_step 1 = .ok (.getfield 32, 3) := by decide +kernel
theorem dX4_step_4 : decode cX4_step 4 = .ok (.aload_n 0, 1) := by decide +kernel
theorem dX4_step_5 : decode cX4_step 5 = .ok (.getfield 9, 3) := by decide +kernel
theorem dX4_step_8 : decode cX4_step 8 = .ok (.getfield 48, 3) := by decide +kernel
theorem dX4_step_11 : decode cX4_step 11 = .ok (.if_icmp .ge 34, 3) := by decide +kernel
theorem dX4_step_14 : decode cX4_step 14 = .ok (.aload_n 0, 1) := by decide +kernel
theorem dX4_step_15 : decode cX4_step 15 = .ok (.getfield 9, 3) := by decide +kernel
theorem dX4_step_18 : decode cX4_step 18 = .ok (.getfield 142, 3) := by decide +kernel
theorem dX4_step_21 : decode cX4_step 21 = .ok (.aload_n 0, 1) := by decide +kernel
theorem dX4_step_22 : decode cX4_step 22 = .ok (.getfield 32, 3) := by decide +kernel
theorem dX4_step_25 : decode cX4_step 25 = .ok (.baload, 1) := by decide +kernel
theorem dX4_step_26 : decode cX4_step 26 = .ok (.invokestatic 150, 3) := by decide +kernel
theorem dX4_step_29 : decode cX4_step 29 = .ok (.ifCond .eq 16, 3) := by decide +kernel
theorem dX4_step_32 : decode cX4_step 32 = .ok (.aload_n 0, 1) := by decide +kernel
theorem dX4_step_33 : decode cX4_step 33 = .ok (.dup, 1) := by decide +kernel
theorem dX4_step_34 : decode cX4_step 34 = .ok (.getfield 32, 3) := by decide +kernel
theorem dX4_step_37 : decode cX4_step 37 = .ok (.iconst 1, 1) := by decide +kernel
theorem dX4_step_38 : decode cX4_step 38 = .ok (.iadd, 1) := by decide +kernel
theorem dX4_step_39 : decode cX4_step 39 = .ok (.putfield 32, 3) := by decide +kernel
theorem dX4_step_42 : decode cX4_step 42 = .ok (.goto (-42), 3) := by decide +kernel
theorem dX4_step_45 : decode cX4_step 45 = .ok (.aload_n 0, 1) := by decide +kernel
theorem dX4_step_46 : decode cX4_step 46 = .ok (.getfield 9, 3) := by decide +kernel
theorem dX4_step_49 : decode cX4_step 49 = .ok (.getfield 48, 3) := by decide +kernel
theorem dX4_step_52 : decode cX4_step 52 = .ok (.sipush 500, 3) := by decide +kernel
theorem dX4_step_55 : decode cX4_step 55 = .ok (.invokestatic 153, 3) := by decide +kernel
theorem dX4_step_58 : decode cX4_step 58 = .ok (.istore_n 1, 1) := by decide +kernel
theorem dX4_step_59 : decode cX4_step 59 = .ok (.aload_n 0, 1) := by decide +kernel
theorem dX4_step_60 : decode cX4_step 60 = .ok (.getfield 32, 3) := by decide +kernel
theorem dX4_step_63 : decode cX4_step 63 = .ok (.iload_n 1, 1) := by decide +kernel
theorem dX4_step_64 : decode cX4_step 64 = .ok (.if_icmp .lt 14, 3) := by decide +kernel
theorem dX4_step_67 : decode cX4_step 67 = .ok (.aload_n 0, 1) := by decide +kernel
theorem dX4_step_68 : decode cX4_step 68 = .ok (.iload_n 1, 1) := by decide +kernel
theorem dX4_step_69 : decode cX4_step 69 = .ok (.putfield 135, 3) := by decide +kernel
theorem dX4_step_72 : decode cX4_step 72 = .ok (.aload_n 0, 1) := by decide +kernel
theorem dX4_step_73 : decode cX4_step 73 = .ok (.iconst 1, 1) := by decide +kernel
theorem dX4_step_74 : decode cX4_step 74 = .ok (.putfield 42, 3) := by decide +kernel
theorem dX4_step_77 : decode cX4_step 77 = .ok (.return_, 1) := by decide +kernel
theorem dX4_step_78 : decode cX4_step 78 = .ok (.aload_n 0, 1) := by decide +kernel
theorem dX4_step_79 : decode cX4_step 79 = .ok (.aload_n 0, 1) := by decide +kernel
theorem dX4_step_80 : decode cX4_step 80 = .ok (.getfield 32, 3) := by decide +kernel
theorem dX4_step_83 : decode cX4_step 83 = .ok (.putfield 135, 3) := by decide +kernel
theorem dX4_step_86 : decode cX4_step 86 = .ok (.iconst 0, 1) := by decide +kernel
theorem dX4_step_87 : decode cX4_step 87 = .ok (.istore_n 2, 1) := by decide +kernel
theorem dX4_step_88 : decode cX4_step 88 = .ok (.aload_n 0, 1) := by decide +kernel
theorem dX4_step_89 : decode cX4_step 89 = .ok (.iconst 0, 1) := by decide +kernel
theorem dX4_step_90 : decode cX4_step 90 = .ok (.putfield 124, 3) := by decide +kernel
theorem dX4_step_93 : decode cX4_step 93 = .ok (.aload_n 0, 1) := by decide +kernel
theorem dX4_step_94 : decode cX4_step 94 = .ok (.getfield 32, 3) := by decide +kernel
theorem dX4_step_97 : decode cX4_step 97 = .ok (.aload_n 0, 1) := by decide +kernel
theorem dX4_step_98 : decode cX4_step 98 = .ok (.getfield 9, 3) := by decide +kernel
theorem dX4_step_101 : decode cX4_step 101 = .ok (.getfield 48, 3) := by decide +kernel
theorem dX4_step_104 : decode cX4_step 104 = .ok (.if_icmp .ge 81, 3) := by decide +kernel
theorem dX4_step_107 : decode cX4_step 107 = .ok (.aload_n 0, 1) := by decide +kernel
theorem dX4_step_108 : decode cX4_step 108 = .ok (.getfield 9, 3) := by decide +kernel
theorem dX4_step_111 : decode cX4_step 111 = .ok (.getfield 142, 3) := by decide +kernel
theorem dX4_step_114 : decode cX4_step 114 = .ok (.aload_n 0, 1) := by decide +kernel
theorem dX4_step_115 : decode cX4_step 115 = .ok (.getfield 32, 3) := by decide +kernel
theorem dX4_step_118 : decode cX4_step 118 = .ok (.baload, 1) := by decide +kernel
theorem dX4_step_119 : decode cX4_step 119 = .ok (.invokestatic 158, 3) := by decide +kernel
theorem dX4_step_122 : decode cX4_step 122 = .ok (.ifCond .eq 63, 3) := by decide +kernel
theorem dX4_step_125 : decode cX4_step 125 = .ok (.aload_n 0, 1) := by decide +kernel
theorem dX4_step_126 : decode cX4_step 126 = .ok (.getfield 9, 3) := by decide +kernel
theorem dX4_step_129 : decode cX4_step 129 = .ok (.getfield 142, 3) := by decide +kernel
theorem dX4_step_132 : decode cX4_step 132 = .ok (.aload_n 0, 1) := by decide +kernel
theorem dX4_step_133 : decode cX4_step 133 = .ok (.getfield 32, 3) := by decide +kernel
theorem dX4_step_136 : decode cX4_step 136 = .ok (.baload, 1) := by decide +kernel
theorem dX4_step_137 : decode cX4_step 137 = .ok (.bipush 57, 2) := by decide +kernel
theorem dX4_step_139 : decode cX4_step 139 = .ok (.if_icmp .gt 33, 3) := by decide +kernel
theorem dX4_step_142 : decode cX4_step 142 = .ok (.iinc 2 1, 3) := by decide +kernel
theorem dX4_step_145 : decode cX4_step 145 = .ok (.aload_n 0, 1) := by decide +kernel
theorem dX4_step_146 : decode cX4_step 146 = .ok (.aload_n 0, 1) := by decide +kernel
theorem dX4_step_147 : decode cX4_step 147 = .ok (.getfield 124, 3) := by decide +kernel
theorem dX4_step_150 : decode cX4_step 150 = .ok (.bipush 10, 2) := by decide +kernel
theorem dX4_step_152 : decode cX4_step 152 = .ok (.imul, 1) := by decide +kernel
theorem dX4_step_153 : decode cX4_step 153 = .ok (.aload_n 0, 1) := by decide +kernel
theorem dX4_step_154 : decode cX4_step 154 = .ok (.getfield 9, 3) := by decide +kernel
theorem dX4_step_157 : decode cX4_step 157 = .ok (.getfield 142, 3) := by decide +kernel
theorem dX4_step_160 : decode cX4_step 160 = .ok (.aload_n 0, 1) := by decide +kernel
theorem dX4_step_161 : decode cX4_step 161 = .ok (.getfield 32, 3) := by decide +kernel
theorem dX4_step_164 : decode cX4_step 164 = .ok (.baload, 1) := by decide +kernel
theorem dX4_step_165 : decode cX4_step 165 = .ok (.bipush 48, 2) := by decide +kernel
theorem dX4_step_167 : decode cX4_step 167 = .ok (.isub, 1) := by decide +kernel
theorem dX4_step_168 : decode cX4_step 168 = .ok (.iadd, 1) := by decide +kernel
theorem dX4_step_169 : decode cX4_step 169 = .ok (.putfield 124, 3) := by decide +kernel
theorem dX4_step_172 : decode cX4_step 172 = .ok (.aload_n 0, 1) := by decide +kernel
theorem dX4_step_173 : decode cX4_step 173 = .ok (.dup, 1) := by decide +kernel
theorem dX4_step_174 : decode cX4_step 174 = .ok (.getfield 32, 3) := by decide +kernel
theorem dX4_step_177 : decode cX4_step 177 = .ok (.iconst 1, 1) := by decide +kernel
theorem dX4_step_178 : decode cX4_step 178 = .ok (.iadd, 1) := by decide +kernel
theorem dX4_step_179 : decode cX4_step 179 = .ok (.putfield 32, 3) := by decide +kernel
theorem dX4_step_182 : decode cX4_step 182 = .ok (.goto (-89), 3) := by decide +kernel
theorem dX4_step_185 : decode cX4_step 185 = .ok (.aload_n 0, 1) := by decide +kernel
theorem dX4_step_186 : decode cX4_step 186 = .ok (.getfield 32, 3) := by decide +kernel
theorem dX4_step_189 : decode cX4_step 189 = .ok (.aload_n 0, 1) := by decide +kernel
theorem dX4_step_190 : decode cX4_step 190 = .ok (.getfield 135, 3) := by decide +kernel
theorem dX4_step_193 : decode cX4_step 193 = .ok (.if_icmp .ne 42, 3) := by decide +kernel
theorem dX4_step_196 : decode cX4_step 196 = .ok (.aload_n 0, 1) := by decide +kernel
theorem dX4_step_197 : decode cX4_step 197 = .ok (.aload_n 0, 1) := by decide +kernel
theorem dX4_step_198 : decode cX4_step 198 = .ok (.getfield 9, 3) := by decide +kernel
theorem dX4_step_201 : decode cX4_step 201 = .ok (.getfield 142, 3) := by decide +kernel
theorem dX4_step_204 : decode cX4_step 204 = .ok (.aload_n 0, 1) := by decide +kernel
theorem dX4_step_205 : decode cX4_step 205 = .ok (.getfield 32, 3) := by decide +kernel
theorem dX4_step_208 : decode cX4_step 208 = .ok (.baload, 1) := by decide +kernel
theorem dX4_step_209 : decode cX4_step 209 = .ok (.bipush 59, 2) := by decide +kernel
theorem dX4_step_211 : decode cX4_step 211 = .ok (.if_icmp .ne 7, 3) := by decide +kernel
theorem dX4_step_214 : decode cX4_step 214 = .ok (.iconst 4, 1) := by decide +kernel
theorem dX4_step_215 : decode cX4_step 215 = .ok (.goto 4, 3) := by decide +kernel
theorem dX4_step_218 : decode cX4_step 218 = .ok (.iconst 0, 1) := by decide +kernel
theorem dX4_step_219 : decode cX4_step 219 = .ok (.putfield 42, 3) := by decide +kernel
theorem dX4_step_222 : decode cX4_step 222 = .ok (.aload_n 0, 1) := by decide +kernel
theorem dX4_step_223 : decode cX4_step 223 = .ok (.dup, 1) := by decide +kernel
theorem dX4_step_224 : decode cX4_step 224 = .ok (.getfield 32, 3) := by decide +kernel
theorem dX4_step_227 : decode cX4_step 227 = .ok (.iconst 1, 1) := by decide +kernel
theorem dX4_step_228 : decode cX4_step 228 = .ok (.iadd, 1) := by decide +kernel
theorem dX4_step_229 : decode cX4_step 229 = .ok (.putfield 32, 3) := by decide +kernel
theorem dX4_step_232 : decode cX4_step 232 = .ok (.goto 42, 3) := by decide +kernel
theorem dX4_step_235 : decode cX4_step 235 = .ok (.iload_n 2, 1) := by decide +kernel
theorem dX4_step_236 : decode cX4_step 236 = .ok (.ifCond .ne 11, 3) := by decide +kernel
theorem dX4_step_239 : decode cX4_step 239 = .ok (.aload_n 0, 1) := by decide +kernel
theorem dX4_step_240 : decode cX4_step 240 = .ok (.iconst 2, 1) := by decide +kernel
theorem dX4_step_241 : decode cX4_step 241 = .ok (.putfield 42, 3) := by decide +kernel
theorem dX4_step_244 : decode cX4_step 244 = .ok (.goto 30, 3) := by decide +kernel
theorem dX4_step_247 : decode cX4_step 247 = .ok (.aload_n 0, 1) := by decide +kernel
theorem dX4_step_248 : decode cX4_step 248 = .ok (.iload_n 2, 1) := by decide +kernel
theorem dX4_step_249 : decode cX4_step 249 = .ok (.aload_n 0, 1) := by decide +kernel
theorem dX4_step_250 : decode cX4_step 250 = .ok (.getfield 32, 3) := by decide +kernel
theorem dX4_step_253 : decode cX4_step 253 = .ok (.aload_n 0, 1) := by decide +kernel
theorem dX4_step_254 : decode cX4_step 254 = .ok (.getfield 135, 3) := by decide +kernel
theorem dX4_step_257 : decode cX4_step 257 = .ok (.isub, 1) := by decide +kernel
theorem dX4_step_258 : decode cX4_step 258 = .ok (.if_icmp .ne 12, 3) := by decide +kernel
theorem dX4_step_261 : decode cX4_step 261 = .ok (.iload_n 2, 1) := by decide +kernel
theorem dX4_step_262 : decode cX4_step 262 = .ok (.iconst 4, 1) := by decide +kernel
theorem dX4_step_263 : decode cX4_step 263 = .ok (.if_icmp .gt 7, 3) := by decide +kernel
theorem dX4_step_266 : decode cX4_step 266 = .ok (.iconst 3, 1) := by decide +kernel
theorem dX4_step_267 : decode cX4_step 267 = .ok (.goto 4, 3) := by decide +kernel
theorem dX4_step_270 : decode cX4_step 270 = .ok (.iconst 0, 1) := by decide +kernel
theorem dX4_step_271 : decode cX4_step 271 = .ok (.putfield 42, 3) := by decide +kernel
theorem dX4_step_274 : decode cX4_step 274 = .ok (.return_, 1) := by decide +kernel
theorem dX4_isBlank_0 : decode cX4_isBlank 0 = .ok (.iload_n 0, 1) := by decide +kernel
theorem dX4_isBlank_1 : decode cX4_isBlank 1 = .ok (.bipush 32, 2) := by decide +kernel
theorem dX4_isBlank_3 : decode cX4_isBlank 3 = .ok (.if_icmp .eq 9, 3) := by decide +kernel
theorem dX4_isBlank_6 : decode cX4_isBlank 6 = .ok (.iload_n 0, 1) := by decide +kernel
theorem dX4_isBlank_7 : decode cX4_isBlank 7 = .ok (.bipush 10, 2) := by decide +kernel
theorem dX4_isBlank_9 : decode cX4_isBlank 9 = .ok (.if_icmp .ne 7, 3) := by decide +kernel
theorem dX4_isBlank_12 : decode cX4_isBlank 12 = .ok (.iconst 1, 1) := by decide +kernel
theorem dX4_isBlank_13 : decode cX4_isBlank 13 = .ok (.goto 4, 3) := by decide +kernel
theorem dX4_isBlank_16 : decode cX4_isBlank 16 = .ok (.iconst 0, 1) := by decide +kernel
theorem dX4_isBlank_17 : decode cX4_isBlank 17 = .ok (.ireturn, 1) := by decide +kernel
theorem dX4_isSmallOrDigit_0 : decode cX4_isSmallOrDigit 0 = .ok (.iload_n 0, 1) := by decide +kernel
theorem dX4_isSmallOrDigit_1 : decode cX4_isSmallOrDigit 1 = .ok (.bipush 97, 2) := by decide +kernel
theorem dX4_isSmallOrDigit_3 : decode cX4_isSmallOrDigit 3 = .ok (.if_icmp .lt 9, 3) := by decide +kernel
theorem dX4_isSmallOrDigit_6 : decode cX4_isSmallOrDigit 6 = .ok (.iload_n 0, 1) := by decide +kernel
theorem dX4_isSmallOrDigit_7 : decode cX4_isSmallOrDigit 7 = .ok (.bipush 122, 2) := by decide +kernel
theorem dX4_isSmallOrDigit_9 : decode cX4_isSmallOrDigit 9 = .ok (.if_icmp .le 15, 3) := by decide +kernel
theorem dX4_isSmallOrDigit_12 : decode cX4_isSmallOrDigit 12 = .ok (.iload_n 0, 1) := by decide +kernel
theorem dX4_isSmallOrDigit_13 : decode cX4_isSmallOrDigit 13 = .ok (.bipush 48, 2) := by decide +kernel
theorem dX4_isSmallOrDigit_15 : decode cX4_isSmallOrDigit 15 = .ok (.if_icmp .lt 13, 3) := by decide +kernel
theorem dX4_isSmallOrDigit_18 : decode cX4_isSmallOrDigit 18 = .ok (.iload_n 0, 1) := by decide +kernel
theorem dX4_isSmallOrDigit_19 : decode cX4_isSmallOrDigit 19 = .ok (.bipush 57, 2) := by decide +kernel
theorem dX4_isSmallOrDigit_21 : decode cX4_isSmallOrDigit 21 = .ok (.if_icmp .gt 7, 3) := by decide +kernel
theorem dX4_isSmallOrDigit_24 : decode cX4_isSmallOrDigit 24 = .ok (.iconst 1, 1) := by decide +kernel
theorem dX4_isSmallOrDigit_25 : decode cX4_isSmallOrDigit 25 = .ok (.goto 4, 3) := by decide +kernel
theorem dX4_isSmallOrDigit_28 : decode cX4_isSmallOrDigit 28 = .ok (.iconst 0, 1) := by decide +kernel
theorem dX4_isSmallOrDigit_29 : decode cX4_isSmallOrDigit 29 = .ok (.ireturn, 1) := by decide +kernel
theorem dX5_init_0 : decode cX5_init 0 = .ok (.aload_n 0, 1) := by decide +kernel
theorem dX5_init_1 : decode cX5_init 1 = .ok (.invokespecial 3, 3) := by decide +kernel
theorem dX5_init_4 : decode cX5_init 4 = .ok (.aload_n 0, 1) := by decide +kernel
theorem dX5_init_5 : decode cX5_init 5 = .ok (.sipush 540, 3) := by decide +kernel
theorem dX5_init_8 : decode cX5_init 8 = .ok (.newarray .byte, 2) := by decide +kernel
theorem dX5_init_10 : decode cX5_init 10 = .ok (.putfield 9, 3) := by decide +kernel
theorem dX5_init_13 : decode cX5_init 13 = .ok (.aload_n 0, 1) := by decide +kernel
theorem dX5_init_14 : decode cX5_init 14 = .ok (.iconst 0, 1) := by decide +kernel
theorem dX5_init_15 : decode cX5_init 15 = .ok (.putfield 15, 3) := by decide +kernel
theorem dX5_init_18 : decode cX5_init 18 = .ok (.return_, 1) := by decide +kernel
theorem dX5_put_0 : decode cX5_put 0 = .ok (.bipush 24, 2) := by decide +kernel
theorem dX5_put_2 : decode cX5_put 2 = .ok (.istore_n 2, 1) := by decide +kernel
theorem dX5_put_3 : decode cX5_put 3 = .ok (.iload_n 2, 1) := by decide +kernel
theorem dX5_put_4 : decode cX5_put 4 = .ok (.ifCond .lt 42, 3) := by decide +kernel
theorem dX5_put_7 : decode cX5_put 7 = .ok (.aload_n 0, 1) := by decide +kernel
theorem dX5_put_8 : decode cX5_put 8 = .ok (.getfield 15, 3) := by decide +kernel
theorem dX5_put_11 : decode cX5_put 11 = .ok (.sipush 540, 3) := by decide +kernel
theorem dX5_put_14 : decode cX5_put 14 = .ok (.if_icmp .ge 32, 3) := by decide +kernel
theorem dX5_put_17 : decode cX5_put 17 = .ok (.aload_n 0, 1) := by decide +kernel
theorem dX5_put_18 : decode cX5_put 18 = .ok (.getfield 9, 3) := by decide +kernel
theorem dX5_put_21 : decode cX5_put 21 = .ok (.aload_n 0, 1) := by decide +kernel
theorem dX5_put_22 : decode cX5_put 22 = .ok (.getfield 15, 3) := by decide +kernel
theorem dX5_put_25 : decode cX5_put 25 = .ok (.iload_n 1, 1) := by decide +kernel
theorem dX5_put_26 : decode cX5_put 26 = .ok (.iload_n 2, 1) := by decide +kernel
theorem dX5_put_27 : decode cX5_put 27 = .ok (.ishr, 1) := by decide +kernel
theorem dX5_put_28 : decode cX5_put 28 = .ok (.i2b, 1) := by decide +kernel
theorem dX5_put_29 : decode cX5_put 29 = .ok (.bastore, 1) := by decide +kernel
theorem dX5_put_30 : decode cX5_put 30 = .ok (.aload_n 0, 1) := by decide +kernel
theorem dX5_put_31 : decode cX5_put 31 = .ok (.dup, 1) := by decide +kernel
theorem dX5_put_32 : decode cX5_put 32 = .ok (.getfield 15, 3) := by decide +kernel
theorem dX5_put_35 : decode cX5_put 35 = .ok (.iconst 1, 1) := by decide +kernel
theorem dX5_put_36 : decode cX5_put 36 = .ok (.iadd, 1) := by decide +kernel
theorem dX5_put_37 : decode cX5_put 37 = .ok (.putfield 15, 3) := by decide +kernel
theorem dX5_put_40 : decode cX5_put 40 = .ok (.iinc 2 (-8), 3) := by decide +kernel
theorem dX5_put_43 : decode cX5_put 43 = .ok (.goto (-40), 3) := by decide +kernel
theorem dX5_put_46 : decode cX5_put 46 = .ok (.return_, 1) := by decide +kernel
theorem dX6_init_0 : decode cX6_init 0 = .ok (.aload_n 0, 1) := by decide +kernel
theorem dX6_init_1 : decode cX6_init 1 = .ok (.invokespecial 3, 3) := by decide +kernel
theorem dX6_init_4 : decode cX6_init 4 = .ok (.aload_n 0, 1) := by decide +kernel
theorem dX6_init_5 : decode cX6_init 5 = .ok (.bipush 9, 2) := by decide +kernel
theorem dX6_init_7 : decode cX6_init 7 = .ok (.newarray .int, 2) := by decide +kernel
theorem dX6_init_9 : decode cX6_init 9 = .ok (.putfield 9, 3) := by decide +kernel
theorem dX6_init_12 : decode cX6_init 12 = .ok (.aload_n 0, 1) := by decide +kernel
theorem dX6_init_13 : decode cX6_init 13 = .ok (.bipush 14, 2) := by decide +kernel
theorem dX6_init_15 : decode cX6_init 15 = .ok (.newarray .int, 2) := by decide +kernel
theorem dX6_init_17 : decode cX6_init 17 = .ok (.putfield 15, 3) := by decide +kernel
theorem dX6_init_20 : decode cX6_init 20 = .ok (.aload_n 0, 1) := by decide +kernel
theorem dX6_init_21 : decode cX6_init 21 = .ok (.bipush 14, 2) := by decide +kernel
theorem dX6_init_23 : decode cX6_init 23 = .ok (.newarray .int, 2) := by decide +kernel
theorem dX6_init_25 : decode cX6_init 25 = .ok (.putfield 18, 3) := by decide +kernel
theorem dX6_init_28 : decode cX6_init 28 = .ok (.aload_n 0, 1) := by decide +kernel
theorem dX6_init_29 : decode cX6_init 29 = .ok (.iconst 1, 1) := by decide +kernel
theorem dX6_init_30 : decode cX6_init 30 = .ok (.putfield 21, 3) := by decide +kernel
theorem dX6_init_33 : decode cX6_init 33 = .ok (.return_, 1) := by decide +kernel
theorem dX6_clear_0 : decode cX6_clear 0 = .ok (.aload_n 0, 1) := by decide +kernel
theorem dX6_clear_1 : decode cX6_clear 1 = .ok (.iconst 0, 1) := by decide +kernel
theorem dX6_clear_2 : decode cX6_clear 2 = .ok (.putfield 25, 3) := by decide +kernel
theorem dX6_clear_5 : decode cX6_clear 5 = .ok (.aload_n 0, 1) := by decide +kernel
theorem dX6_clear_6 : decode cX6_clear 6 = .ok (.iconst 0, 1) := by decide +kernel
theorem dX6_clear_7 : decode cX6_clear 7 = .ok (.putfield 28, 3) := by decide +kernel
theorem dX6_clear_10 : decode cX6_clear 10 = .ok (.aload_n 0, 1) := by decide +kernel
theorem dX6_clear_11 : decode cX6_clear 11 = .ok (.iconst 0, 1) := by decide +kernel
theorem dX6_clear_12 : decode cX6_clear 12 = .ok (.putfield 31, 3) := by decide +kernel
theorem dX6_clear_15 : decode cX6_clear 15 = .ok (.aload_n 0, 1) := by decide +kernel
theorem dX6_clear_16 : decode cX6_clear 16 = .ok (.iconst 0, 1) := by decide +kernel
theorem dX6_clear_17 : decode cX6_clear 17 = .ok (.putfield 34, 3) := by decide +kernel
theorem dX6_clear_20 : decode cX6_clear 20 = .ok (.aload_n 0, 1) := by decide +kernel
theorem dX6_clear_21 : decode cX6_clear 21 = .ok (.iconst 0, 1) := by decide +kernel
theorem dX6_clear_22 : decode cX6_clear 22 = .ok (.putfield 37, 3) := by decide +kernel
theorem dX6_clear_25 : decode cX6_clear 25 = .ok (.aload_n 0, 1) := by decide +kernel
theorem dX6_clear_26 : decode cX6_clear 26 = .ok (.iconst 1, 1) := by decide +kernel
theorem dX6_clear_27 : decode cX6_clear 27 = .ok (.putfield 21, 3) := by decide +kernel
theorem dX6_clear_30 : decode cX6_clear 30 = .ok (.aload_n 0, 1) := by decide +kernel
theorem dX6_clear_31 : decode cX6_clear 31 = .ok (.iconst 0, 1) := by decide +kernel
theorem dX6_clear_32 : decode cX6_clear 32 = .ok (.putfield 40, 3) := by decide +kernel
theorem dX6_clear_35 : decode cX6_clear 35 = .ok (.aload_n 0, 1) := by decide +kernel
theorem dX6_clear_36 : decode cX6_clear 36 = .ok (.iconst 0, 1) := by decide +kernel
theorem dX6_clear_37 : decode cX6_clear 37 = .ok (.putfield 43, 3) := by decide +kernel
theorem dX6_clear_40 : decode cX6_clear 40 = .ok (.return_, 1) := by decide +kernel
theorem dX6_become_0 : decode cX6_become 0 = .ok (.aload_n 0, 1) := by decide +kernel
theorem dX6_become_1 : decode cX6_become 1 = .ok (.aload_n 1, 1) := by decide +kernel
theorem dX6_become_2 : decode cX6_become 2 = .ok (.getfield 25, 3) := by decide +kernel
theorem dX6_become_5 : decode cX6_become 5 = .ok (.putfield 25, 3) := by decide +kernel
theorem dX6_become_8 : decode cX6_become 8 = .ok (.aload_n 0, 1) := by decide +kernel
theorem dX6_become_9 : decode cX6_become 9 = .ok (.aload_n 1, 1) := by decide +kernel
theorem dX6_become_10 : decode cX6_become 10 = .ok (.getfield 28, 3) := by decide +kernel
theorem dX6_become_13 : decode cX6_become 13 = .ok (.putfield 28, 3) := by decide +kernel
theorem dX6_become_16 : decode cX6_become 16 = .ok (.aload_n 0, 1) := by decide +kernel
theorem dX6_become_17 : decode cX6_become 17 = .ok (.aload_n 1, 1) := by decide +kernel
theorem dX6_become_18 : decode cX6_become 18 = .ok (.getfield 31, 3) := by decide +kernel
theorem dX6_become_21 : decode cX6_become 21 = .ok (.putfield 31, 3) := by decide +kernel
theorem dX6_become_24 : decode cX6_become 24 = .ok (.aload_n 0, 1) := by decide +kernel
theorem dX6_become_25 : decode cX6_become 25 = .ok (.aload_n 1, 1) := by decide +kernel
theorem dX6_become_26 : decode cX6_become 26 = .ok (.getfield 34, 3) := by decide +kernel
theorem dX6_become_29 : decode cX6_become 29 = .ok (.putfield 34, 3) := by decide +kernel
theorem dX6_become_32 : decode cX6_become 32 = .ok (.aload_n 0, 1) := by decide +kernel
theorem dX6_become_33 : decode cX6_become 33 = .ok (.aload_n 1, 1) := by decide +kernel
theorem dX6_become_34 : decode cX6_become 34 = .ok (.getfield 37, 3) := by decide +kernel
theorem dX6_become_37 : decode cX6_become 37 = .ok (.putfield 37, 3) := by decide +kernel
theorem dX6_become_40 : decode cX6_become 40 = .ok (.aload_n 0, 1) := by decide +kernel
theorem dX6_become_41 : decode cX6_become 41 = .ok (.aload_n 1, 1) := by decide +kernel
theorem dX6_become_42 : decode cX6_become 42 = .ok (.getfield 21, 3) := by decide +kernel
theorem dX6_become_45 : decode cX6_become 45 = .ok (.putfield 21, 3) := by decide +kernel
theorem dX6_become_48 : decode cX6_become 48 = .ok (.aload_n 0, 1) := by decide +kernel
theorem dX6_become_49 : decode cX6_become 49 = .ok (.aload_n 1, 1) := by decide +kernel
theorem dX6_become_50 : decode cX6_become 50 = .ok (.getfield 40, 3) := by decide +kernel
theorem dX6_become_53 : decode cX6_become 53 = .ok (.putfield 40, 3) := by decide +kernel
theorem dX6_become_56 : decode cX6_become 56 = .ok (.aload_n 0, 1) := by decide +kernel
theorem dX6_become_57 : decode cX6_become 57 = .ok (.aload_n 1, 1) := by decide +kernel
theorem dX6_become_58 : decode cX6_become 58 = .ok (.getfield 43, 3) := by decide +kernel
theorem dX6_become_61 : decode cX6_become 61 = .ok (.putfield 43, 3) := by decide +kernel
theorem dX6_become_64 : decode cX6_become 64 = .ok (.aload_n 1, 1) := by decide +kernel
theorem dX6_become_65 : decode cX6_become 65 = .ok (.getfield 9, 3) := by decide +kernel
theorem dX6_become_68 : decode cX6_become 68 = .ok (.iconst 0, 1) := by decide +kernel
theorem dX6_become_69 : decode cX6_become 69 = .ok (.aload_n 0, 1) := by decide +kernel
theorem dX6_become_70 : decode cX6_become 70 = .ok (.getfield 9, 3) := by decide +kernel
theorem dX6_become_73 : decode cX6_become 73 = .ok (.iconst 0, 1) := by decide +kernel
theorem dX6_become_74 : decode cX6_become 74 = .ok (.bipush 9, 2) := by decide +kernel
theorem dX6_become_76 : decode cX6_become 76 = .ok (.invokestatic 46, 3) := by decide +kernel
theorem dX6_become_79 : decode cX6_become 79 = .ok (.aload_n 1, 1) := by decide +kernel
theorem dX6_become_80 : decode cX6_become 80 = .ok (.getfield 15, 3) := by decide +kernel
theorem dX6_become_83 : decode cX6_become 83 = .ok (.iconst 0, 1) := by decide +kernel
theorem dX6_become_84 : decode cX6_become 84 = .ok (.aload_n 0, 1) := by decide +kernel
theorem dX6_become_85 : decode cX6_become 85 = .ok (.getfield 15, 3) := by decide +kernel
theorem dX6_become_88 : decode cX6_become 88 = .ok (.iconst 0, 1) := by decide +kernel
theorem dX6_become_89 : decode cX6_become 89 = .ok (.bipush 14, 2) := by decide +kernel
theorem dX6_become_91 : decode cX6_become 91 = .ok (.invokestatic 46, 3) := by decide +kernel
theorem dX6_become_94 : decode cX6_become 94 = .ok (.aload_n 1, 1) := by decide +kernel
theorem dX6_become_95 : decode cX6_become 95 = .ok (.getfield 18, 3) := by decide +kernel
theorem dX6_become_98 : decode cX6_become 98 = .ok (.iconst 0, 1) := by decide +kernel
theorem dX6_become_99 : decode cX6_become 99 = .ok (.aload_n 0, 1) := by decide +kernel
theorem dX6_become_100 : decode cX6_become 100 = .ok (.getfield 18, 3) := by decide +kernel
theorem dX6_become_103 : decode cX6_become 103 = .ok (.iconst 0, 1) := by decide +kernel
theorem dX6_become_104 : decode cX6_become 104 = .ok (.bipush 14, 2) := by decide +kernel
theorem dX6_become_106 : decode cX6_become 106 = .ok (.invokestatic 46, 3) := by decide +kernel
theorem dX6_become_109 : decode cX6_become 109 = .ok (.aload_n 0, 1) := by decide +kernel
theorem dX6_become_110 : decode cX6_become 110 = .ok (.invokevirtual 52, 3) := by decide +kernel
theorem dX6_become_113 : decode cX6_become 113 = .ok (.return_, 1) := by decide +kernel
theorem dX6_markSeniors_0 : decode cX6_markSeniors 0 = .ok (.aload_n 0, 1) := by decide +kernel
theorem dX6_markSeniors_1 : decode cX6_markSeniors 1 = .ok (.iconst 0, 1) := by decide +kernel
theorem dX6_markSeniors_2 : decode cX6_markSeniors 2 = .ok (.putfield 55, 3) := by decide +kernel
theorem dX6_markSeniors_5 : decode cX6_markSeniors 5 = .ok (.iconst 0, 1) := by decide +kernel
theorem dX6_markSeniors_6 : decode cX6_markSeniors 6 = .ok (.istore_n 1, 1) := by decide +kernel
theorem dX6_markSeniors_7 : decode cX6_markSeniors 7 = .ok (.iload_n 1, 1) := by decide +kernel
theorem dX6_markSeniors_8 : decode cX6_markSeniors 8 = .ok (.aload_n 0, 1) := by decide +kernel
theorem dX6_markSeniors_9 : decode cX6_markSeniors 9 = .ok (.getfield 40, 3) := by decide +kernel
theorem dX6_markSeniors_12 : decode cX6_markSeniors 12 = .ok (.if_icmp .ge 34, 3) := by decide +kernel
theorem dX6_markSeniors_15 : decode cX6_markSeniors 15 = .ok (.aload_n 0, 1) := by decide +kernel
theorem dX6_markSeniors_16 : decode cX6_markSeniors 16 = .ok (.getfield 9, 3) := by decide +kernel
theorem dX6_markSeniors_19 : decode cX6_markSeniors 19 = .ok (.iload_n 1, 1) := by decide +kernel
theorem dX6_markSeniors_20 : decode cX6_markSeniors 20 = .ok (.iaload, 1) := by decide +kernel
theorem dX6_markSeniors_21 : decode cX6_markSeniors 21 = .ok (.aload_n 0, 1) := by decide +kernel
theorem dX6_markSeniors_22 : decode cX6_markSeniors 22 = .ok (.getfield 21, 3) := by decide +kernel
theorem dX6_markSeniors_25 : decode cX6_markSeniors 25 = .ok (.if_icmp .lt 15, 3) := by decide +kernel
theorem dX6_markSeniors_28 : decode cX6_markSeniors 28 = .ok (.aload_n 0, 1) := by decide +kernel
theorem dX6_markSeniors_29 : decode cX6_markSeniors 29 = .ok (.dup, 1) := by decide +kernel
theorem dX6_markSeniors_30 : decode cX6_markSeniors 30 = .ok (.getfield 55, 3) := by decide +kernel
theorem dX6_markSeniors_33 : decode cX6_markSeniors 33 = .ok (.iconst 1, 1) := by decide +kernel
theorem dX6_markSeniors_34 : decode cX6_markSeniors 34 = .ok (.iload_n 1, 1) := by decide +kernel
theorem dX6_markSeniors_35 : decode cX6_markSeniors 35 = .ok (.ishl, 1) := by decide +kernel
theorem dX6_markSeniors_36 : decode cX6_markSeniors 36 = .ok (.ior, 1) := by decide +kernel
theorem dX6_markSeniors_37 : decode cX6_markSeniors 37 = .ok (.putfield 55, 3) := by decide +kernel
theorem dX6_markSeniors_40 : decode cX6_markSeniors 40 = .ok (.iinc 1 1, 3) := by decide +kernel
theorem dX6_markSeniors_43 : decode cX6_markSeniors 43 = .ok (.goto (-36), 3) := by decide +kernel
theorem dX6_markSeniors_46 : decode cX6_markSeniors 46 = .ok (.return_, 1) := by decide +kernel
theorem dX6_hasJudge_0 : decode cX6_hasJudge 0 = .ok (.iload_n 1, 1) := by decide +kernel
theorem dX6_hasJudge_1 : decode cX6_hasJudge 1 = .ok (.ifCond .lt 15, 3) := by decide +kernel
theorem dX6_hasJudge_4 : decode cX6_hasJudge 4 = .ok (.iload_n 1, 1) := by decide +kernel
theorem dX6_hasJudge_5 : decode cX6_hasJudge 5 = .ok (.aload_n 0, 1) := by decide +kernel
theorem dX6_hasJudge_6 : decode cX6_hasJudge 6 = .ok (.getfield 40, 3) := by decide +kernel
theorem dX6_hasJudge_9 : decode cX6_hasJudge 9 = .ok (.if_icmp .ge 7, 3) := by decide +kernel
theorem dX6_hasJudge_12 : decode cX6_hasJudge 12 = .ok (.iconst 1, 1) := by decide +kernel
theorem dX6_hasJudge_13 : decode cX6_hasJudge 13 = .ok (.goto 4, 3) := by decide +kernel
theorem dX6_hasJudge_16 : decode cX6_hasJudge 16 = .ok (.iconst 0, 1) := by decide +kernel
theorem dX6_hasJudge_17 : decode cX6_hasJudge 17 = .ok (.ireturn, 1) := by decide +kernel
theorem dX6_hasCase_0 : decode cX6_hasCase 0 = .ok (.iload_n 1, 1) := by decide +kernel
theorem dX6_hasCase_1 : decode cX6_hasCase 1 = .ok (.ifCond .lt 15, 3) := by decide +kernel
theorem dX6_hasCase_4 : decode cX6_hasCase 4 = .ok (.iload_n 1, 1) := by decide +kernel
theorem dX6_hasCase_5 : decode cX6_hasCase 5 = .ok (.aload_n 0, 1) := by decide +kernel
theorem dX6_hasCase_6 : decode cX6_hasCase 6 = .ok (.getfield 43, 3) := by decide +kernel
theorem dX6_hasCase_9 : decode cX6_hasCase 9 = .ok (.if_icmp .ge 7, 3) := by decide +kernel
theorem dX6_hasCase_12 : decode cX6_hasCase 12 = .ok (.iconst 1, 1) := by decide +kernel
theorem dX6_hasCase_13 : decode cX6_hasCase 13 = .ok (.goto 4, 3) := by decide +kernel
theorem dX6_hasCase_16 : decode cX6_hasCase 16 = .ok (.iconst 0, 1) := by decide +kernel
theorem dX6_hasCase_17 : decode cX6_hasCase 17 = .ok (.ireturn, 1) := by decide +kernel
theorem dX6_isBench_0 : decode cX6_isBench 0 = .ok (.iload_n 1, 1) := by decide +kernel
theorem dX6_isBench_1 : decode cX6_isBench 1 = .ok (.ifCond .lt 25, 3) := by decide +kernel
theorem dX6_isBench_4 : decode cX6_isBench 4 = .ok (.iload_n 1, 1) := by decide +kernel
theorem dX6_isBench_5 : decode cX6_isBench 5 = .ok (.iconst 1, 1) := by decide +kernel
theorem dX6_isBench_6 : decode cX6_isBench 6 = .ok (.aload_n 0, 1) := by decide +kernel
theorem dX6_isBench_7 : decode cX6_isBench 7 = .ok (.getfield 40, 3) := by decide +kernel
theorem dX6_isBench_10 : decode cX6_isBench 10 = .ok (.ishl, 1) := by decide +kernel
theorem dX6_isBench_11 : decode cX6_isBench 11 = .ok (.if_icmp .ge 15, 3) := by decide +kernel
theorem dX6_isBench_14 : decode cX6_isBench 14 = .ok (.iload_n 1, 1) := by decide +kernel
theorem dX6_isBench_15 : decode cX6_isBench 15 = .ok (.invokestatic 58, 3) := by decide +kernel
theorem dX6_isBench_18 : decode cX6_isBench 18 = .ok (.iconst 3, 1) := by decide +kernel
theorem dX6_isBench_19 : decode cX6_isBench 19 = .ok (.if_icmp .ne 7, 3) := by decide +kernel
theorem dX6_isBench_22 : decode cX6_isBench 22 = .ok (.iconst 1, 1) := by decide +kernel
theorem dX6_isBench_23 : decode cX6_isBench 23 = .ok (.goto 4, 3) := by decide +kernel
theorem dX6_isBench_26 : decode cX6_isBench 26 = .ok (.iconst 0, 1) := by decide +kernel
theorem dX6_isBench_27 : decode cX6_isBench 27 = .ok (.ireturn, 1) := by decide +kernel
theorem dX6_presiding_0 : decode cX6_presiding 0 = .ok (.iconst (-1), 1) := by decide +kernel
theorem dX6_presiding_1 : decode cX6_presiding 1 = .ok (.istore_n 2, 1) := by decide +kernel
theorem dX6_presiding_2 : decode cX6_presiding 2 = .ok (.iconst 0, 1) := by decide +kernel
theorem dX6_presiding_3 : decode cX6_presiding 3 = .ok (.istore_n 3, 1) := by decide +kernel
theorem dX6_presiding_4 : decode cX6_presiding 4 = .ok (.iload_n 3, 1) := by decide +kernel
theorem dX6_presiding_5 : decode cX6_presiding 5 = .ok (.aload_n 0, 1) := by decide +kernel
theorem dX6_presiding_6 : decode cX6_presiding 6 = .ok (.getfield 40, 3) := by decide +kernel
theorem dX6_presiding_9 : decode cX6_presiding 9 = .ok (.if_icmp .ge 39, 3) := by decide +kernel
theorem dX6_presiding_12 : decode cX6_presiding 12 = .ok (.iload_n 1, 1) := by decide +kernel
theorem dX6_presiding_13 : decode cX6_presiding 13 = .ok (.iload_n 3, 1) := by decide +kernel
theorem dX6_presiding_14 : decode cX6_presiding 14 = .ok (.invokestatic 64, 3) := by decide +kernel
theorem dX6_presiding_17 : decode cX6_presiding 17 = .ok (.ifCond .eq 25, 3) := by decide +kernel
theorem dX6_presiding_20 : decode cX6_presiding 20 = .ok (.iload_n 2, 1) := by decide +kernel
theorem dX6_presiding_21 : decode cX6_presiding 21 = .ok (.iconst (-1), 1) := by decide +kernel
theorem dX6_presiding_22 : decode cX6_presiding 22 = .ok (.if_icmp .eq 18, 3) := by decide +kernel
theorem dX6_presiding_25 : decode cX6_presiding 25 = .ok (.aload_n 0, 1) := by decide +kernel
theorem dX6_presiding_26 : decode cX6_presiding 26 = .ok (.getfield 9, 3) := by decide +kernel
theorem dX6_presiding_29 : decode cX6_presiding 29 = .ok (.iload_n 3, 1) := by decide +kernel
theorem dX6_presiding_30 : decode cX6_presiding 30 = .ok (.iaload, 1) := by decide +kernel
theorem dX6_presiding_31 : decode cX6_presiding 31 = .ok (.aload_n 0, 1) := by decide +kernel
theorem dX6_presiding_32 : decode cX6_presiding 32 = .ok (.getfield 9, 3) := by decide +kernel
theorem dX6_presiding_35 : decode cX6_presiding 35 = .ok (.iload_n 2, 1) := by decide +kernel
theorem dX6_presiding_36 : decode cX6_presiding 36 = .ok (.iaload, 1) := by decide +kernel
theorem dX6_presiding_37 : decode cX6_presiding 37 = .ok (.if_icmp .le 5, 3) := by decide +kernel
theorem dX6_presiding_40 : decode cX6_presiding 40 = .ok (.iload_n 3, 1) := by decide +kernel
theorem dX6_presiding_41 : decode cX6_presiding 41 = .ok (.istore_n 2, 1) := by decide +kernel
theorem dX6_presiding_42 : decode cX6_presiding 42 = .ok (.iinc 3 1, 3) := by decide +kernel
theorem dX6_presiding_45 : decode cX6_presiding 45 = .ok (.goto (-41), 3) := by decide +kernel
theorem dX6_presiding_48 : decode cX6_presiding 48 = .ok (.iload_n 2, 1) := by decide +kernel
theorem dX6_presiding_49 : decode cX6_presiding 49 = .ok (.ireturn, 1) := by decide +kernel
theorem dX7_init_0 : decode cX7_init 0 = .ok (.aload_n 0, 1) := by decide +kernel
theorem dX7_init_1 : decode cX7_init 1 = .ok (.invokespecial 1, 3) := by decide +kernel
theorem dX7_init_4 : decode cX7_init 4 = .ok (.aload_n 0, 1) := by decide +kernel
theorem dX7_init_5 : decode cX7_init 5 = .ok (.new 7, 3) := by decide +kernel
theorem dX7_init_8 : decode cX7_init 8 = .ok (.dup, 1) := by decide +kernel
theorem dX7_init_9 : decode cX7_init 9 = .ok (.invokespecial 9, 3) := by decide +kernel
theorem dX7_init_12 : decode cX7_init 12 = .ok (.putfield 10, 3) := by decide +kernel
theorem dX7_init_15 : decode cX7_init 15 = .ok (.aload_n 0, 1) := by decide +kernel
theorem dX7_init_16 : decode cX7_init 16 = .ok (.new 16, 3) := by decide +kernel
theorem dX7_init_19 : decode cX7_init 19 = .ok (.dup, 1) := by decide +kernel
theorem dX7_init_20 : decode cX7_init 20 = .ok (.aload_n 0, 1) := by decide +kernel
theorem dX7_init_21 : decode cX7_init 21 = .ok (.getfield 10, 3) := by decide +kernel
theorem dX7_init_24 : decode cX7_init 24 = .ok (.invokespecial 18, 3) := by decide +kernel
theorem dX7_init_27 : decode cX7_init 27 = .ok (.putfield 21, 3) := by decide +kernel
theorem dX7_init_30 : decode cX7_init 30 = .ok (.aload_n 0, 1) := by decide +kernel
theorem dX7_init_31 : decode cX7_init 31 = .ok (.new 25, 3) := by decide +kernel
theorem dX7_init_34 : decode cX7_init 34 = .ok (.dup, 1) := by decide +kernel
theorem dX7_init_35 : decode cX7_init 35 = .ok (.invokespecial 27, 3) := by decide +kernel
theorem dX7_init_38 : decode cX7_init 38 = .ok (.putfield 28, 3) := by decide +kernel
theorem dX7_init_41 : decode cX7_init 41 = .ok (.aload_n 0, 1) := by decide +kernel
theorem dX7_init_42 : decode cX7_init 42 = .ok (.new 32, 3) := by decide +kernel
theorem dX7_init_45 : decode cX7_init 45 = .ok (.dup, 1) := by decide +kernel
theorem dX7_init_46 : decode cX7_init 46 = .ok (.aload_n 0, 1) := by decide +kernel
theorem dX7_init_47 : decode cX7_init 47 = .ok (.getfield 28, 3) := by decide +kernel
theorem dX7_init_50 : decode cX7_init 50 = .ok (.invokespecial 34, 3) := by decide +kernel
theorem dX7_init_53 : decode cX7_init 53 = .ok (.putfield 37, 3) := by decide +kernel
theorem dX7_init_56 : decode cX7_init 56 = .ok (.aload_n 0, 1) := by decide +kernel
theorem dX7_init_57 : decode cX7_init 57 = .ok (.new 32, 3) := by decide +kernel
theorem dX7_init_60 : decode cX7_init 60 = .ok (.dup, 1) := by decide +kernel
theorem dX7_init_61 : decode cX7_init 61 = .ok (.aload_n 0, 1) := by decide +kernel
theorem dX7_init_62 : decode cX7_init 62 = .ok (.getfield 28, 3) := by decide +kernel
theorem dX7_init_65 : decode cX7_init 65 = .ok (.invokespecial 34, 3) := by decide +kernel
theorem dX7_init_68 : decode cX7_init 68 = .ok (.putfield 41, 3) := by decide +kernel
theorem dX7_init_71 : decode cX7_init 71 = .ok (.aload_n 0, 1) := by decide +kernel
theorem dX7_init_72 : decode cX7_init 72 = .ok (.new 44, 3) := by decide +kernel
theorem dX7_init_75 : decode cX7_init 75 = .ok (.dup, 1) := by decide +kernel
theorem dX7_init_76 : decode cX7_init 76 = .ok (.invokespecial 46, 3) := by decide +kernel
theorem dX7_init_79 : decode cX7_init 79 = .ok (.putfield 47, 3) := by decide +kernel
theorem dX7_init_82 : decode cX7_init 82 = .ok (.aload_n 0, 1) := by decide +kernel
theorem dX7_init_83 : decode cX7_init 83 = .ok (.iconst 0, 1) := by decide +kernel
theorem dX7_init_84 : decode cX7_init 84 = .ok (.putfield 51, 3) := by decide +kernel
theorem dX7_init_87 : decode cX7_init 87 = .ok (.return_, 1) := by decide +kernel
theorem dX7_feed_0 : decode cX7_feed 0 = .ok (.aload_n 0, 1) := by decide +kernel
theorem dX7_feed_1 : decode cX7_feed 1 = .ok (.getfield 10, 3) := by decide +kernel
theorem dX7_feed_4 : decode cX7_feed 4 = .ok (.getfield 55, 3) := by decide +kernel
theorem dX7_feed_7 : decode cX7_feed 7 = .ok (.sipush 520, 3) := by decide +kernel
theorem dX7_feed_10 : decode cX7_feed 10 = .ok (.if_icmp .le 5, 3) := by decide +kernel
theorem dX7_feed_13 : decode cX7_feed 13 = .ok (.iconst (-1), 1) := by decide +kernel
theorem dX7_feed_14 : decode cX7_feed 14 = .ok (.ireturn, 1) := by decide +kernel
theorem dX7_feed_15 : decode cX7_feed 15 = .ok (.aload_n 0, 1) := by decide +kernel
theorem dX7_feed_16 : decode cX7_feed 16 = .ok (.getfield 10, 3) := by decide +kernel
theorem dX7_feed_19 : decode cX7_feed 19 = .ok (.iload_n 1, 1) := by decide +kernel
theorem dX7_feed_20 : decode cX7_feed 20 = .ok (.invokevirtual 58, 3) := by decide +kernel
theorem dX7_feed_23 : decode cX7_feed 23 = .ok (.aload_n 0, 1) := by decide +kernel
theorem dX7_feed_24 : decode cX7_feed 24 = .ok (.getfield 10, 3) := by decide +kernel
theorem dX7_feed_27 : decode cX7_feed 27 = .ok (.iload_n 2, 1) := by decide +kernel
theorem dX7_feed_28 : decode cX7_feed 28 = .ok (.invokevirtual 58, 3) := by decide +kernel
theorem dX7_feed_31 : decode cX7_feed 31 = .ok (.aload_n 0, 1) := by decide +kernel
theorem dX7_feed_32 : decode cX7_feed 32 = .ok (.getfield 10, 3) := by decide +kernel
theorem dX7_feed_35 : decode cX7_feed 35 = .ok (.iload_n 3, 1) := by decide +kernel
theorem dX7_feed_36 : decode cX7_feed 36 = .ok (.invokevirtual 58, 3) := by decide +kernel
theorem dX7_feed_39 : decode cX7_feed 39 = .ok (.aload_n 0, 1) := by decide +kernel
theorem dX7_feed_40 : decode cX7_feed 40 = .ok (.getfield 10, 3) := by decide +kernel
theorem dX7_feed_43 : decode cX7_feed 43 = .ok (.iload 4, 2) := by decide +kernel
theorem dX7_feed_45 : decode cX7_feed 45 = .ok (.invokevirtual 58, 3) := by decide +kernel
theorem dX7_feed_48 : decode cX7_feed 48 = .ok (.aload_n 0, 1) := by decide +kernel
theorem dX7_feed_49 : decode cX7_feed 49 = .ok (.getfield 10, 3) := by decide +kernel
theorem dX7_feed_52 : decode cX7_feed 52 = .ok (.iload 5, 2) := by decide +kernel
theorem dX7_feed_54 : decode cX7_feed 54 = .ok (.invokevirtual 58, 3) := by decide +kernel
theorem dX7_feed_57 : decode cX7_feed 57 = .ok (.aload_n 0, 1) := by decide +kernel
theorem dX7_feed_58 : decode cX7_feed 58 = .ok (.getfield 10, 3) := by decide +kernel
theorem dX7_feed_61 : decode cX7_feed 61 = .ok (.getfield 55, 3) := by decide +kernel
theorem dX7_feed_64 : decode cX7_feed 64 = .ok (.ireturn, 1) := by decide +kernel
theorem dX7_end_0 : decode cX7_end 0 = .ok (.iload_n 1, 1) := by decide +kernel
theorem dX7_end_1 : decode cX7_end 1 = .ok (.ifCond .lt 14, 3) := by decide +kernel
theorem dX7_end_4 : decode cX7_end 4 = .ok (.iload_n 1, 1) := by decide +kernel
theorem dX7_end_5 : decode cX7_end 5 = .ok (.aload_n 0, 1) := by decide +kernel
theorem dX7_end_6 : decode cX7_end 6 = .ok (.getfield 10, 3) := by decide +kernel
theorem dX7_end_9 : decode cX7_end 9 = .ok (.getfield 55, 3) := by decide +kernel
theorem dX7_end_12 : decode cX7_end 12 = .ok (.if_icmp .le 5, 3) := by decide +kernel
theorem dX7_end_15 : decode cX7_end 15 = .ok (.iconst 0, 1) := by decide +kernel
theorem dX7_end_16 : decode cX7_end 16 = .ok (.ireturn, 1) := by decide +kernel
theorem dX7_end_17 : decode cX7_end 17 = .ok (.aload_n 0, 1) := by decide +kernel
theorem dX7_end_18 : decode cX7_end 18 = .ok (.getfield 10, 3) := by decide +kernel
theorem dX7_end_21 : decode cX7_end 21 = .ok (.iload_n 1, 1) := by decide +kernel
theorem dX7_end_22 : decode cX7_end 22 = .ok (.putfield 55, 3) := by decide +kernel
theorem dX7_end_25 : decode cX7_end 25 = .ok (.iconst 1, 1) := by decide +kernel
theorem dX7_end_26 : decode cX7_end 26 = .ok (.ireturn, 1) := by decide +kernel
theorem dX7_text_0 : decode cX7_text 0 = .ok (.aload_n 0, 1) := by decide +kernel
theorem dX7_text_1 : decode cX7_text 1 = .ok (.getfield 21, 3) := by decide +kernel
theorem dX7_text_4 : decode cX7_text 4 = .ok (.invokevirtual 62, 3) := by decide +kernel
theorem dX7_text_7 : decode cX7_text 7 = .ok (.istore_n 1, 1) := by decide +kernel
theorem dX7_text_8 : decode cX7_text 8 = .ok (.aload_n 0, 1) := by decide +kernel
theorem dX7_text_9 : decode cX7_text 9 = .ok (.getfield 10, 3) := by decide +kernel
theorem dX7_text_12 : decode cX7_text 12 = .ok (.iconst 0, 1) := by decide +kernel
theorem dX7_text_13 : decode cX7_text 13 = .ok (.putfield 55, 3) := by decide +kernel
theorem dX7_text_16 : decode cX7_text 16 = .ok (.aload_n 0, 1) := by decide +kernel
theorem dX7_text_17 : decode cX7_text 17 = .ok (.aload_n 0, 1) := by decide +kernel
theorem dX7_text_18 : decode cX7_text 18 = .ok (.getfield 21, 3) := by decide +kernel
theorem dX7_text_21 : decode cX7_text 21 = .ok (.getfield 66, 3) := by decide +kernel
theorem dX7_text_24 : decode cX7_text 24 = .ok (.putfield 51, 3) := by decide +kernel
theorem dX7_text_27 : decode cX7_text 27 = .ok (.iload_n 1, 1) := by decide +kernel
theorem dX7_text_28 : decode cX7_text 28 = .ok (.ifCond .ne 13, 3) := by decide +kernel
theorem dX7_text_31 : decode cX7_text 31 = .ok (.iconst (-1), 1) := by decide +kernel
theorem dX7_text_32 : decode cX7_text 32 = .ok (.aload_n 0, 1) := by decide +kernel
theorem dX7_text_33 : decode cX7_text 33 = .ok (.getfield 21, 3) := by decide +kernel
theorem dX7_text_36 : decode cX7_text 36 = .ok (.getfield 69, 3) := by decide +kernel
theorem dX7_text_39 : decode cX7_text 39 = .ok (.isub, 1) := by decide +kernel
theorem dX7_text_40 : decode cX7_text 40 = .ok (.ireturn, 1) := by decide +kernel
theorem dX7_text_41 : decode cX7_text 41 = .ok (.aload_n 0, 1) := by decide +kernel
theorem dX7_text_42 : decode cX7_text 42 = .ok (.getfield 28, 3) := by decide +kernel
theorem dX7_text_45 : decode cX7_text 45 = .ok (.aload_n 0, 1) := by decide +kernel
theorem dX7_text_46 : decode cX7_text 46 = .ok (.getfield 21, 3) := by decide +kernel
theorem dX7_text_49 : decode cX7_text 49 = .ok (.getfield 72, 3) := by decide +kernel
theorem dX7_text_52 : decode cX7_text 52 = .ok (.invokevirtual 75, 3) := by decide +kernel
theorem dX7_text_55 : decode cX7_text 55 = .ok (.aload_n 0, 1) := by decide +kernel
theorem dX7_text_56 : decode cX7_text 56 = .ok (.getfield 37, 3) := by decide +kernel
theorem dX7_text_59 : decode cX7_text 59 = .ok (.invokevirtual 78, 3) := by decide +kernel
theorem dX7_text_62 : decode cX7_text 62 = .ok (.aload_n 0, 1) := by decide +kernel
theorem dX7_text_63 : decode cX7_text 63 = .ok (.getfield 47, 3) := by decide +kernel
theorem dX7_text_66 : decode cX7_text 66 = .ok (.invokevirtual 81, 3) := by decide +kernel
theorem dX7_text_69 : decode cX7_text 69 = .ok (.aload_n 0, 1) := by decide +kernel
theorem dX7_text_70 : decode cX7_text 70 = .ok (.getfield 41, 3) := by decide +kernel
theorem dX7_text_73 : decode cX7_text 73 = .ok (.invokevirtual 78, 3) := by decide +kernel
theorem dX7_text_76 : decode cX7_text 76 = .ok (.aload_n 0, 1) := by decide +kernel
theorem dX7_text_77 : decode cX7_text 77 = .ok (.getfield 41, 3) := by decide +kernel
theorem dX7_text_80 : decode cX7_text 80 = .ok (.invokevirtual 84, 3) := by decide +kernel
theorem dX7_text_83 : decode cX7_text 83 = .ok (.pop, 1) := by decide +kernel
theorem dX7_text_84 : decode cX7_text 84 = .ok (.aload_n 0, 1) := by decide +kernel
theorem dX7_text_85 : decode cX7_text 85 = .ok (.getfield 21, 3) := by decide +kernel
theorem dX7_text_88 : decode cX7_text 88 = .ok (.getfield 88, 3) := by decide +kernel
theorem dX7_text_91 : decode cX7_text 91 = .ok (.ireturn, 1) := by decide +kernel
theorem dX7_fault_0 : decode cX7_fault 0 = .ok (.aload_n 0, 1) := by decide +kernel
theorem dX7_fault_1 : decode cX7_fault 1 = .ok (.getfield 51, 3) := by decide +kernel
theorem dX7_fault_4 : decode cX7_fault 4 = .ok (.ireturn, 1) := by decide +kernel
theorem dX7_now_0 : decode cX7_now 0 = .ok (.iload_n 1, 1) := by decide +kernel
theorem dX7_now_1 : decode cX7_now 1 = .ok (.tableswitch 104 0 6 #[43, 51, 59, 70, 79, 88, 96], 43) := by decide +kernel
theorem dX7_now_44 : decode cX7_now 44 = .ok (.aload_n 0, 1) := by decide +kernel
theorem dX7_now_45 : decode cX7_now 45 = .ok (.getfield 28, 3) := by decide +kernel
theorem dX7_now_48 : decode cX7_now 48 = .ok (.getfield 91, 3) := by decide +kernel
theorem dX7_now_51 : decode cX7_now 51 = .ok (.ireturn, 1) := by decide +kernel
theorem dX7_now_52 : decode cX7_now 52 = .ok (.aload_n 0, 1) := by decide +kernel
theorem dX7_now_53 : decode cX7_now 53 = .ok (.getfield 28, 3) := by decide +kernel
theorem dX7_now_56 : decode cX7_now 56 = .ok (.getfield 94, 3) := by decide +kernel
theorem dX7_now_59 : decode cX7_now 59 = .ok (.ireturn, 1) := by decide +kernel
theorem dX7_now_60 : decode cX7_now 60 = .ok (.aload_n 0, 1) := by decide +kernel
theorem dX7_now_61 : decode cX7_now 61 = .ok (.getfield 37, 3) := by decide +kernel
theorem dX7_now_64 : decode cX7_now 64 = .ok (.getfield 97, 3) := by decide +kernel
theorem dX7_now_67 : decode cX7_now 67 = .ok (.getfield 101, 3) := by decide +kernel
theorem dX7_now_70 : decode cX7_now 70 = .ok (.ireturn, 1) := by decide +kernel
theorem dX7_now_71 : decode cX7_now 71 = .ok (.aload_n 0, 1) := by decide +kernel
theorem dX7_now_72 : decode cX7_now 72 = .ok (.getfield 37, 3) := by decide +kernel
theorem dX7_now_75 : decode cX7_now 75 = .ok (.iconst 1, 1) := by decide +kernel
theorem dX7_now_76 : decode cX7_now 76 = .ok (.invokevirtual 106, 3) := by decide +kernel
theorem dX7_now_79 : decode cX7_now 79 = .ok (.ireturn, 1) := by decide +kernel
theorem dX7_now_80 : decode cX7_now 80 = .ok (.aload_n 0, 1) := by decide +kernel
theorem dX7_now_81 : decode cX7_now 81 = .ok (.getfield 37, 3) := by decide +kernel
theorem dX7_now_84 : decode cX7_now 84 = .ok (.iconst 2, 1) := by decide +kernel
theorem dX7_now_85 : decode cX7_now 85 = .ok (.invokevirtual 106, 3) := by decide +kernel
theorem dX7_now_88 : decode cX7_now 88 = .ok (.ireturn, 1) := by decide +kernel
theorem dX7_now_89 : decode cX7_now 89 = .ok (.aload_n 0, 1) := by decide +kernel
theorem dX7_now_90 : decode cX7_now 90 = .ok (.getfield 47, 3) := by decide +kernel
theorem dX7_now_93 : decode cX7_now 93 = .ok (.getfield 110, 3) := by decide +kernel
theorem dX7_now_96 : decode cX7_now 96 = .ok (.ireturn, 1) := by decide +kernel
theorem dX7_now_97 : decode cX7_now 97 = .ok (.aload_n 0, 1) := by decide +kernel
theorem dX7_now_98 : decode cX7_now 98 = .ok (.getfield 10, 3) := by decide +kernel
theorem dX7_now_101 : decode cX7_now 101 = .ok (.getfield 55, 3) := by decide +kernel
theorem dX7_now_104 : decode cX7_now 104 = .ok (.ireturn, 1) := by decide +kernel
theorem dX7_now_105 : decode cX7_now 105 = .ok (.iconst (-1), 1) := by decide +kernel
theorem dX7_now_106 : decode cX7_now 106 = .ok (.ireturn, 1) := by decide +kernel
theorem dX7_judge_0 : decode cX7_judge 0 = .ok (.aload_n 0, 1) := by decide +kernel
theorem dX7_judge_1 : decode cX7_judge 1 = .ok (.getfield 28, 3) := by decide +kernel
theorem dX7_judge_4 : decode cX7_judge 4 = .ok (.iload_n 1, 1) := by decide +kernel
theorem dX7_judge_5 : decode cX7_judge 5 = .ok (.invokevirtual 113, 3) := by decide +kernel
theorem dX7_judge_8 : decode cX7_judge 8 = .ok (.ifCond .ne 13, 3) := by decide +kernel
theorem dX7_judge_11 : decode cX7_judge 11 = .ok (.new 117, 3) := by decide +kernel
theorem dX7_judge_14 : decode cX7_judge 14 = .ok (.dup, 1) := by decide +kernel
theorem dX7_judge_15 : decode cX7_judge 15 = .ok (.ldc 119, 2) := by decide +kernel
theorem dX7_judge_17 : decode cX7_judge 17 = .ok (.invokespecial 121, 3) := by decide +kernel
theorem dX7_judge_20 : decode cX7_judge 20 = .ok (.athrow, 1) := by decide +kernel
theorem dX7_judge_21 : decode cX7_judge 21 = .ok (.iload_n 2, 1) := by decide +kernel
theorem dX7_judge_22 : decode cX7_judge 22 = .ok (.tableswitch 116 0 5 #[38, 48, 71, 89, 98, 107], 38) := by decide +kernel
theorem dX7_judge_60 : decode cX7_judge 60 = .ok (.aload_n 0, 1) := by decide +kernel
theorem dX7_judge_61 : decode cX7_judge 61 = .ok (.getfield 28, 3) := by decide +kernel
theorem dX7_judge_64 : decode cX7_judge 64 = .ok (.getfield 124, 3) := by decide +kernel
theorem dX7_judge_67 : decode cX7_judge 67 = .ok (.iload_n 1, 1) := by decide +kernel
theorem dX7_judge_68 : decode cX7_judge 68 = .ok (.iaload, 1) := by decide +kernel
theorem dX7_judge_69 : decode cX7_judge 69 = .ok (.ireturn, 1) := by decide +kernel
theorem dX7_judge_70 : decode cX7_judge 70 = .ok (.aload_n 0, 1) := by decide +kernel
theorem dX7_judge_71 : decode cX7_judge 71 = .ok (.getfield 37, 3) := by decide +kernel
theorem dX7_judge_74 : decode cX7_judge 74 = .ok (.getfield 97, 3) := by decide +kernel
theorem dX7_judge_77 : decode cX7_judge 77 = .ok (.getfield 128, 3) := by decide +kernel
theorem dX7_judge_80 : decode cX7_judge 80 = .ok (.iload_n 1, 1) := by decide +kernel
theorem dX7_judge_81 : decode cX7_judge 81 = .ok (.invokestatic 131, 3) := by decide +kernel
theorem dX7_judge_84 : decode cX7_judge 84 = .ok (.ifCond .eq 7, 3) := by decide +kernel
theorem dX7_judge_87 : decode cX7_judge 87 = .ok (.iconst 1, 1) := by decide +kernel
theorem dX7_judge_88 : decode cX7_judge 88 = .ok (.goto 4, 3) := by decide +kernel
theorem dX7_judge_91 : decode cX7_judge 91 = .ok (.iconst 0, 1) := by decide +kernel
theorem dX7_judge_92 : decode cX7_judge 92 = .ok (.ireturn, 1) := by decide +kernel
theorem dX7_judge_93 : decode cX7_judge 93 = .ok (.aload_n 0, 1) := by decide +kernel
theorem dX7_judge_94 : decode cX7_judge 94 = .ok (.getfield 37, 3) := by decide +kernel
theorem dX7_judge_97 : decode cX7_judge 97 = .ok (.iconst (-1), 1) := by decide +kernel
theorem dX7_judge_98 : decode cX7_judge 98 = .ok (.invokevirtual 135, 3) := by decide +kernel
theorem dX7_judge_101 : decode cX7_judge 101 = .ok (.aload_n 0, 1) := by decide +kernel
theorem dX7_judge_102 : decode cX7_judge 102 = .ok (.getfield 37, 3) := by decide +kernel
theorem dX7_judge_105 : decode cX7_judge 105 = .ok (.getfield 138, 3) := by decide +kernel
theorem dX7_judge_108 : decode cX7_judge 108 = .ok (.iload_n 1, 1) := by decide +kernel
theorem dX7_judge_109 : decode cX7_judge 109 = .ok (.iaload, 1) := by decide +kernel
theorem dX7_judge_110 : decode cX7_judge 110 = .ok (.ireturn, 1) := by decide +kernel
theorem dX7_judge_111 : decode cX7_judge 111 = .ok (.aload_n 0, 1) := by decide +kernel
theorem dX7_judge_112 : decode cX7_judge 112 = .ok (.getfield 37, 3) := by decide +kernel
theorem dX7_judge_115 : decode cX7_judge 115 = .ok (.iload_n 1, 1) := by decide +kernel
theorem dX7_judge_116 : decode cX7_judge 116 = .ok (.invokevirtual 141, 3) := by decide +kernel
theorem dX7_judge_119 : decode cX7_judge 119 = .ok (.ireturn, 1) := by decide +kernel
theorem dX7_judge_120 : decode cX7_judge 120 = .ok (.aload_n 0, 1) := by decide +kernel
theorem dX7_judge_121 : decode cX7_judge 121 = .ok (.getfield 37, 3) := by decide +kernel
theorem dX7_judge_124 : decode cX7_judge 124 = .ok (.iload_n 1, 1) := by decide +kernel
theorem dX7_judge_125 : decode cX7_judge 125 = .ok (.invokevirtual 144, 3) := by decide +kernel
theorem dX7_judge_128 : decode cX7_judge 128 = .ok (.ireturn, 1) := by decide +kernel
theorem dX7_judge_129 : decode cX7_judge 129 = .ok (.aload_n 0, 1) := by decide +kernel
theorem dX7_judge_130 : decode cX7_judge 130 = .ok (.getfield 37, 3) := by decide +kernel
theorem dX7_judge_133 : decode cX7_judge 133 = .ok (.iload_n 1, 1) := by decide +kernel
theorem dX7_judge_134 : decode cX7_judge 134 = .ok (.invokevirtual 147, 3) := by decide +kernel
theorem dX7_judge_137 : decode cX7_judge 137 = .ok (.ireturn, 1) := by decide +kernel
theorem dX7_judge_138 : decode cX7_judge 138 = .ok (.new 117, 3) := by decide +kernel
theorem dX7_judge_141 : decode cX7_judge 141 = .ok (.dup, 1) := by decide +kernel
theorem dX7_judge_142 : decode cX7_judge 142 = .ok (.ldc 150, 2) := by decide +kernel
theorem dX7_judge_144 : decode cX7_judge 144 = .ok (.invokespecial 121, 3) := by decide +kernel
theorem dX7_judge_147 : decode cX7_judge 147 = .ok (.athrow, 1) := by decide +kernel
theorem dX7_of_0 : decode cX7_of 0 = .ok (.aload_n 0, 1) := by decide +kernel
theorem dX7_of_1 : decode cX7_of 1 = .ok (.getfield 28, 3) := by decide +kernel
theorem dX7_of_4 : decode cX7_of 4 = .ok (.iload_n 1, 1) := by decide +kernel
theorem dX7_of_5 : decode cX7_of 5 = .ok (.invokevirtual 152, 3) := by decide +kernel
theorem dX7_of_8 : decode cX7_of 8 = .ok (.ifCond .ne 13, 3) := by decide +kernel
theorem dX7_of_11 : decode cX7_of 11 = .ok (.new 117, 3) := by decide +kernel
theorem dX7_of_14 : decode cX7_of 14 = .ok (.dup, 1) := by decide +kernel
theorem dX7_of_15 : decode cX7_of 15 = .ok (.ldc 155, 2) := by decide +kernel
theorem dX7_of_17 : decode cX7_of 17 = .ok (.invokespecial 121, 3) := by decide +kernel
theorem dX7_of_20 : decode cX7_of 20 = .ok (.athrow, 1) := by decide +kernel
theorem dX7_of_21 : decode cX7_of 21 = .ok (.iload_n 2, 1) := by decide +kernel
theorem dX7_of_22 : decode cX7_of 22 = .ok (.tableswitch 103 0 4 #[34, 44, 57, 70, 83], 34) := by decide +kernel
theorem dX7_of_56 : decode cX7_of 56 = .ok (.aload_n 0, 1) := by decide +kernel
theorem dX7_of_57 : decode cX7_of 57 = .ok (.getfield 28, 3) := by decide +kernel
theorem dX7_of_60 : decode cX7_of 60 = .ok (.getfield 157, 3) := by decide +kernel
theorem dX7_of_63 : decode cX7_of 63 = .ok (.iload_n 1, 1) := by decide +kernel
theorem dX7_of_64 : decode cX7_of 64 = .ok (.iaload, 1) := by decide +kernel
theorem dX7_of_65 : decode cX7_of 65 = .ok (.ireturn, 1) := by decide +kernel
theorem dX7_of_66 : decode cX7_of 66 = .ok (.aload_n 0, 1) := by decide +kernel
theorem dX7_of_67 : decode cX7_of 67 = .ok (.getfield 37, 3) := by decide +kernel
theorem dX7_of_70 : decode cX7_of 70 = .ok (.getfield 97, 3) := by decide +kernel
theorem dX7_of_73 : decode cX7_of 73 = .ok (.getfield 160, 3) := by decide +kernel
theorem dX7_of_76 : decode cX7_of 76 = .ok (.iload_n 1, 1) := by decide +kernel
theorem dX7_of_77 : decode cX7_of 77 = .ok (.iaload, 1) := by decide +kernel
theorem dX7_of_78 : decode cX7_of 78 = .ok (.ireturn, 1) := by decide +kernel
theorem dX7_of_79 : decode cX7_of 79 = .ok (.aload_n 0, 1) := by decide +kernel
theorem dX7_of_80 : decode cX7_of 80 = .ok (.getfield 37, 3) := by decide +kernel
theorem dX7_of_83 : decode cX7_of 83 = .ok (.getfield 97, 3) := by decide +kernel
theorem dX7_of_86 : decode cX7_of 86 = .ok (.getfield 163, 3) := by decide +kernel
theorem dX7_of_89 : decode cX7_of 89 = .ok (.iload_n 1, 1) := by decide +kernel
theorem dX7_of_90 : decode cX7_of 90 = .ok (.iaload, 1) := by decide +kernel
theorem dX7_of_91 : decode cX7_of 91 = .ok (.ireturn, 1) := by decide +kernel
theorem dX7_of_92 : decode cX7_of 92 = .ok (.aload_n 0, 1) := by decide +kernel
theorem dX7_of_93 : decode cX7_of 93 = .ok (.getfield 37, 3) := by decide +kernel
theorem dX7_of_96 : decode cX7_of 96 = .ok (.getfield 97, 3) := by decide +kernel
theorem dX7_of_99 : decode cX7_of 99 = .ok (.getfield 166, 3) := by decide +kernel
theorem dX7_of_102 : decode cX7_of 102 = .ok (.iload_n 1, 1) := by decide +kernel
theorem dX7_of_103 : decode cX7_of 103 = .ok (.iaload, 1) := by decide +kernel
theorem dX7_of_104 : decode cX7_of 104 = .ok (.ireturn, 1) := by decide +kernel
theorem dX7_of_105 : decode cX7_of 105 = .ok (.aload_n 0, 1) := by decide +kernel
theorem dX7_of_106 : decode cX7_of 106 = .ok (.getfield 28, 3) := by decide +kernel
theorem dX7_of_109 : decode cX7_of 109 = .ok (.aload_n 0, 1) := by decide +kernel
theorem dX7_of_110 : decode cX7_of 110 = .ok (.getfield 37, 3) := by decide +kernel
theorem dX7_of_113 : decode cX7_of 113 = .ok (.getfield 97, 3) := by decide +kernel
theorem dX7_of_116 : decode cX7_of 116 = .ok (.getfield 166, 3) := by decide +kernel
theorem dX7_of_119 : decode cX7_of 119 = .ok (.iload_n 1, 1) := by decide +kernel
theorem dX7_of_120 : decode cX7_of 120 = .ok (.iaload, 1) := by decide +kernel
theorem dX7_of_121 : decode cX7_of 121 = .ok (.invokevirtual 169, 3) := by decide +kernel
theorem dX7_of_124 : decode cX7_of 124 = .ok (.ireturn, 1) := by decide +kernel
theorem dX7_of_125 : decode cX7_of 125 = .ok (.new 117, 3) := by decide +kernel
theorem dX7_of_128 : decode cX7_of 128 = .ok (.dup, 1) := by decide +kernel
theorem dX7_of_129 : decode cX7_of 129 = .ok (.ldc 172, 2) := by decide +kernel
theorem dX7_of_131 : decode cX7_of 131 = .ok (.invokespecial 121, 3) := by decide +kernel
theorem dX7_of_134 : decode cX7_of 134 = .ok (.athrow, 1) := by decide +kernel
theorem dX7_pair_0 : decode cX7_pair 0 = .ok (.aload_n 0, 1) := by decide +kernel
theorem dX7_pair_1 : decode cX7_pair 1 = .ok (.getfield 28, 3) := by decide +kernel
theorem dX7_pair_4 : decode cX7_pair 4 = .ok (.iload_n 1, 1) := by decide +kernel
theorem dX7_pair_5 : decode cX7_pair 5 = .ok (.invokevirtual 113, 3) := by decide +kernel
theorem dX7_pair_8 : decode cX7_pair 8 = .ok (.ifCond .eq 19, 3) := by decide +kernel
theorem dX7_pair_11 : decode cX7_pair 11 = .ok (.aload_n 0, 1) := by decide +kernel
theorem dX7_pair_12 : decode cX7_pair 12 = .ok (.getfield 28, 3) := by decide +kernel
theorem dX7_pair_15 : decode cX7_pair 15 = .ok (.iload_n 2, 1) := by decide +kernel
theorem dX7_pair_16 : decode cX7_pair 16 = .ok (.invokevirtual 113, 3) := by decide +kernel
theorem dX7_pair_19 : decode cX7_pair 19 = .ok (.ifCond .eq 8, 3) := by decide +kernel
theorem dX7_pair_22 : decode cX7_pair 22 = .ok (.iload_n 1, 1) := by decide +kernel
theorem dX7_pair_23 : decode cX7_pair 23 = .ok (.iload_n 2, 1) := by decide +kernel
theorem dX7_pair_24 : decode cX7_pair 24 = .ok (.if_icmp .ne 5, 3) := by decide +kernel
theorem dX7_pair_27 : decode cX7_pair 27 = .ok (.iconst (-1), 1) := by decide +kernel
theorem dX7_pair_28 : decode cX7_pair 28 = .ok (.ireturn, 1) := by decide +kernel
theorem dX7_pair_29 : decode cX7_pair 29 = .ok (.aload_n 0, 1) := by decide +kernel
theorem dX7_pair_30 : decode cX7_pair 30 = .ok (.getfield 37, 3) := by decide +kernel
theorem dX7_pair_33 : decode cX7_pair 33 = .ok (.iconst (-1), 1) := by decide +kernel
theorem dX7_pair_34 : decode cX7_pair 34 = .ok (.invokevirtual 135, 3) := by decide +kernel
theorem dX7_pair_37 : decode cX7_pair 37 = .ok (.aload_n 0, 1) := by decide +kernel
theorem dX7_pair_38 : decode cX7_pair 38 = .ok (.getfield 37, 3) := by decide +kernel
theorem dX7_pair_41 : decode cX7_pair 41 = .ok (.getfield 174, 3) := by decide +kernel
theorem dX7_pair_44 : decode cX7_pair 44 = .ok (.iload_n 1, 1) := by decide +kernel
theorem dX7_pair_45 : decode cX7_pair 45 = .ok (.iload_n 2, 1) := by decide +kernel
theorem dX7_pair_46 : decode cX7_pair 46 = .ok (.invokestatic 177, 3) := by decide +kernel
theorem dX7_pair_49 : decode cX7_pair 49 = .ok (.iaload, 1) := by decide +kernel
theorem dX7_pair_50 : decode cX7_pair 50 = .ok (.ireturn, 1) := by decide +kernel
theorem dX7_spread_0 : decode cX7_spread 0 = .ok (.aload_n 0, 1) := by decide +kernel
theorem dX7_spread_1 : decode cX7_spread 1 = .ok (.getfield 28, 3) := by decide +kernel
theorem dX7_spread_4 : decode cX7_spread 4 = .ok (.getfield 91, 3) := by decide +kernel
theorem dX7_spread_7 : decode cX7_spread 7 = .ok (.iconst 2, 1) := by decide +kernel
theorem dX7_spread_8 : decode cX7_spread 8 = .ok (.if_icmp .lt 12, 3) := by decide +kernel
theorem dX7_spread_11 : decode cX7_spread 11 = .ok (.iload_n 1, 1) := by decide +kernel
theorem dX7_spread_12 : decode cX7_spread 12 = .ok (.ifCond .lt 8, 3) := by decide +kernel
theorem dX7_spread_15 : decode cX7_spread 15 = .ok (.iload_n 1, 1) := by decide +kernel
theorem dX7_spread_16 : decode cX7_spread 16 = .ok (.iconst 1, 1) := by decide +kernel
theorem dX7_spread_17 : decode cX7_spread 17 = .ok (.if_icmp .le 5, 3) := by decide +kernel
theorem dX7_spread_20 : decode cX7_spread 20 = .ok (.iconst (-1), 1) := by decide +kernel
theorem dX7_spread_21 : decode cX7_spread 21 = .ok (.ireturn, 1) := by decide +kernel
theorem dX7_spread_22 : decode cX7_spread 22 = .ok (.aload_n 0, 1) := by decide +kernel
theorem dX7_spread_23 : decode cX7_spread 23 = .ok (.getfield 37, 3) := by decide +kernel
theorem dX7_spread_26 : decode cX7_spread 26 = .ok (.iconst (-1), 1) := by decide +kernel
theorem dX7_spread_27 : decode cX7_spread 27 = .ok (.invokevirtual 135, 3) := by decide +kernel
theorem dX7_spread_30 : decode cX7_spread 30 = .ok (.iload_n 1, 1) := by decide +kernel
theorem dX7_spread_31 : decode cX7_spread 31 = .ok (.ifCond .ne 13, 3) := by decide +kernel
theorem dX7_spread_34 : decode cX7_spread 34 = .ok (.aload_n 0, 1) := by decide +kernel
theorem dX7_spread_35 : decode cX7_spread 35 = .ok (.getfield 37, 3) := by decide +kernel
theorem dX7_spread_38 : decode cX7_spread 38 = .ok (.invokevirtual 181, 3) := by decide +kernel
theorem dX7_spread_41 : decode cX7_spread 41 = .ok (.goto 10, 3) := by decide +kernel
theorem dX7_spread_44 : decode cX7_spread 44 = .ok (.aload_n 0, 1) := by decide +kernel
theorem dX7_spread_45 : decode cX7_spread 45 = .ok (.getfield 37, 3) := by decide +kernel
theorem dX7_spread_48 : decode cX7_spread 48 = .ok (.invokevirtual 184, 3) := by decide +kernel
theorem dX7_spread_51 : decode cX7_spread 51 = .ok (.ireturn, 1) := by decide +kernel
theorem dX7_lawful_0 : decode cX7_lawful 0 = .ok (.aload_n 0, 1) := by decide +kernel
theorem dX7_lawful_1 : decode cX7_lawful 1 = .ok (.getfield 28, 3) := by decide +kernel
theorem dX7_lawful_4 : decode cX7_lawful 4 = .ok (.iload_n 1, 1) := by decide +kernel
theorem dX7_lawful_5 : decode cX7_lawful 5 = .ok (.invokevirtual 152, 3) := by decide +kernel
theorem dX7_lawful_8 : decode cX7_lawful 8 = .ok (.ifCond .ne 5, 3) := by decide +kernel
theorem dX7_lawful_11 : decode cX7_lawful 11 = .ok (.iconst (-1), 1) := by decide +kernel
theorem dX7_lawful_12 : decode cX7_lawful 12 = .ok (.ireturn, 1) := by decide +kernel
theorem dX7_lawful_13 : decode cX7_lawful 13 = .ok (.aload_n 0, 1) := by decide +kernel
theorem dX7_lawful_14 : decode cX7_lawful 14 = .ok (.getfield 37, 3) := by decide +kernel
theorem dX7_lawful_17 : decode cX7_lawful 17 = .ok (.iload_n 1, 1) := by decide +kernel
theorem dX7_lawful_18 : decode cX7_lawful 18 = .ok (.invokevirtual 187, 3) := by decide +kernel
theorem dX7_lawful_21 : decode cX7_lawful 21 = .ok (.aload_n 0, 1) := by decide +kernel
theorem dX7_lawful_22 : decode cX7_lawful 22 = .ok (.getfield 37, 3) := by decide +kernel
theorem dX7_lawful_25 : decode cX7_lawful 25 = .ok (.getfield 190, 3) := by decide +kernel
theorem dX7_lawful_28 : decode cX7_lawful 28 = .ok (.ireturn, 1) := by decide +kernel
theorem dX7_bench_0 : decode cX7_bench 0 = .ok (.aload_n 0, 1) := by decide +kernel
theorem dX7_bench_1 : decode cX7_bench 1 = .ok (.getfield 28, 3) := by decide +kernel
theorem dX7_bench_4 : decode cX7_bench 4 = .ok (.iload_n 1, 1) := by decide +kernel
theorem dX7_bench_5 : decode cX7_bench 5 = .ok (.invokevirtual 152, 3) := by decide +kernel
theorem dX7_bench_8 : decode cX7_bench 8 = .ok (.ifCond .ne 5, 3) := by decide +kernel
theorem dX7_bench_11 : decode cX7_bench 11 = .ok (.iconst (-1), 1) := by decide +kernel
theorem dX7_bench_12 : decode cX7_bench 12 = .ok (.ireturn, 1) := by decide +kernel
theorem dX7_bench_13 : decode cX7_bench 13 = .ok (.aload_n 0, 1) := by decide +kernel
theorem dX7_bench_14 : decode cX7_bench 14 = .ok (.getfield 37, 3) := by decide +kernel
theorem dX7_bench_17 : decode cX7_bench 17 = .ok (.iload_n 1, 1) := by decide +kernel
theorem dX7_bench_18 : decode cX7_bench 18 = .ok (.invokevirtual 187, 3) := by decide +kernel
theorem dX7_bench_21 : decode cX7_bench 21 = .ok (.iload_n 2, 1) := by decide +kernel
theorem dX7_bench_22 : decode cX7_bench 22 = .ok (.ifCond .lt 26, 3) := by decide +kernel
theorem dX7_bench_25 : decode cX7_bench 25 = .ok (.iload_n 2, 1) := by decide +kernel
theorem dX7_bench_26 : decode cX7_bench 26 = .ok (.aload_n 0, 1) := by decide +kernel
theorem dX7_bench_27 : decode cX7_bench 27 = .ok (.getfield 37, 3) := by decide +kernel
theorem dX7_bench_30 : decode cX7_bench 30 = .ok (.getfield 190, 3) := by decide +kernel
theorem dX7_bench_33 : decode cX7_bench 33 = .ok (.if_icmp .ge 15, 3) := by decide +kernel
theorem dX7_bench_36 : decode cX7_bench 36 = .ok (.aload_n 0, 1) := by decide +kernel
theorem dX7_bench_37 : decode cX7_bench 37 = .ok (.getfield 37, 3) := by decide +kernel
theorem dX7_bench_40 : decode cX7_bench 40 = .ok (.getfield 193, 3) := by decide +kernel
theorem dX7_bench_43 : decode cX7_bench 43 = .ok (.iload_n 2, 1) := by decide +kernel
theorem dX7_bench_44 : decode cX7_bench 44 = .ok (.iaload, 1) := by decide +kernel
theorem dX7_bench_45 : decode cX7_bench 45 = .ok (.goto 4, 3) := by decide +kernel
theorem dX7_bench_48 : decode cX7_bench 48 = .ok (.iconst (-1), 1) := by decide +kernel
theorem dX7_bench_49 : decode cX7_bench 49 = .ok (.ireturn, 1) := by decide +kernel
theorem dX7_rank_0 : decode cX7_rank 0 = .ok (.aload_n 0, 1) := by decide +kernel
theorem dX7_rank_1 : decode cX7_rank 1 = .ok (.getfield 28, 3) := by decide +kernel
theorem dX7_rank_4 : decode cX7_rank 4 = .ok (.iload_n 1, 1) := by decide +kernel
theorem dX7_rank_5 : decode cX7_rank 5 = .ok (.invokevirtual 152, 3) := by decide +kernel
theorem dX7_rank_8 : decode cX7_rank 8 = .ok (.ifCond .ne 5, 3) := by decide +kernel
theorem dX7_rank_11 : decode cX7_rank 11 = .ok (.iconst (-1), 1) := by decide +kernel
theorem dX7_rank_12 : decode cX7_rank 12 = .ok (.ireturn, 1) := by decide +kernel
theorem dX7_rank_13 : decode cX7_rank 13 = .ok (.aload_n 0, 1) := by decide +kernel
theorem dX7_rank_14 : decode cX7_rank 14 = .ok (.getfield 37, 3) := by decide +kernel
theorem dX7_rank_17 : decode cX7_rank 17 = .ok (.iload_n 1, 1) := by decide +kernel
theorem dX7_rank_18 : decode cX7_rank 18 = .ok (.invokevirtual 187, 3) := by decide +kernel
theorem dX7_rank_21 : decode cX7_rank 21 = .ok (.aload_n 0, 1) := by decide +kernel
theorem dX7_rank_22 : decode cX7_rank 22 = .ok (.getfield 37, 3) := by decide +kernel
theorem dX7_rank_25 : decode cX7_rank 25 = .ok (.iload_n 2, 1) := by decide +kernel
theorem dX7_rank_26 : decode cX7_rank 26 = .ok (.invokevirtual 196, 3) := by decide +kernel
theorem dX7_rank_29 : decode cX7_rank 29 = .ok (.ireturn, 1) := by decide +kernel
theorem dX7_tension_0 : decode cX7_tension 0 = .ok (.aload_n 0, 1) := by decide +kernel
theorem dX7_tension_1 : decode cX7_tension 1 = .ok (.getfield 28, 3) := by decide +kernel
theorem dX7_tension_4 : decode cX7_tension 4 = .ok (.iload_n 1, 1) := by decide +kernel
theorem dX7_tension_5 : decode cX7_tension 5 = .ok (.invokevirtual 152, 3) := by decide +kernel
theorem dX7_tension_8 : decode cX7_tension 8 = .ok (.ifCond .eq 14, 3) := by decide +kernel
theorem dX7_tension_11 : decode cX7_tension 11 = .ok (.aload_n 0, 1) := by decide +kernel
theorem dX7_tension_12 : decode cX7_tension 12 = .ok (.getfield 28, 3) := by decide +kernel
theorem dX7_tension_15 : decode cX7_tension 15 = .ok (.iload_n 2, 1) := by decide +kernel
theorem dX7_tension_16 : decode cX7_tension 16 = .ok (.invokevirtual 199, 3) := by decide +kernel
theorem dX7_tension_19 : decode cX7_tension 19 = .ok (.ifCond .ne 5, 3) := by decide +kernel
theorem dX7_tension_22 : decode cX7_tension 22 = .ok (.iconst (-1), 1) := by decide +kernel
theorem dX7_tension_23 : decode cX7_tension 23 = .ok (.ireturn, 1) := by decide +kernel
theorem dX7_tension_24 : decode cX7_tension 24 = .ok (.aload_n 0, 1) := by decide +kernel
theorem dX7_tension_25 : decode cX7_tension 25 = .ok (.getfield 37, 3) := by decide +kernel
theorem dX7_tension_28 : decode cX7_tension 28 = .ok (.iload_n 1, 1) := by decide +kernel
theorem dX7_tension_29 : decode cX7_tension 29 = .ok (.invokevirtual 135, 3) := by decide +kernel
theorem dX7_tension_32 : decode cX7_tension 32 = .ok (.aload_n 0, 1) := by decide +kernel
theorem dX7_tension_33 : decode cX7_tension 33 = .ok (.getfield 37, 3) := by decide +kernel
theorem dX7_tension_36 : decode cX7_tension 36 = .ok (.iload_n 2, 1) := by decide +kernel
theorem dX7_tension_37 : decode cX7_tension 37 = .ok (.invokevirtual 202, 3) := by decide +kernel
theorem dX7_tension_40 : decode cX7_tension 40 = .ok (.ireturn, 1) := by decide +kernel
theorem dX7_pool_0 : decode cX7_pool 0 = .ok (.aload_n 0, 1) := by decide +kernel
theorem dX7_pool_1 : decode cX7_pool 1 = .ok (.getfield 28, 3) := by decide +kernel
theorem dX7_pool_4 : decode cX7_pool 4 = .ok (.iload_n 1, 1) := by decide +kernel
theorem dX7_pool_5 : decode cX7_pool 5 = .ok (.invokevirtual 152, 3) := by decide +kernel
theorem dX7_pool_8 : decode cX7_pool 8 = .ok (.ifCond .ne 5, 3) := by decide +kernel
theorem dX7_pool_11 : decode cX7_pool 11 = .ok (.iconst (-1), 1) := by decide +kernel
theorem dX7_pool_12 : decode cX7_pool 12 = .ok (.ireturn, 1) := by decide +kernel
theorem dX7_pool_13 : decode cX7_pool 13 = .ok (.aload_n 0, 1) := by decide +kernel
theorem dX7_pool_14 : decode cX7_pool 14 = .ok (.getfield 37, 3) := by decide +kernel
theorem dX7_pool_17 : decode cX7_pool 17 = .ok (.iload_n 1, 1) := by decide +kernel
theorem dX7_pool_18 : decode cX7_pool 18 = .ok (.invokevirtual 205, 3) := by decide +kernel
theorem dX7_pool_21 : decode cX7_pool 21 = .ok (.aload_n 0, 1) := by decide +kernel
theorem dX7_pool_22 : decode cX7_pool 22 = .ok (.getfield 37, 3) := by decide +kernel
theorem dX7_pool_25 : decode cX7_pool 25 = .ok (.getfield 208, 3) := by decide +kernel
theorem dX7_pool_28 : decode cX7_pool 28 = .ok (.ireturn, 1) := by decide +kernel
theorem dX7_chances_0 : decode cX7_chances 0 = .ok (.aload_n 0, 1) := by decide +kernel
theorem dX7_chances_1 : decode cX7_chances 1 = .ok (.getfield 28, 3) := by decide +kernel
theorem dX7_chances_4 : decode cX7_chances 4 = .ok (.iload_n 1, 1) := by decide +kernel
theorem dX7_chances_5 : decode cX7_chances 5 = .ok (.invokevirtual 152, 3) := by decide +kernel
theorem dX7_chances_8 : decode cX7_chances 8 = .ok (.ifCond .eq 14, 3) := by decide +kernel
theorem dX7_chances_11 : decode cX7_chances 11 = .ok (.aload_n 0, 1) := by decide +kernel
theorem dX7_chances_12 : decode cX7_chances 12 = .ok (.getfield 28, 3) := by decide +kernel
theorem dX7_chances_15 : decode cX7_chances 15 = .ok (.iload_n 2, 1) := by decide +kernel
theorem dX7_chances_16 : decode cX7_chances 16 = .ok (.invokevirtual 113, 3) := by decide +kernel
theorem dX7_chances_19 : decode cX7_chances 19 = .ok (.ifCond .ne 5, 3) := by decide +kernel
theorem dX7_chances_22 : decode cX7_chances 22 = .ok (.iconst (-1), 1) := by decide +kernel
theorem dX7_chances_23 : decode cX7_chances 23 = .ok (.ireturn, 1) := by decide +kernel
theorem dX7_chances_24 : decode cX7_chances 24 = .ok (.aload_n 0, 1) := by decide +kernel
theorem dX7_chances_25 : decode cX7_chances 25 = .ok (.getfield 37, 3) := by decide +kernel
theorem dX7_chances_28 : decode cX7_chances 28 = .ok (.iload_n 1, 1) := by decide +kernel
theorem dX7_chances_29 : decode cX7_chances 29 = .ok (.invokevirtual 205, 3) := by decide +kernel
theorem dX7_chances_32 : decode cX7_chances 32 = .ok (.aload_n 0, 1) := by decide +kernel
theorem dX7_chances_33 : decode cX7_chances 33 = .ok (.getfield 37, 3) := by decide +kernel
theorem dX7_chances_36 : decode cX7_chances 36 = .ok (.iload_n 2, 1) := by decide +kernel
theorem dX7_chances_37 : decode cX7_chances 37 = .ok (.invokevirtual 211, 3) := by decide +kernel
theorem dX7_chances_40 : decode cX7_chances 40 = .ok (.ireturn, 1) := by decide +kernel
theorem dX7_worst_0 : decode cX7_worst 0 = .ok (.aload_n 0, 1) := by decide +kernel
theorem dX7_worst_1 : decode cX7_worst 1 = .ok (.getfield 28, 3) := by decide +kernel
theorem dX7_worst_4 : decode cX7_worst 4 = .ok (.iload_n 1, 1) := by decide +kernel
theorem dX7_worst_5 : decode cX7_worst 5 = .ok (.invokevirtual 152, 3) := by decide +kernel
theorem dX7_worst_8 : decode cX7_worst 8 = .ok (.ifCond .ne 5, 3) := by decide +kernel
theorem dX7_worst_11 : decode cX7_worst 11 = .ok (.iconst (-1), 1) := by decide +kernel
theorem dX7_worst_12 : decode cX7_worst 12 = .ok (.ireturn, 1) := by decide +kernel
theorem dX7_worst_13 : decode cX7_worst 13 = .ok (.aload_n 0, 1) := by decide +kernel
theorem dX7_worst_14 : decode cX7_worst 14 = .ok (.getfield 37, 3) := by decide +kernel
theorem dX7_worst_17 : decode cX7_worst 17 = .ok (.iload_n 1, 1) := by decide +kernel
theorem dX7_worst_18 : decode cX7_worst 18 = .ok (.invokevirtual 205, 3) := by decide +kernel
theorem dX7_worst_21 : decode cX7_worst 21 = .ok (.aload_n 0, 1) := by decide +kernel
theorem dX7_worst_22 : decode cX7_worst 22 = .ok (.getfield 37, 3) := by decide +kernel
theorem dX7_worst_25 : decode cX7_worst 25 = .ok (.getfield 214, 3) := by decide +kernel
theorem dX7_worst_28 : decode cX7_worst 28 = .ok (.ireturn, 1) := by decide +kernel
theorem dX7_draw_0 : decode cX7_draw 0 = .ok (.aload_n 0, 1) := by decide +kernel
theorem dX7_draw_1 : decode cX7_draw 1 = .ok (.getfield 28, 3) := by decide +kernel
theorem dX7_draw_4 : decode cX7_draw 4 = .ok (.iload_n 1, 1) := by decide +kernel
theorem dX7_draw_5 : decode cX7_draw 5 = .ok (.invokevirtual 152, 3) := by decide +kernel
theorem dX7_draw_8 : decode cX7_draw 8 = .ok (.ifCond .eq 18, 3) := by decide +kernel
theorem dX7_draw_11 : decode cX7_draw 11 = .ok (.aload_n 0, 1) := by decide +kernel
theorem dX7_draw_12 : decode cX7_draw 12 = .ok (.getfield 37, 3) := by decide +kernel
theorem dX7_draw_15 : decode cX7_draw 15 = .ok (.getfield 97, 3) := by decide +kernel
theorem dX7_draw_18 : decode cX7_draw 18 = .ok (.getfield 163, 3) := by decide +kernel
theorem dX7_draw_21 : decode cX7_draw 21 = .ok (.iload_n 1, 1) := by decide +kernel
theorem dX7_draw_22 : decode cX7_draw 22 = .ok (.iaload, 1) := by decide +kernel
theorem dX7_draw_23 : decode cX7_draw 23 = .ok (.ifCond .eq 5, 3) := by decide +kernel
theorem dX7_draw_26 : decode cX7_draw 26 = .ok (.iconst (-1), 1) := by decide +kernel
theorem dX7_draw_27 : decode cX7_draw 27 = .ok (.ireturn, 1) := by decide +kernel
theorem dX7_draw_28 : decode cX7_draw 28 = .ok (.aload_n 0, 1) := by decide +kernel
theorem dX7_draw_29 : decode cX7_draw 29 = .ok (.getfield 47, 3) := by decide +kernel
theorem dX7_draw_32 : decode cX7_draw 32 = .ok (.aload_n 0, 1) := by decide +kernel
theorem dX7_draw_33 : decode cX7_draw 33 = .ok (.getfield 37, 3) := by decide +kernel
theorem dX7_draw_36 : decode cX7_draw 36 = .ok (.getfield 97, 3) := by decide +kernel
theorem dX7_draw_39 : decode cX7_draw 39 = .ok (.invokevirtual 217, 3) := by decide +kernel
theorem dX7_draw_42 : decode cX7_draw 42 = .ok (.aload_n 0, 1) := by decide +kernel
theorem dX7_draw_43 : decode cX7_draw 43 = .ok (.getfield 37, 3) := by decide +kernel
theorem dX7_draw_46 : decode cX7_draw 46 = .ok (.iload_n 1, 1) := by decide +kernel
theorem dX7_draw_47 : decode cX7_draw 47 = .ok (.invokevirtual 221, 3) := by decide +kernel
theorem dX7_draw_50 : decode cX7_draw 50 = .ok (.istore_n 2, 1) := by decide +kernel
theorem dX7_draw_51 : decode cX7_draw 51 = .ok (.iload_n 2, 1) := by decide +kernel
theorem dX7_draw_52 : decode cX7_draw 52 = .ok (.iconst (-1), 1) := by decide +kernel
theorem dX7_draw_53 : decode cX7_draw 53 = .ok (.if_icmp .eq 10, 3) := by decide +kernel
theorem dX7_draw_56 : decode cX7_draw 56 = .ok (.aload_n 0, 1) := by decide +kernel
theorem dX7_draw_57 : decode cX7_draw 57 = .ok (.getfield 47, 3) := by decide +kernel
theorem dX7_draw_60 : decode cX7_draw 60 = .ok (.invokevirtual 224, 3) := by decide +kernel
theorem dX7_draw_63 : decode cX7_draw 63 = .ok (.iload_n 2, 1) := by decide +kernel
theorem dX7_draw_64 : decode cX7_draw 64 = .ok (.ireturn, 1) := by decide +kernel
theorem dX7_drawAll_0 : decode cX7_drawAll 0 = .ok (.aload_n 0, 1) := by decide +kernel
theorem dX7_drawAll_1 : decode cX7_drawAll 1 = .ok (.getfield 47, 3) := by decide +kernel
theorem dX7_drawAll_4 : decode cX7_drawAll 4 = .ok (.aload_n 0, 1) := by decide +kernel
theorem dX7_drawAll_5 : decode cX7_drawAll 5 = .ok (.getfield 37, 3) := by decide +kernel
theorem dX7_drawAll_8 : decode cX7_drawAll 8 = .ok (.getfield 97, 3) := by decide +kernel
theorem dX7_drawAll_11 : decode cX7_drawAll 11 = .ok (.invokevirtual 217, 3) := by decide +kernel
theorem dX7_drawAll_14 : decode cX7_drawAll 14 = .ok (.aload_n 0, 1) := by decide +kernel
theorem dX7_drawAll_15 : decode cX7_drawAll 15 = .ok (.getfield 37, 3) := by decide +kernel
theorem dX7_drawAll_18 : decode cX7_drawAll 18 = .ok (.invokevirtual 84, 3) := by decide +kernel
theorem dX7_drawAll_21 : decode cX7_drawAll 21 = .ok (.istore_n 1, 1) := by decide +kernel
theorem dX7_drawAll_22 : decode cX7_drawAll 22 = .ok (.iload_n 1, 1) := by decide +kernel
theorem dX7_drawAll_23 : decode cX7_drawAll 23 = .ok (.ifCond .le 10, 3) := by decide +kernel
theorem dX7_drawAll_26 : decode cX7_drawAll 26 = .ok (.aload_n 0, 1) := by decide +kernel
theorem dX7_drawAll_27 : decode cX7_drawAll 27 = .ok (.getfield 47, 3) := by decide +kernel
theorem dX7_drawAll_30 : decode cX7_drawAll 30 = .ok (.invokevirtual 224, 3) := by decide +kernel
theorem dX7_drawAll_33 : decode cX7_drawAll 33 = .ok (.iload_n 1, 1) := by decide +kernel
theorem dX7_drawAll_34 : decode cX7_drawAll 34 = .ok (.ireturn, 1) := by decide +kernel
theorem dX7_recuse_0 : decode cX7_recuse 0 = .ok (.aload_n 0, 1) := by decide +kernel
theorem dX7_recuse_1 : decode cX7_recuse 1 = .ok (.getfield 37, 3) := by decide +kernel
theorem dX7_recuse_4 : decode cX7_recuse 4 = .ok (.iload_n 1, 1) := by decide +kernel
theorem dX7_recuse_5 : decode cX7_recuse 5 = .ok (.invokevirtual 227, 3) := by decide +kernel
theorem dX7_recuse_8 : decode cX7_recuse 8 = .ok (.ifCond .eq 33, 3) := by decide +kernel
theorem dX7_recuse_11 : decode cX7_recuse 11 = .ok (.aload_n 0, 1) := by decide +kernel
theorem dX7_recuse_12 : decode cX7_recuse 12 = .ok (.getfield 28, 3) := by decide +kernel
theorem dX7_recuse_15 : decode cX7_recuse 15 = .ok (.iload_n 2, 1) := by decide +kernel
theorem dX7_recuse_16 : decode cX7_recuse 16 = .ok (.invokevirtual 113, 3) := by decide +kernel
theorem dX7_recuse_19 : decode cX7_recuse 19 = .ok (.ifCond .eq 22, 3) := by decide +kernel
theorem dX7_recuse_22 : decode cX7_recuse 22 = .ok (.aload_n 0, 1) := by decide +kernel
theorem dX7_recuse_23 : decode cX7_recuse 23 = .ok (.getfield 37, 3) := by decide +kernel
theorem dX7_recuse_26 : decode cX7_recuse 26 = .ok (.getfield 97, 3) := by decide +kernel
theorem dX7_recuse_29 : decode cX7_recuse 29 = .ok (.getfield 166, 3) := by decide +kernel
theorem dX7_recuse_32 : decode cX7_recuse 32 = .ok (.iload_n 1, 1) := by decide +kernel
theorem dX7_recuse_33 : decode cX7_recuse 33 = .ok (.iaload, 1) := by decide +kernel
theorem dX7_recuse_34 : decode cX7_recuse 34 = .ok (.iload_n 2, 1) := by decide +kernel
theorem dX7_recuse_35 : decode cX7_recuse 35 = .ok (.invokestatic 131, 3) := by decide +kernel
theorem dX7_recuse_38 : decode cX7_recuse 38 = .ok (.ifCond .ne 5, 3) := by decide +kernel
theorem dX7_recuse_41 : decode cX7_recuse 41 = .ok (.iconst (-1), 1) := by decide +kernel
theorem dX7_recuse_42 : decode cX7_recuse 42 = .ok (.ireturn, 1) := by decide +kernel
theorem dX7_recuse_43 : decode cX7_recuse 43 = .ok (.aload_n 0, 1) := by decide +kernel
theorem dX7_recuse_44 : decode cX7_recuse 44 = .ok (.getfield 47, 3) := by decide +kernel
theorem dX7_recuse_47 : decode cX7_recuse 47 = .ok (.aload_n 0, 1) := by decide +kernel
theorem dX7_recuse_48 : decode cX7_recuse 48 = .ok (.getfield 37, 3) := by decide +kernel
theorem dX7_recuse_51 : decode cX7_recuse 51 = .ok (.getfield 97, 3) := by decide +kernel
theorem dX7_recuse_54 : decode cX7_recuse 54 = .ok (.invokevirtual 217, 3) := by decide +kernel
theorem dX7_recuse_57 : decode cX7_recuse 57 = .ok (.aload_n 0, 1) := by decide +kernel
theorem dX7_recuse_58 : decode cX7_recuse 58 = .ok (.getfield 47, 3) := by decide +kernel
theorem dX7_recuse_61 : decode cX7_recuse 61 = .ok (.invokevirtual 224, 3) := by decide +kernel
theorem dX7_recuse_64 : decode cX7_recuse 64 = .ok (.aload_n 0, 1) := by decide +kernel
theorem dX7_recuse_65 : decode cX7_recuse 65 = .ok (.getfield 37, 3) := by decide +kernel
theorem dX7_recuse_68 : decode cX7_recuse 68 = .ok (.getfield 97, 3) := by decide +kernel
theorem dX7_recuse_71 : decode cX7_recuse 71 = .ok (.getfield 160, 3) := by decide +kernel
theorem dX7_recuse_74 : decode cX7_recuse 74 = .ok (.iload_n 1, 1) := by decide +kernel
theorem dX7_recuse_75 : decode cX7_recuse 75 = .ok (.dup2, 1) := by decide +kernel
theorem dX7_recuse_76 : decode cX7_recuse 76 = .ok (.iaload, 1) := by decide +kernel
theorem dX7_recuse_77 : decode cX7_recuse 77 = .ok (.iconst 1, 1) := by decide +kernel
theorem dX7_recuse_78 : decode cX7_recuse 78 = .ok (.iload_n 2, 1) := by decide +kernel
theorem dX7_recuse_79 : decode cX7_recuse 79 = .ok (.ishl, 1) := by decide +kernel
theorem dX7_recuse_80 : decode cX7_recuse 80 = .ok (.ior, 1) := by decide +kernel
theorem dX7_recuse_81 : decode cX7_recuse 81 = .ok (.iastore, 1) := by decide +kernel
theorem dX7_recuse_82 : decode cX7_recuse 82 = .ok (.aload_n 0, 1) := by decide +kernel
theorem dX7_recuse_83 : decode cX7_recuse 83 = .ok (.getfield 37, 3) := by decide +kernel
theorem dX7_recuse_86 : decode cX7_recuse 86 = .ok (.iload_n 1, 1) := by decide +kernel
theorem dX7_recuse_87 : decode cX7_recuse 87 = .ok (.iload_n 2, 1) := by decide +kernel
theorem dX7_recuse_88 : decode cX7_recuse 88 = .ok (.invokevirtual 230, 3) := by decide +kernel
theorem dX7_recuse_91 : decode cX7_recuse 91 = .ok (.istore_n 3, 1) := by decide +kernel
theorem dX7_recuse_92 : decode cX7_recuse 92 = .ok (.iload_n 3, 1) := by decide +kernel
theorem dX7_recuse_93 : decode cX7_recuse 93 = .ok (.iconst (-1), 1) := by decide +kernel
theorem dX7_recuse_94 : decode cX7_recuse 94 = .ok (.if_icmp .ne 8, 3) := by decide +kernel
theorem dX7_recuse_97 : decode cX7_recuse 97 = .ok (.bipush (-2), 2) := by decide +kernel
theorem dX7_recuse_99 : decode cX7_recuse 99 = .ok (.goto 4, 3) := by decide +kernel
theorem dX7_recuse_102 : decode cX7_recuse 102 = .ok (.iload_n 3, 1) := by decide +kernel
theorem dX7_recuse_103 : decode cX7_recuse 103 = .ok (.ireturn, 1) := by decide +kernel
theorem dX7_leave_0 : decode cX7_leave 0 = .ok (.aload_n 0, 1) := by decide +kernel
theorem dX7_leave_1 : decode cX7_leave 1 = .ok (.getfield 28, 3) := by decide +kernel
theorem dX7_leave_4 : decode cX7_leave 4 = .ok (.iload_n 1, 1) := by decide +kernel
theorem dX7_leave_5 : decode cX7_leave 5 = .ok (.invokevirtual 113, 3) := by decide +kernel
theorem dX7_leave_8 : decode cX7_leave 8 = .ok (.ifCond .eq 20, 3) := by decide +kernel
theorem dX7_leave_11 : decode cX7_leave 11 = .ok (.aload_n 0, 1) := by decide +kernel
theorem dX7_leave_12 : decode cX7_leave 12 = .ok (.getfield 37, 3) := by decide +kernel
theorem dX7_leave_15 : decode cX7_leave 15 = .ok (.getfield 97, 3) := by decide +kernel
theorem dX7_leave_18 : decode cX7_leave 18 = .ok (.getfield 128, 3) := by decide +kernel
theorem dX7_leave_21 : decode cX7_leave 21 = .ok (.iload_n 1, 1) := by decide +kernel
theorem dX7_leave_22 : decode cX7_leave 22 = .ok (.invokestatic 131, 3) := by decide +kernel
theorem dX7_leave_25 : decode cX7_leave 25 = .ok (.ifCond .eq 5, 3) := by decide +kernel
theorem dX7_leave_28 : decode cX7_leave 28 = .ok (.iconst (-1), 1) := by decide +kernel
theorem dX7_leave_29 : decode cX7_leave 29 = .ok (.ireturn, 1) := by decide +kernel
theorem dX7_leave_30 : decode cX7_leave 30 = .ok (.aload_n 0, 1) := by decide +kernel
theorem dX7_leave_31 : decode cX7_leave 31 = .ok (.getfield 47, 3) := by decide +kernel
theorem dX7_leave_34 : decode cX7_leave 34 = .ok (.aload_n 0, 1) := by decide +kernel
theorem dX7_leave_35 : decode cX7_leave 35 = .ok (.getfield 37, 3) := by decide +kernel
theorem dX7_leave_38 : decode cX7_leave 38 = .ok (.getfield 97, 3) := by decide +kernel
theorem dX7_leave_41 : decode cX7_leave 41 = .ok (.invokevirtual 217, 3) := by decide +kernel
theorem dX7_leave_44 : decode cX7_leave 44 = .ok (.aload_n 0, 1) := by decide +kernel
theorem dX7_leave_45 : decode cX7_leave 45 = .ok (.getfield 47, 3) := by decide +kernel
theorem dX7_leave_48 : decode cX7_leave 48 = .ok (.invokevirtual 224, 3) := by decide +kernel
theorem dX7_leave_51 : decode cX7_leave 51 = .ok (.aload_n 0, 1) := by decide +kernel
theorem dX7_leave_52 : decode cX7_leave 52 = .ok (.getfield 37, 3) := by decide +kernel
theorem dX7_leave_55 : decode cX7_leave 55 = .ok (.getfield 97, 3) := by decide +kernel
theorem dX7_leave_58 : decode cX7_leave 58 = .ok (.dup, 1) := by decide +kernel
theorem dX7_leave_59 : decode cX7_leave 59 = .ok (.getfield 128, 3) := by decide +kernel
theorem dX7_leave_62 : decode cX7_leave 62 = .ok (.iconst 1, 1) := by decide +kernel
theorem dX7_leave_63 : decode cX7_leave 63 = .ok (.iload_n 1, 1) := by decide +kernel
theorem dX7_leave_64 : decode cX7_leave 64 = .ok (.ishl, 1) := by decide +kernel
theorem dX7_leave_65 : decode cX7_leave 65 = .ok (.ior, 1) := by decide +kernel
theorem dX7_leave_66 : decode cX7_leave 66 = .ok (.putfield 128, 3) := by decide +kernel
theorem dX7_leave_69 : decode cX7_leave 69 = .ok (.aload_n 0, 1) := by decide +kernel
theorem dX7_leave_70 : decode cX7_leave 70 = .ok (.getfield 37, 3) := by decide +kernel
theorem dX7_leave_73 : decode cX7_leave 73 = .ok (.iload_n 1, 1) := by decide +kernel
theorem dX7_leave_74 : decode cX7_leave 74 = .ok (.invokevirtual 233, 3) := by decide +kernel
theorem dX7_leave_77 : decode cX7_leave 77 = .ok (.ireturn, 1) := by decide +kernel
theorem dX7_come_0 : decode cX7_come 0 = .ok (.aload_n 0, 1) := by decide +kernel
theorem dX7_come_1 : decode cX7_come 1 = .ok (.getfield 28, 3) := by decide +kernel
theorem dX7_come_4 : decode cX7_come 4 = .ok (.iload_n 1, 1) := by decide +kernel
theorem dX7_come_5 : decode cX7_come 5 = .ok (.invokevirtual 113, 3) := by decide +kernel
theorem dX7_come_8 : decode cX7_come 8 = .ok (.ifCond .eq 20, 3) := by decide +kernel
theorem dX7_come_11 : decode cX7_come 11 = .ok (.aload_n 0, 1) := by decide +kernel
theorem dX7_come_12 : decode cX7_come 12 = .ok (.getfield 37, 3) := by decide +kernel
theorem dX7_come_15 : decode cX7_come 15 = .ok (.getfield 97, 3) := by decide +kernel
theorem dX7_come_18 : decode cX7_come 18 = .ok (.getfield 128, 3) := by decide +kernel
theorem dX7_come_21 : decode cX7_come 21 = .ok (.iload_n 1, 1) := by decide +kernel
theorem dX7_come_22 : decode cX7_come 22 = .ok (.invokestatic 131, 3) := by decide +kernel
theorem dX7_come_25 : decode cX7_come 25 = .ok (.ifCond .ne 5, 3) := by decide +kernel
theorem dX7_come_28 : decode cX7_come 28 = .ok (.iconst (-1), 1) := by decide +kernel
theorem dX7_come_29 : decode cX7_come 29 = .ok (.ireturn, 1) := by decide +kernel
theorem dX7_come_30 : decode cX7_come 30 = .ok (.aload_n 0, 1) := by decide +kernel
theorem dX7_come_31 : decode cX7_come 31 = .ok (.getfield 47, 3) := by decide +kernel
theorem dX7_come_34 : decode cX7_come 34 = .ok (.aload_n 0, 1) := by decide +kernel
theorem dX7_come_35 : decode cX7_come 35 = .ok (.getfield 37, 3) := by decide +kernel
theorem dX7_come_38 : decode cX7_come 38 = .ok (.getfield 97, 3) := by decide +kernel
theorem dX7_come_41 : decode cX7_come 41 = .ok (.invokevirtual 217, 3) := by decide +kernel
theorem dX7_come_44 : decode cX7_come 44 = .ok (.aload_n 0, 1) := by decide +kernel
theorem dX7_come_45 : decode cX7_come 45 = .ok (.getfield 47, 3) := by decide +kernel
theorem dX7_come_48 : decode cX7_come 48 = .ok (.invokevirtual 224, 3) := by decide +kernel
theorem dX7_come_51 : decode cX7_come 51 = .ok (.aload_n 0, 1) := by decide +kernel
theorem dX7_come_52 : decode cX7_come 52 = .ok (.getfield 37, 3) := by decide +kernel
theorem dX7_come_55 : decode cX7_come 55 = .ok (.getfield 97, 3) := by decide +kernel
theorem dX7_come_58 : decode cX7_come 58 = .ok (.dup, 1) := by decide +kernel
theorem dX7_come_59 : decode cX7_come 59 = .ok (.getfield 128, 3) := by decide +kernel
theorem dX7_come_62 : decode cX7_come 62 = .ok (.iconst 1, 1) := by decide +kernel
theorem dX7_come_63 : decode cX7_come 63 = .ok (.iload_n 1, 1) := by decide +kernel
theorem dX7_come_64 : decode cX7_come 64 = .ok (.ishl, 1) := by decide +kernel
theorem dX7_come_65 : decode cX7_come 65 = .ok (.iconst (-1), 1) := by decide +kernel
theorem dX7_come_66 : decode cX7_come 66 = .ok (.ixor, 1) := by decide +kernel
theorem dX7_come_67 : decode cX7_come 67 = .ok (.iand, 1) := by decide +kernel
theorem dX7_come_68 : decode cX7_come 68 = .ok (.putfield 128, 3) := by decide +kernel
theorem dX7_come_71 : decode cX7_come 71 = .ok (.aload_n 0, 1) := by decide +kernel
theorem dX7_come_72 : decode cX7_come 72 = .ok (.getfield 37, 3) := by decide +kernel
theorem dX7_come_75 : decode cX7_come 75 = .ok (.getfield 97, 3) := by decide +kernel
theorem dX7_come_78 : decode cX7_come 78 = .ok (.getfield 128, 3) := by decide +kernel
theorem dX7_come_81 : decode cX7_come 81 = .ok (.invokestatic 236, 3) := by decide +kernel
theorem dX7_come_84 : decode cX7_come 84 = .ok (.ireturn, 1) := by decide +kernel
theorem dX7_hear_0 : decode cX7_hear 0 = .ok (.aload_n 0, 1) := by decide +kernel
theorem dX7_hear_1 : decode cX7_hear 1 = .ok (.getfield 37, 3) := by decide +kernel
theorem dX7_hear_4 : decode cX7_hear 4 = .ok (.iload_n 1, 1) := by decide +kernel
theorem dX7_hear_5 : decode cX7_hear 5 = .ok (.invokevirtual 227, 3) := by decide +kernel
theorem dX7_hear_8 : decode cX7_hear 8 = .ok (.ifCond .ne 5, 3) := by decide +kernel
theorem dX7_hear_11 : decode cX7_hear 11 = .ok (.iconst (-1), 1) := by decide +kernel
theorem dX7_hear_12 : decode cX7_hear 12 = .ok (.ireturn, 1) := by decide +kernel
theorem dX7_hear_13 : decode cX7_hear 13 = .ok (.aload_n 0, 1) := by decide +kernel
theorem dX7_hear_14 : decode cX7_hear 14 = .ok (.getfield 47, 3) := by decide +kernel
theorem dX7_hear_17 : decode cX7_hear 17 = .ok (.aload_n 0, 1) := by decide +kernel
theorem dX7_hear_18 : decode cX7_hear 18 = .ok (.getfield 37, 3) := by decide +kernel
theorem dX7_hear_21 : decode cX7_hear 21 = .ok (.getfield 97, 3) := by decide +kernel
theorem dX7_hear_24 : decode cX7_hear 24 = .ok (.invokevirtual 217, 3) := by decide +kernel
theorem dX7_hear_27 : decode cX7_hear 27 = .ok (.aload_n 0, 1) := by decide +kernel
theorem dX7_hear_28 : decode cX7_hear 28 = .ok (.getfield 47, 3) := by decide +kernel
theorem dX7_hear_31 : decode cX7_hear 31 = .ok (.invokevirtual 224, 3) := by decide +kernel
theorem dX7_hear_34 : decode cX7_hear 34 = .ok (.aload_n 0, 1) := by decide +kernel
theorem dX7_hear_35 : decode cX7_hear 35 = .ok (.getfield 37, 3) := by decide +kernel
theorem dX7_hear_38 : decode cX7_hear 38 = .ok (.getfield 97, 3) := by decide +kernel
theorem dX7_hear_41 : decode cX7_hear 41 = .ok (.getfield 163, 3) := by decide +kernel
theorem dX7_hear_44 : decode cX7_hear 44 = .ok (.iload_n 1, 1) := by decide +kernel
theorem dX7_hear_45 : decode cX7_hear 45 = .ok (.iconst 2, 1) := by decide +kernel
theorem dX7_hear_46 : decode cX7_hear 46 = .ok (.iastore, 1) := by decide +kernel
theorem dX7_hear_47 : decode cX7_hear 47 = .ok (.aload_n 0, 1) := by decide +kernel
theorem dX7_hear_48 : decode cX7_hear 48 = .ok (.getfield 37, 3) := by decide +kernel
theorem dX7_hear_51 : decode cX7_hear 51 = .ok (.iconst 2, 1) := by decide +kernel
theorem dX7_hear_52 : decode cX7_hear 52 = .ok (.invokevirtual 106, 3) := by decide +kernel
theorem dX7_hear_55 : decode cX7_hear 55 = .ok (.ireturn, 1) := by decide +kernel
theorem dX7_evenness_0 : decode cX7_evenness 0 = .ok (.aload_n 0, 1) := by decide +kernel
theorem dX7_evenness_1 : decode cX7_evenness 1 = .ok (.getfield 37, 3) := by decide +kernel
theorem dX7_evenness_4 : decode cX7_evenness 4 = .ok (.iconst (-1), 1) := by decide +kernel
theorem dX7_evenness_5 : decode cX7_evenness 5 = .ok (.invokevirtual 135, 3) := by decide +kernel
theorem dX7_evenness_8 : decode cX7_evenness 8 = .ok (.aload_n 0, 1) := by decide +kernel
theorem dX7_evenness_9 : decode cX7_evenness 9 = .ok (.getfield 37, 3) := by decide +kernel
theorem dX7_evenness_12 : decode cX7_evenness 12 = .ok (.invokevirtual 241, 3) := by decide +kernel
theorem dX7_evenness_15 : decode cX7_evenness 15 = .ok (.ireturn, 1) := by decide +kernel
theorem dX7_better_0 : decode cX7_better 0 = .ok (.iload_n 1, 1) := by decide +kernel
theorem dX7_better_1 : decode cX7_better 1 = .ok (.ifCond .lt 18, 3) := by decide +kernel
theorem dX7_better_4 : decode cX7_better 4 = .ok (.iload_n 1, 1) := by decide +kernel
theorem dX7_better_5 : decode cX7_better 5 = .ok (.iconst 4, 1) := by decide +kernel
theorem dX7_better_6 : decode cX7_better 6 = .ok (.if_icmp .gt 13, 3) := by decide +kernel
theorem dX7_better_9 : decode cX7_better 9 = .ok (.aload_n 0, 1) := by decide +kernel
theorem dX7_better_10 : decode cX7_better 10 = .ok (.getfield 37, 3) := by decide +kernel
theorem dX7_better_13 : decode cX7_better 13 = .ok (.invokevirtual 244, 3) := by decide +kernel
theorem dX7_better_16 : decode cX7_better 16 = .ok (.ifCond .ne 5, 3) := by decide +kernel
theorem dX7_better_19 : decode cX7_better 19 = .ok (.iconst (-1), 1) := by decide +kernel
theorem dX7_better_20 : decode cX7_better 20 = .ok (.ireturn, 1) := by decide +kernel
theorem dX7_better_21 : decode cX7_better 21 = .ok (.iload_n 1, 1) := by decide +kernel
theorem dX7_better_22 : decode cX7_better 22 = .ok (.tableswitch 74 0 3 #[30, 41, 52, 63], 30) := by decide +kernel
theorem dX7_better_52 : decode cX7_better 52 = .ok (.aload_n 0, 1) := by decide +kernel
theorem dX7_better_53 : decode cX7_better 53 = .ok (.getfield 37, 3) := by decide +kernel
theorem dX7_better_56 : decode cX7_better 56 = .ok (.getfield 247, 3) := by decide +kernel
theorem dX7_better_59 : decode cX7_better 59 = .ok (.getfield 251, 3) := by decide +kernel
theorem dX7_better_62 : decode cX7_better 62 = .ok (.ireturn, 1) := by decide +kernel
theorem dX7_better_63 : decode cX7_better 63 = .ok (.aload_n 0, 1) := by decide +kernel
theorem dX7_better_64 : decode cX7_better 64 = .ok (.getfield 37, 3) := by decide +kernel
theorem dX7_better_67 : decode cX7_better 67 = .ok (.getfield 247, 3) := by decide +kernel
theorem dX7_better_70 : decode cX7_better 70 = .ok (.getfield 256, 3) := by decide +kernel
theorem dX7_better_73 : decode cX7_better 73 = .ok (.ireturn, 1) := by decide +kernel
theorem dX7_better_74 : decode cX7_better 74 = .ok (.aload_n 0, 1) := by decide +kernel
theorem dX7_better_75 : decode cX7_better 75 = .ok (.getfield 37, 3) := by decide +kernel
theorem dX7_better_78 : decode cX7_better 78 = .ok (.getfield 247, 3) := by decide +kernel
theorem dX7_better_81 : decode cX7_better 81 = .ok (.getfield 259, 3) := by decide +kernel
theorem dX7_better_84 : decode cX7_better 84 = .ok (.ireturn, 1) := by decide +kernel
theorem dX7_better_85 : decode cX7_better 85 = .ok (.aload_n 0, 1) := by decide +kernel
theorem dX7_better_86 : decode cX7_better 86 = .ok (.getfield 37, 3) := by decide +kernel
theorem dX7_better_89 : decode cX7_better 89 = .ok (.getfield 247, 3) := by decide +kernel
theorem dX7_better_92 : decode cX7_better 92 = .ok (.getfield 262, 3) := by decide +kernel
theorem dX7_better_95 : decode cX7_better 95 = .ok (.ireturn, 1) := by decide +kernel
theorem dX7_better_96 : decode cX7_better 96 = .ok (.aload_n 0, 1) := by decide +kernel
theorem dX7_better_97 : decode cX7_better 97 = .ok (.getfield 37, 3) := by decide +kernel
theorem dX7_better_100 : decode cX7_better 100 = .ok (.getfield 247, 3) := by decide +kernel
theorem dX7_better_103 : decode cX7_better 103 = .ok (.getfield 265, 3) := by decide +kernel
theorem dX7_better_106 : decode cX7_better 106 = .ok (.ireturn, 1) := by decide +kernel
theorem dX7_exchange_0 : decode cX7_exchange 0 = .ok (.aload_n 0, 1) := by decide +kernel
theorem dX7_exchange_1 : decode cX7_exchange 1 = .ok (.getfield 37, 3) := by decide +kernel
theorem dX7_exchange_4 : decode cX7_exchange 4 = .ok (.iload_n 1, 1) := by decide +kernel
theorem dX7_exchange_5 : decode cX7_exchange 5 = .ok (.iload_n 2, 1) := by decide +kernel
theorem dX7_exchange_6 : decode cX7_exchange 6 = .ok (.iload_n 3, 1) := by decide +kernel
theorem dX7_exchange_7 : decode cX7_exchange 7 = .ok (.iload 4, 2) := by decide +kernel
theorem dX7_exchange_9 : decode cX7_exchange 9 = .ok (.invokevirtual 268, 3) := by decide +kernel
theorem dX7_exchange_12 : decode cX7_exchange 12 = .ok (.ifCond .ne 5, 3) := by decide +kernel
theorem dX7_exchange_15 : decode cX7_exchange 15 = .ok (.iconst (-1), 1) := by decide +kernel
theorem dX7_exchange_16 : decode cX7_exchange 16 = .ok (.ireturn, 1) := by decide +kernel
theorem dX7_exchange_17 : decode cX7_exchange 17 = .ok (.aload_n 0, 1) := by decide +kernel
theorem dX7_exchange_18 : decode cX7_exchange 18 = .ok (.getfield 47, 3) := by decide +kernel
theorem dX7_exchange_21 : decode cX7_exchange 21 = .ok (.aload_n 0, 1) := by decide +kernel
theorem dX7_exchange_22 : decode cX7_exchange 22 = .ok (.getfield 37, 3) := by decide +kernel
theorem dX7_exchange_25 : decode cX7_exchange 25 = .ok (.getfield 97, 3) := by decide +kernel
theorem dX7_exchange_28 : decode cX7_exchange 28 = .ok (.invokevirtual 217, 3) := by decide +kernel
theorem dX7_exchange_31 : decode cX7_exchange 31 = .ok (.aload_n 0, 1) := by decide +kernel
theorem dX7_exchange_32 : decode cX7_exchange 32 = .ok (.getfield 47, 3) := by decide +kernel
theorem dX7_exchange_35 : decode cX7_exchange 35 = .ok (.invokevirtual 224, 3) := by decide +kernel
theorem dX7_exchange_38 : decode cX7_exchange 38 = .ok (.aload_n 0, 1) := by decide +kernel
theorem dX7_exchange_39 : decode cX7_exchange 39 = .ok (.getfield 37, 3) := by decide +kernel
theorem dX7_exchange_42 : decode cX7_exchange 42 = .ok (.iload_n 1, 1) := by decide +kernel
theorem dX7_exchange_43 : decode cX7_exchange 43 = .ok (.iload_n 2, 1) := by decide +kernel
theorem dX7_exchange_44 : decode cX7_exchange 44 = .ok (.iload_n 3, 1) := by decide +kernel
theorem dX7_exchange_45 : decode cX7_exchange 45 = .ok (.iload 4, 2) := by decide +kernel
theorem dX7_exchange_47 : decode cX7_exchange 47 = .ok (.invokevirtual 272, 3) := by decide +kernel
theorem dX7_exchange_50 : decode cX7_exchange 50 = .ok (.aload_n 0, 1) := by decide +kernel
theorem dX7_exchange_51 : decode cX7_exchange 51 = .ok (.getfield 37, 3) := by decide +kernel
theorem dX7_exchange_54 : decode cX7_exchange 54 = .ok (.iconst (-1), 1) := by decide +kernel
theorem dX7_exchange_55 : decode cX7_exchange 55 = .ok (.invokevirtual 135, 3) := by decide +kernel
theorem dX7_exchange_58 : decode cX7_exchange 58 = .ok (.aload_n 0, 1) := by decide +kernel
theorem dX7_exchange_59 : decode cX7_exchange 59 = .ok (.getfield 37, 3) := by decide +kernel
theorem dX7_exchange_62 : decode cX7_exchange 62 = .ok (.invokevirtual 241, 3) := by decide +kernel
theorem dX7_exchange_65 : decode cX7_exchange 65 = .ok (.ireturn, 1) := by decide +kernel
theorem dX7_smooth_0 : decode cX7_smooth 0 = .ok (.aload_n 0, 1) := by decide +kernel
theorem dX7_smooth_1 : decode cX7_smooth 1 = .ok (.getfield 47, 3) := by decide +kernel
theorem dX7_smooth_4 : decode cX7_smooth 4 = .ok (.aload_n 0, 1) := by decide +kernel
theorem dX7_smooth_5 : decode cX7_smooth 5 = .ok (.getfield 37, 3) := by decide +kernel
theorem dX7_smooth_8 : decode cX7_smooth 8 = .ok (.getfield 97, 3) := by decide +kernel
theorem dX7_smooth_11 : decode cX7_smooth 11 = .ok (.invokevirtual 217, 3) := by decide +kernel
theorem dX7_smooth_14 : decode cX7_smooth 14 = .ok (.iconst 0, 1) := by decide +kernel
theorem dX7_smooth_15 : decode cX7_smooth 15 = .ok (.istore_n 1, 1) := by decide +kernel
theorem dX7_smooth_16 : decode cX7_smooth 16 = .ok (.iload_n 1, 1) := by decide +kernel
theorem dX7_smooth_17 : decode cX7_smooth 17 = .ok (.bipush 40, 2) := by decide +kernel
theorem dX7_smooth_19 : decode cX7_smooth 19 = .ok (.if_icmp .ge 66, 3) := by decide +kernel
theorem dX7_smooth_22 : decode cX7_smooth 22 = .ok (.aload_n 0, 1) := by decide +kernel
theorem dX7_smooth_23 : decode cX7_smooth 23 = .ok (.getfield 37, 3) := by decide +kernel
theorem dX7_smooth_26 : decode cX7_smooth 26 = .ok (.invokevirtual 244, 3) := by decide +kernel
theorem dX7_smooth_29 : decode cX7_smooth 29 = .ok (.ifCond .eq 56, 3) := by decide +kernel
theorem dX7_smooth_32 : decode cX7_smooth 32 = .ok (.aload_n 0, 1) := by decide +kernel
theorem dX7_smooth_33 : decode cX7_smooth 33 = .ok (.getfield 37, 3) := by decide +kernel
theorem dX7_smooth_36 : decode cX7_smooth 36 = .ok (.aload_n 0, 1) := by decide +kernel
theorem dX7_smooth_37 : decode cX7_smooth 37 = .ok (.getfield 37, 3) := by decide +kernel
theorem dX7_smooth_40 : decode cX7_smooth 40 = .ok (.getfield 247, 3) := by decide +kernel
theorem dX7_smooth_43 : decode cX7_smooth 43 = .ok (.getfield 251, 3) := by decide +kernel
theorem dX7_smooth_46 : decode cX7_smooth 46 = .ok (.aload_n 0, 1) := by decide +kernel
theorem dX7_smooth_47 : decode cX7_smooth 47 = .ok (.getfield 37, 3) := by decide +kernel
theorem dX7_smooth_50 : decode cX7_smooth 50 = .ok (.getfield 247, 3) := by decide +kernel
theorem dX7_smooth_53 : decode cX7_smooth 53 = .ok (.getfield 256, 3) := by decide +kernel
theorem dX7_smooth_56 : decode cX7_smooth 56 = .ok (.aload_n 0, 1) := by decide +kernel
theorem dX7_smooth_57 : decode cX7_smooth 57 = .ok (.getfield 37, 3) := by decide +kernel
theorem dX7_smooth_60 : decode cX7_smooth 60 = .ok (.getfield 247, 3) := by decide +kernel
theorem dX7_smooth_63 : decode cX7_smooth 63 = .ok (.getfield 259, 3) := by decide +kernel
theorem dX7_smooth_66 : decode cX7_smooth 66 = .ok (.aload_n 0, 1) := by decide +kernel
theorem dX7_smooth_67 : decode cX7_smooth 67 = .ok (.getfield 37, 3) := by decide +kernel
theorem dX7_smooth_70 : decode cX7_smooth 70 = .ok (.getfield 247, 3) := by decide +kernel
theorem dX7_smooth_73 : decode cX7_smooth 73 = .ok (.getfield 262, 3) := by decide +kernel
theorem dX7_smooth_76 : decode cX7_smooth 76 = .ok (.invokevirtual 272, 3) := by decide +kernel
theorem dX7_smooth_79 : decode cX7_smooth 79 = .ok (.iinc 1 1, 3) := by decide +kernel
theorem dX7_smooth_82 : decode cX7_smooth 82 = .ok (.goto (-66), 3) := by decide +kernel
theorem dX7_smooth_85 : decode cX7_smooth 85 = .ok (.iload_n 1, 1) := by decide +kernel
theorem dX7_smooth_86 : decode cX7_smooth 86 = .ok (.ifCond .ne 5, 3) := by decide +kernel
theorem dX7_smooth_89 : decode cX7_smooth 89 = .ok (.iconst (-1), 1) := by decide +kernel
theorem dX7_smooth_90 : decode cX7_smooth 90 = .ok (.ireturn, 1) := by decide +kernel
theorem dX7_smooth_91 : decode cX7_smooth 91 = .ok (.aload_n 0, 1) := by decide +kernel
theorem dX7_smooth_92 : decode cX7_smooth 92 = .ok (.getfield 47, 3) := by decide +kernel
theorem dX7_smooth_95 : decode cX7_smooth 95 = .ok (.invokevirtual 224, 3) := by decide +kernel
theorem dX7_smooth_98 : decode cX7_smooth 98 = .ok (.iload_n 1, 1) := by decide +kernel
theorem dX7_smooth_99 : decode cX7_smooth 99 = .ok (.ireturn, 1) := by decide +kernel
theorem dX7_same_0 : decode cX7_same 0 = .ok (.iconst 0, 1) := by decide +kernel
theorem dX7_same_1 : decode cX7_same 1 = .ok (.istore_n 1, 1) := by decide +kernel
theorem dX7_same_2 : decode cX7_same 2 = .ok (.iconst 0, 1) := by decide +kernel
theorem dX7_same_3 : decode cX7_same 3 = .ok (.istore_n 2, 1) := by decide +kernel
theorem dX7_same_4 : decode cX7_same 4 = .ok (.iload_n 2, 1) := by decide +kernel
theorem dX7_same_5 : decode cX7_same 5 = .ok (.aload_n 0, 1) := by decide +kernel
theorem dX7_same_6 : decode cX7_same 6 = .ok (.getfield 28, 3) := by decide +kernel
theorem dX7_same_9 : decode cX7_same 9 = .ok (.getfield 94, 3) := by decide +kernel
theorem dX7_same_12 : decode cX7_same 12 = .ok (.if_icmp .ge 39, 3) := by decide +kernel
theorem dX7_same_15 : decode cX7_same 15 = .ok (.aload_n 0, 1) := by decide +kernel
theorem dX7_same_16 : decode cX7_same 16 = .ok (.getfield 37, 3) := by decide +kernel
theorem dX7_same_19 : decode cX7_same 19 = .ok (.getfield 97, 3) := by decide +kernel
theorem dX7_same_22 : decode cX7_same 22 = .ok (.getfield 166, 3) := by decide +kernel
theorem dX7_same_25 : decode cX7_same 25 = .ok (.iload_n 2, 1) := by decide +kernel
theorem dX7_same_26 : decode cX7_same 26 = .ok (.iaload, 1) := by decide +kernel
theorem dX7_same_27 : decode cX7_same 27 = .ok (.aload_n 0, 1) := by decide +kernel
theorem dX7_same_28 : decode cX7_same 28 = .ok (.getfield 41, 3) := by decide +kernel
theorem dX7_same_31 : decode cX7_same 31 = .ok (.getfield 97, 3) := by decide +kernel
theorem dX7_same_34 : decode cX7_same 34 = .ok (.getfield 166, 3) := by decide +kernel
theorem dX7_same_37 : decode cX7_same 37 = .ok (.iload_n 2, 1) := by decide +kernel
theorem dX7_same_38 : decode cX7_same 38 = .ok (.iaload, 1) := by decide +kernel
theorem dX7_same_39 : decode cX7_same 39 = .ok (.if_icmp .ne 6, 3) := by decide +kernel
theorem dX7_same_42 : decode cX7_same 42 = .ok (.iinc 1 1, 3) := by decide +kernel
theorem dX7_same_45 : decode cX7_same 45 = .ok (.iinc 2 1, 3) := by decide +kernel
theorem dX7_same_48 : decode cX7_same 48 = .ok (.goto (-44), 3) := by decide +kernel
theorem dX7_same_51 : decode cX7_same 51 = .ok (.iload_n 1, 1) := by decide +kernel
theorem dX7_same_52 : decode cX7_same 52 = .ok (.ireturn, 1) := by decide +kernel
theorem dX7_anew_0 : decode cX7_anew 0 = .ok (.aload_n 0, 1) := by decide +kernel
theorem dX7_anew_1 : decode cX7_anew 1 = .ok (.getfield 28, 3) := by decide +kernel
theorem dX7_anew_4 : decode cX7_anew 4 = .ok (.iload_n 1, 1) := by decide +kernel
theorem dX7_anew_5 : decode cX7_anew 5 = .ok (.invokevirtual 152, 3) := by decide +kernel
theorem dX7_anew_8 : decode cX7_anew 8 = .ok (.ifCond .eq 18, 3) := by decide +kernel
theorem dX7_anew_11 : decode cX7_anew 11 = .ok (.aload_n 0, 1) := by decide +kernel
theorem dX7_anew_12 : decode cX7_anew 12 = .ok (.getfield 41, 3) := by decide +kernel
theorem dX7_anew_15 : decode cX7_anew 15 = .ok (.getfield 97, 3) := by decide +kernel
theorem dX7_anew_18 : decode cX7_anew 18 = .ok (.getfield 166, 3) := by decide +kernel
theorem dX7_anew_21 : decode cX7_anew 21 = .ok (.iload_n 1, 1) := by decide +kernel
theorem dX7_anew_22 : decode cX7_anew 22 = .ok (.iaload, 1) := by decide +kernel
theorem dX7_anew_23 : decode cX7_anew 23 = .ok (.goto 4, 3) := by decide +kernel
theorem dX7_anew_26 : decode cX7_anew 26 = .ok (.iconst (-1), 1) := by decide +kernel
theorem dX7_anew_27 : decode cX7_anew 27 = .ok (.ireturn, 1) := by decide +kernel
theorem dX7_undo_0 : decode cX7_undo 0 = .ok (.aload_n 0, 1) := by decide +kernel
theorem dX7_undo_1 : decode cX7_undo 1 = .ok (.getfield 47, 3) := by decide +kernel
theorem dX7_undo_4 : decode cX7_undo 4 = .ok (.getfield 110, 3) := by decide +kernel
theorem dX7_undo_7 : decode cX7_undo 7 = .ok (.ifCond .ne 5, 3) := by decide +kernel
theorem dX7_undo_10 : decode cX7_undo 10 = .ok (.iconst (-1), 1) := by decide +kernel
theorem dX7_undo_11 : decode cX7_undo 11 = .ok (.ireturn, 1) := by decide +kernel
theorem dX7_undo_12 : decode cX7_undo 12 = .ok (.aload_n 0, 1) := by decide +kernel
theorem dX7_undo_13 : decode cX7_undo 13 = .ok (.getfield 47, 3) := by decide +kernel
theorem dX7_undo_16 : decode cX7_undo 16 = .ok (.aload_n 0, 1) := by decide +kernel
theorem dX7_undo_17 : decode cX7_undo 17 = .ok (.getfield 37, 3) := by decide +kernel
theorem dX7_undo_20 : decode cX7_undo 20 = .ok (.getfield 97, 3) := by decide +kernel
theorem dX7_undo_23 : decode cX7_undo 23 = .ok (.invokevirtual 276, 3) := by decide +kernel
theorem dX7_undo_26 : decode cX7_undo 26 = .ok (.aload_n 0, 1) := by decide +kernel
theorem dX7_undo_27 : decode cX7_undo 27 = .ok (.getfield 47, 3) := by decide +kernel
theorem dX7_undo_30 : decode cX7_undo 30 = .ok (.getfield 110, 3) := by decide +kernel
theorem dX7_undo_33 : decode cX7_undo 33 = .ok (.ireturn, 1) := by decide +kernel
theorem dX7_has_0 : decode cX7_has 0 = .ok (.iload_n 0, 1) := by decide +kernel
theorem dX7_has_1 : decode cX7_has 1 = .ok (.iload_n 1, 1) := by decide +kernel
theorem dX7_has_2 : decode cX7_has 2 = .ok (.ishr, 1) := by decide +kernel
theorem dX7_has_3 : decode cX7_has 3 = .ok (.iconst 1, 1) := by decide +kernel
theorem dX7_has_4 : decode cX7_has 4 = .ok (.iand, 1) := by decide +kernel
theorem dX7_has_5 : decode cX7_has 5 = .ok (.ifCond .eq 7, 3) := by decide +kernel
theorem dX7_has_8 : decode cX7_has 8 = .ok (.iconst 1, 1) := by decide +kernel
theorem dX7_has_9 : decode cX7_has 9 = .ok (.goto 4, 3) := by decide +kernel
theorem dX7_has_12 : decode cX7_has 12 = .ok (.iconst 0, 1) := by decide +kernel
theorem dX7_has_13 : decode cX7_has 13 = .ok (.ireturn, 1) := by decide +kernel
theorem dX7_pairPlace_0 : decode cX7_pairPlace 0 = .ok (.iload_n 0, 1) := by decide +kernel
theorem dX7_pairPlace_1 : decode cX7_pairPlace 1 = .ok (.iload_n 1, 1) := by decide +kernel
theorem dX7_pairPlace_2 : decode cX7_pairPlace 2 = .ok (.if_icmp .ge 12, 3) := by decide +kernel
theorem dX7_pairPlace_5 : decode cX7_pairPlace 5 = .ok (.iload_n 0, 1) := by decide +kernel
theorem dX7_pairPlace_6 : decode cX7_pairPlace 6 = .ok (.bipush 9, 2) := by decide +kernel
theorem dX7_pairPlace_8 : decode cX7_pairPlace 8 = .ok (.imul, 1) := by decide +kernel
theorem dX7_pairPlace_9 : decode cX7_pairPlace 9 = .ok (.iload_n 1, 1) := by decide +kernel
theorem dX7_pairPlace_10 : decode cX7_pairPlace 10 = .ok (.iadd, 1) := by decide +kernel
theorem dX7_pairPlace_11 : decode cX7_pairPlace 11 = .ok (.goto 9, 3) := by decide +kernel
theorem dX7_pairPlace_14 : decode cX7_pairPlace 14 = .ok (.iload_n 1, 1) := by decide +kernel
theorem dX7_pairPlace_15 : decode cX7_pairPlace 15 = .ok (.bipush 9, 2) := by decide +kernel
theorem dX7_pairPlace_17 : decode cX7_pairPlace 17 = .ok (.imul, 1) := by decide +kernel
theorem dX7_pairPlace_18 : decode cX7_pairPlace 18 = .ok (.iload_n 0, 1) := by decide +kernel
theorem dX7_pairPlace_19 : decode cX7_pairPlace 19 = .ok (.iadd, 1) := by decide +kernel
theorem dX7_pairPlace_20 : decode cX7_pairPlace 20 = .ok (.ireturn, 1) := by decide +kernel
theorem dJ6_bitCount_0f7a4_0 : decode cJ6_bitCount_0f7a4 0 = .ok (.iload_n 0, 1) := by decide +kernel
theorem dJ6_bitCount_0f7a4_1 : decode cJ6_bitCount_0f7a4 1 = .ok (.iload_n 0, 1) := by decide +kernel
theorem dJ6_bitCount_0f7a4_2 : decode cJ6_bitCount_0f7a4 2 = .ok (.iconst 1, 1) := by decide +kernel
theorem dJ6_bitCount_0f7a4_3 : decode cJ6_bitCount_0f7a4 3 = .ok (.iushr, 1) := by decide +kernel
theorem dJ6_bitCount_0f7a4_4 : decode cJ6_bitCount_0f7a4 4 = .ok (.ldc_w 265, 3) := by decide +kernel
theorem dJ6_bitCount_0f7a4_7 : decode cJ6_bitCount_0f7a4 7 = .ok (.iand, 1) := by decide +kernel
theorem dJ6_bitCount_0f7a4_8 : decode cJ6_bitCount_0f7a4 8 = .ok (.isub, 1) := by decide +kernel
theorem dJ6_bitCount_0f7a4_9 : decode cJ6_bitCount_0f7a4 9 = .ok (.istore_n 0, 1) := by decide +kernel
theorem dJ6_bitCount_0f7a4_10 : decode cJ6_bitCount_0f7a4 10 = .ok (.iload_n 0, 1) := by decide +kernel
theorem dJ6_bitCount_0f7a4_11 : decode cJ6_bitCount_0f7a4 11 = .ok (.ldc_w 266, 3) := by decide +kernel
theorem dJ6_bitCount_0f7a4_14 : decode cJ6_bitCount_0f7a4 14 = .ok (.iand, 1) := by decide +kernel
theorem dJ6_bitCount_0f7a4_15 : decode cJ6_bitCount_0f7a4 15 = .ok (.iload_n 0, 1) := by decide +kernel
theorem dJ6_bitCount_0f7a4_16 : decode cJ6_bitCount_0f7a4 16 = .ok (.iconst 2, 1) := by decide +kernel
theorem dJ6_bitCount_0f7a4_17 : decode cJ6_bitCount_0f7a4 17 = .ok (.iushr, 1) := by decide +kernel
theorem dJ6_bitCount_0f7a4_18 : decode cJ6_bitCount_0f7a4 18 = .ok (.ldc_w 266, 3) := by decide +kernel
theorem dJ6_bitCount_0f7a4_21 : decode cJ6_bitCount_0f7a4 21 = .ok (.iand, 1) := by decide +kernel
theorem dJ6_bitCount_0f7a4_22 : decode cJ6_bitCount_0f7a4 22 = .ok (.iadd, 1) := by decide +kernel
theorem dJ6_bitCount_0f7a4_23 : decode cJ6_bitCount_0f7a4 23 = .ok (.istore_n 0, 1) := by decide +kernel
theorem dJ6_bitCount_0f7a4_24 : decode cJ6_bitCount_0f7a4 24 = .ok (.iload_n 0, 1) := by decide +kernel
theorem dJ6_bitCount_0f7a4_25 : decode cJ6_bitCount_0f7a4 25 = .ok (.iload_n 0, 1) := by decide +kernel
theorem dJ6_bitCount_0f7a4_26 : decode cJ6_bitCount_0f7a4 26 = .ok (.iconst 4, 1) := by decide +kernel
theorem dJ6_bitCount_0f7a4_27 : decode cJ6_bitCount_0f7a4 27 = .ok (.iushr, 1) := by decide +kernel
theorem dJ6_bitCount_0f7a4_28 : decode cJ6_bitCount_0f7a4 28 = .ok (.iadd, 1) := by decide +kernel
theorem dJ6_bitCount_0f7a4_29 : decode cJ6_bitCount_0f7a4 29 = .ok (.ldc_w 267, 3) := by decide +kernel
theorem dJ6_bitCount_0f7a4_32 : decode cJ6_bitCount_0f7a4 32 = .ok (.iand, 1) := by decide +kernel
theorem dJ6_bitCount_0f7a4_33 : decode cJ6_bitCount_0f7a4 33 = .ok (.istore_n 0, 1) := by decide +kernel
theorem dJ6_bitCount_0f7a4_34 : decode cJ6_bitCount_0f7a4 34 = .ok (.iload_n 0, 1) := by decide +kernel
theorem dJ6_bitCount_0f7a4_35 : decode cJ6_bitCount_0f7a4 35 = .ok (.iload_n 0, 1) := by decide +kernel
theorem dJ6_bitCount_0f7a4_36 : decode cJ6_bitCount_0f7a4 36 = .ok (.bipush 8, 2) := by decide +kernel
theorem dJ6_bitCount_0f7a4_38 : decode cJ6_bitCount_0f7a4 38 = .ok (.iushr, 1) := by decide +kernel
theorem dJ6_bitCount_0f7a4_39 : decode cJ6_bitCount_0f7a4 39 = .ok (.iadd, 1) := by decide +kernel
theorem dJ6_bitCount_0f7a4_40 : decode cJ6_bitCount_0f7a4 40 = .ok (.istore_n 0, 1) := by decide +kernel
theorem dJ6_bitCount_0f7a4_41 : decode cJ6_bitCount_0f7a4 41 = .ok (.iload_n 0, 1) := by decide +kernel
theorem dJ6_bitCount_0f7a4_42 : decode cJ6_bitCount_0f7a4 42 = .ok (.iload_n 0, 1) := by decide +kernel
theorem dJ6_bitCount_0f7a4_43 : decode cJ6_bitCount_0f7a4 43 = .ok (.bipush 16, 2) := by decide +kernel
theorem dJ6_bitCount_0f7a4_45 : decode cJ6_bitCount_0f7a4 45 = .ok (.iushr, 1) := by decide +kernel
theorem dJ6_bitCount_0f7a4_46 : decode cJ6_bitCount_0f7a4 46 = .ok (.iadd, 1) := by decide +kernel
theorem dJ6_bitCount_0f7a4_47 : decode cJ6_bitCount_0f7a4 47 = .ok (.istore_n 0, 1) := by decide +kernel
theorem dJ6_bitCount_0f7a4_48 : decode cJ6_bitCount_0f7a4 48 = .ok (.iload_n 0, 1) := by decide +kernel
theorem dJ6_bitCount_0f7a4_49 : decode cJ6_bitCount_0f7a4 49 = .ok (.bipush 63, 2) := by decide +kernel
theorem dJ6_bitCount_0f7a4_51 : decode cJ6_bitCount_0f7a4 51 = .ok (.iand, 1) := by decide +kernel
theorem dJ6_bitCount_0f7a4_52 : decode cJ6_bitCount_0f7a4 52 = .ok (.ireturn, 1) := by decide +kernel
theorem dJ9_max_7cf53_0 : decode cJ9_max_7cf53 0 = .ok (.iload_n 0, 1) := by decide +kernel
theorem dJ9_max_7cf53_1 : decode cJ9_max_7cf53 1 = .ok (.iload_n 1, 1) := by decide +kernel
theorem dJ9_max_7cf53_2 : decode cJ9_max_7cf53 2 = .ok (.if_icmp .lt 7, 3) := by decide +kernel
theorem dJ9_max_7cf53_5 : decode cJ9_max_7cf53 5 = .ok (.iload_n 0, 1) := by decide +kernel
theorem dJ9_max_7cf53_6 : decode cJ9_max_7cf53 6 = .ok (.goto 4, 3) := by decide +kernel
theorem dJ9_max_7cf53_9 : decode cJ9_max_7cf53 9 = .ok (.iload_n 1, 1) := by decide +kernel
theorem dJ9_max_7cf53_10 : decode cJ9_max_7cf53 10 = .ok (.ireturn, 1) := by decide +kernel
theorem dJ9_min_7cf53_0 : decode cJ9_min_7cf53 0 = .ok (.iload_n 0, 1) := by decide +kernel
theorem dJ9_min_7cf53_1 : decode cJ9_min_7cf53 1 = .ok (.iload_n 1, 1) := by decide +kernel
theorem dJ9_min_7cf53_2 : decode cJ9_min_7cf53 2 = .ok (.if_icmp .gt 7, 3) := by decide +kernel
theorem dJ9_min_7cf53_5 : decode cJ9_min_7cf53 5 = .ok (.iload_n 0, 1) := by decide +kernel
theorem dJ9_min_7cf53_6 : decode cJ9_min_7cf53 6 = .ok (.goto 4, 3) := by decide +kernel
theorem dJ9_min_7cf53_9 : decode cJ9_min_7cf53 9 = .ok (.iload_n 1, 1) := by decide +kernel
theorem dJ9_min_7cf53_10 : decode cJ9_min_7cf53 10 = .ok (.ireturn, 1) := by decide +kernel
theorem dJ0_length_8abf5_0 : decode cJ0_length_8abf5 0 = .ok (.aload_n 0, 1) := by decide +kernel
theorem dJ0_length_8abf5_1 : decode cJ0_length_8abf5 1 = .ok (.getfield 9, 3) := by decide +kernel
theorem dJ0_length_8abf5_4 : decode cJ0_length_8abf5 4 = .ok (.arraylength, 1) := by decide +kernel
theorem dJ0_length_8abf5_5 : decode cJ0_length_8abf5 5 = .ok (.aload_n 0, 1) := by decide +kernel
theorem dJ0_length_8abf5_6 : decode cJ0_length_8abf5 6 = .ok (.invokevirtual 335, 3) := by decide +kernel
theorem dJ0_length_8abf5_9 : decode cJ0_length_8abf5 9 = .ok (.ishr, 1) := by decide +kernel
theorem dJ0_length_8abf5_10 : decode cJ0_length_8abf5 10 = .ok (.ireturn, 1) := by decide +kernel
theorem dJ0_charAt_5068e_0 : decode cJ0_charAt_5068e 0 = .ok (.aload_n 0, 1) := by decide +kernel
theorem dJ0_charAt_5068e_1 : decode cJ0_charAt_5068e 1 = .ok (.invokevirtual 492, 3) := by decide +kernel
theorem dJ0_charAt_5068e_4 : decode cJ0_charAt_5068e 4 = .ok (.ifCond .eq 12, 3) := by decide +kernel
theorem dJ0_charAt_5068e_7 : decode cJ0_charAt_5068e 7 = .ok (.aload_n 0, 1) := by decide +kernel
theorem dJ0_charAt_5068e_8 : decode cJ0_charAt_5068e 8 = .ok (.getfield 9, 3) := by decide +kernel
theorem dJ0_charAt_5068e_11 : decode cJ0_charAt_5068e 11 = .ok (.iload_n 1, 1) := by decide +kernel
theorem dJ0_charAt_5068e_12 : decode cJ0_charAt_5068e 12 = .ok (.invokestatic 495, 3) := by decide +kernel
theorem dJ0_charAt_5068e_15 : decode cJ0_charAt_5068e 15 = .ok (.ireturn, 1) := by decide +kernel
theorem dJ0_charAt_5068e_16 : decode cJ0_charAt_5068e 16 = .ok (.aload_n 0, 1) := by decide +kernel
theorem dJ0_charAt_5068e_17 : decode cJ0_charAt_5068e 17 = .ok (.getfield 9, 3) := by decide +kernel
theorem dJ0_charAt_5068e_20 : decode cJ0_charAt_5068e 20 = .ok (.iload_n 1, 1) := by decide +kernel
theorem dJ0_charAt_5068e_21 : decode cJ0_charAt_5068e 21 = .ok (.invokestatic 498, 3) := by decide +kernel
theorem dJ0_charAt_5068e_24 : decode cJ0_charAt_5068e 24 = .ok (.ireturn, 1) := by decide +kernel
theorem dJ0_coder_7d493_0 : decode cJ0_coder_7d493 0 = .ok (.getstatic 38, 3) := by decide +kernel
theorem dJ0_coder_7d493_3 : decode cJ0_coder_7d493 3 = .ok (.ifCond .eq 10, 3) := by decide +kernel
theorem dJ0_coder_7d493_6 : decode cJ0_coder_7d493 6 = .ok (.aload_n 0, 1) := by decide +kernel
theorem dJ0_coder_7d493_7 : decode cJ0_coder_7d493 7 = .ok (.getfield 15, 3) := by decide +kernel
theorem dJ0_coder_7d493_10 : decode cJ0_coder_7d493 10 = .ok (.goto 4, 3) := by decide +kernel
theorem dJ0_coder_7d493_13 : decode cJ0_coder_7d493 13 = .ok (.iconst 1, 1) := by decide +kernel
theorem dJ0_coder_7d493_14 : decode cJ0_coder_7d493 14 = .ok (.ireturn, 1) := by decide +kernel
theorem dJ0_isLatin1_aae02_0 : decode cJ0_isLatin1_aae02 0 = .ok (.getstatic 38, 3) := by decide +kernel
theorem dJ0_isLatin1_aae02_3 : decode cJ0_isLatin1_aae02 3 = .ok (.ifCond .eq 14, 3) := by decide +kernel
theorem dJ0_isLatin1_aae02_6 : decode cJ0_isLatin1_aae02 6 = .ok (.aload_n 0, 1) := by decide +kernel
theorem dJ0_isLatin1_aae02_7 : decode cJ0_isLatin1_aae02 7 = .ok (.getfield 15, 3) := by decide +kernel
theorem dJ0_isLatin1_aae02_10 : decode cJ0_isLatin1_aae02 10 = .ok (.ifCond .ne 7, 3) := by decide +kernel
theorem dJ0_isLatin1_aae02_13 : decode cJ0_isLatin1_aae02 13 = .ok (.iconst 1, 1) := by decide +kernel
theorem dJ0_isLatin1_aae02_14 : decode cJ0_isLatin1_aae02 14 = .ok (.goto 4, 3) := by decide +kernel
theorem dJ0_isLatin1_aae02_17 : decode cJ0_isLatin1_aae02 17 = .ok (.iconst 0, 1) := by decide +kernel
theorem dJ0_isLatin1_aae02_18 : decode cJ0_isLatin1_aae02 18 = .ok (.ireturn, 1) := by decide +kernel
theorem dJ0_checkIndex_df160_0 : decode cJ0_checkIndex_df160 0 = .ok (.iload_n 0, 1) := by decide +kernel
theorem dJ0_checkIndex_df160_1 : decode cJ0_checkIndex_df160 1 = .ok (.iload_n 1, 1) := by decide +kernel
theorem dJ0_checkIndex_df160_2 : decode cJ0_checkIndex_df160 2 = .ok (.getstatic 1053, 3) := by decide +kernel
theorem dJ0_checkIndex_df160_5 : decode cJ0_checkIndex_df160 5 = .ok (.invokestatic 1059, 3) := by decide +kernel
theorem dJ0_checkIndex_df160_8 : decode cJ0_checkIndex_df160 8 = .ok (.pop, 1) := by decide +kernel
theorem dJ0_checkIndex_df160_9 : decode cJ0_checkIndex_df160 9 = .ok (.return_, 1) := by decide +kernel
theorem dJ1_charAt_3b067_0 : decode cJ1_charAt_3b067 0 = .ok (.iload_n 1, 1) := by decide +kernel
theorem dJ1_charAt_3b067_1 : decode cJ1_charAt_3b067 1 = .ok (.aload_n 0, 1) := by decide +kernel
theorem dJ1_charAt_3b067_2 : decode cJ1_charAt_3b067 2 = .ok (.arraylength, 1) := by decide +kernel
theorem dJ1_charAt_3b067_3 : decode cJ1_charAt_3b067 3 = .ok (.invokestatic 9, 3) := by decide +kernel
theorem dJ1_charAt_3b067_6 : decode cJ1_charAt_3b067 6 = .ok (.aload_n 0, 1) := by decide +kernel
theorem dJ1_charAt_3b067_7 : decode cJ1_charAt_3b067 7 = .ok (.iload_n 1, 1) := by decide +kernel
theorem dJ1_charAt_3b067_8 : decode cJ1_charAt_3b067 8 = .ok (.baload, 1) := by decide +kernel
theorem dJ1_charAt_3b067_9 : decode cJ1_charAt_3b067 9 = .ok (.sipush 255, 3) := by decide +kernel
theorem dJ1_charAt_3b067_12 : decode cJ1_charAt_3b067 12 = .ok (.iand, 1) := by decide +kernel
theorem dJ1_charAt_3b067_13 : decode cJ1_charAt_3b067 13 = .ok (.i2c, 1) := by decide +kernel
theorem dJ1_charAt_3b067_14 : decode cJ1_charAt_3b067 14 = .ok (.ireturn, 1) := by decide +kernel
theorem dJ2_getChar_3b067_0 : decode cJ2_getChar_3b067 0 = .ok (.getstatic 44, 3) := by decide +kernel
theorem dJ2_getChar_3b067_3 : decode cJ2_getChar_3b067 3 = .ok (.ifCond .ne 25, 3) := by decide +kernel
theorem dJ2_getChar_3b067_6 : decode cJ2_getChar_3b067 6 = .ok (.iload_n 1, 1) := by decide +kernel
theorem dJ2_getChar_3b067_7 : decode cJ2_getChar_3b067 7 = .ok (.ifCond .lt 11, 3) := by decide +kernel
theorem dJ2_getChar_3b067_10 : decode cJ2_getChar_3b067 10 = .ok (.iload_n 1, 1) := by decide +kernel
theorem dJ2_getChar_3b067_11 : decode cJ2_getChar_3b067 11 = .ok (.aload_n 0, 1) := by decide +kernel
theorem dJ2_getChar_3b067_12 : decode cJ2_getChar_3b067 12 = .ok (.invokestatic 48, 3) := by decide +kernel
theorem dJ2_getChar_3b067_15 : decode cJ2_getChar_3b067 15 = .ok (.if_icmp .lt 13, 3) := by decide +kernel
theorem dJ2_getChar_3b067_18 : decode cJ2_getChar_3b067 18 = .ok (.new 52, 3) := by decide +kernel
theorem dJ2_getChar_3b067_21 : decode cJ2_getChar_3b067 21 = .ok (.dup, 1) := by decide +kernel
theorem dJ2_getChar_3b067_22 : decode cJ2_getChar_3b067 22 = .ok (.ldc 54, 2) := by decide +kernel
theorem dJ2_getChar_3b067_24 : decode cJ2_getChar_3b067 24 = .ok (.invokespecial 56, 3) := by decide +kernel
theorem dJ2_getChar_3b067_27 : decode cJ2_getChar_3b067 27 = .ok (.athrow, 1) := by decide +kernel
theorem dJ2_getChar_3b067_28 : decode cJ2_getChar_3b067 28 = .ok (.iload_n 1, 1) := by decide +kernel
theorem dJ2_getChar_3b067_29 : decode cJ2_getChar_3b067 29 = .ok (.iconst 1, 1) := by decide +kernel
theorem dJ2_getChar_3b067_30 : decode cJ2_getChar_3b067 30 = .ok (.ishl, 1) := by decide +kernel
theorem dJ2_getChar_3b067_31 : decode cJ2_getChar_3b067 31 = .ok (.istore_n 1, 1) := by decide +kernel
theorem dJ2_getChar_3b067_32 : decode cJ2_getChar_3b067 32 = .ok (.aload_n 0, 1) := by decide +kernel
theorem dJ2_getChar_3b067_33 : decode cJ2_getChar_3b067 33 = .ok (.iload_n 1, 1) := by decide +kernel
theorem dJ2_getChar_3b067_34 : decode cJ2_getChar_3b067 34 = .ok (.iinc 1 1, 3) := by decide +kernel
theorem dJ2_getChar_3b067_37 : decode cJ2_getChar_3b067 37 = .ok (.baload, 1) := by decide +kernel
theorem dJ2_getChar_3b067_38 : decode cJ2_getChar_3b067 38 = .ok (.sipush 255, 3) := by decide +kernel
theorem dJ2_getChar_3b067_41 : decode cJ2_getChar_3b067 41 = .ok (.iand, 1) := by decide +kernel
theorem dJ2_getChar_3b067_42 : decode cJ2_getChar_3b067 42 = .ok (.getstatic 59, 3) := by decide +kernel
theorem dJ2_getChar_3b067_45 : decode cJ2_getChar_3b067 45 = .ok (.ishl, 1) := by decide +kernel
theorem dJ2_getChar_3b067_46 : decode cJ2_getChar_3b067 46 = .ok (.aload_n 0, 1) := by decide +kernel
theorem dJ2_getChar_3b067_47 : decode cJ2_getChar_3b067 47 = .ok (.iload_n 1, 1) := by decide +kernel
theorem dJ2_getChar_3b067_48 : decode cJ2_getChar_3b067 48 = .ok (.baload, 1) := by decide +kernel
theorem dJ2_getChar_3b067_49 : decode cJ2_getChar_3b067 49 = .ok (.sipush 255, 3) := by decide +kernel
theorem dJ2_getChar_3b067_52 : decode cJ2_getChar_3b067 52 = .ok (.iand, 1) := by decide +kernel
theorem dJ2_getChar_3b067_53 : decode cJ2_getChar_3b067 53 = .ok (.getstatic 63, 3) := by decide +kernel
theorem dJ2_getChar_3b067_56 : decode cJ2_getChar_3b067 56 = .ok (.ishl, 1) := by decide +kernel
theorem dJ2_getChar_3b067_57 : decode cJ2_getChar_3b067 57 = .ok (.ior, 1) := by decide +kernel
theorem dJ2_getChar_3b067_58 : decode cJ2_getChar_3b067 58 = .ok (.i2c, 1) := by decide +kernel
theorem dJ2_getChar_3b067_59 : decode cJ2_getChar_3b067 59 = .ok (.ireturn, 1) := by decide +kernel
theorem dJ2_length_9d52b_0 : decode cJ2_length_9d52b 0 = .ok (.aload_n 0, 1) := by decide +kernel
theorem dJ2_length_9d52b_1 : decode cJ2_length_9d52b 1 = .ok (.arraylength, 1) := by decide +kernel
theorem dJ2_length_9d52b_2 : decode cJ2_length_9d52b 2 = .ok (.iconst 1, 1) := by decide +kernel
theorem dJ2_length_9d52b_3 : decode cJ2_length_9d52b 3 = .ok (.ishr, 1) := by decide +kernel
theorem dJ2_length_9d52b_4 : decode cJ2_length_9d52b 4 = .ok (.ireturn, 1) := by decide +kernel
theorem dJ2_charAt_3b067_0 : decode cJ2_charAt_3b067 0 = .ok (.iload_n 1, 1) := by decide +kernel
theorem dJ2_charAt_3b067_1 : decode cJ2_charAt_3b067 1 = .ok (.aload_n 0, 1) := by decide +kernel
theorem dJ2_charAt_3b067_2 : decode cJ2_charAt_3b067 2 = .ok (.invokestatic 67, 3) := by decide +kernel
theorem dJ2_charAt_3b067_5 : decode cJ2_charAt_3b067 5 = .ok (.aload_n 0, 1) := by decide +kernel
theorem dJ2_charAt_3b067_6 : decode cJ2_charAt_3b067 6 = .ok (.iload_n 1, 1) := by decide +kernel
theorem dJ2_charAt_3b067_7 : decode cJ2_charAt_3b067 7 = .ok (.invokestatic 71, 3) := by decide +kernel
theorem dJ2_charAt_3b067_10 : decode cJ2_charAt_3b067 10 = .ok (.ireturn, 1) := by decide +kernel
theorem dJ2_checkIndex_2214a_0 : decode cJ2_checkIndex_2214a 0 = .ok (.iload_n 0, 1) := by decide +kernel
theorem dJ2_checkIndex_2214a_1 : decode cJ2_checkIndex_2214a 1 = .ok (.aload_n 1, 1) := by decide +kernel
theorem dJ2_checkIndex_2214a_2 : decode cJ2_checkIndex_2214a 2 = .ok (.invokestatic 48, 3) := by decide +kernel
theorem dJ2_checkIndex_2214a_5 : decode cJ2_checkIndex_2214a 5 = .ok (.invokestatic 414, 3) := by decide +kernel
theorem dJ2_checkIndex_2214a_8 : decode cJ2_checkIndex_2214a 8 = .ok (.return_, 1) := by decide +kernel
theorem dJ7_fill_53178_0 : decode cJ7_fill_53178 0 = .ok (.iconst 0, 1) := by decide +kernel
theorem dJ7_fill_53178_1 : decode cJ7_fill_53178 1 = .ok (.istore_n 2, 1) := by decide +kernel
theorem dJ7_fill_53178_2 : decode cJ7_fill_53178 2 = .ok (.aload_n 0, 1) := by decide +kernel
theorem dJ7_fill_53178_3 : decode cJ7_fill_53178 3 = .ok (.arraylength, 1) := by decide +kernel
theorem dJ7_fill_53178_4 : decode cJ7_fill_53178 4 = .ok (.istore_n 3, 1) := by decide +kernel
theorem dJ7_fill_53178_5 : decode cJ7_fill_53178 5 = .ok (.iload_n 2, 1) := by decide +kernel
theorem dJ7_fill_53178_6 : decode cJ7_fill_53178 6 = .ok (.iload_n 3, 1) := by decide +kernel
theorem dJ7_fill_53178_7 : decode cJ7_fill_53178 7 = .ok (.if_icmp .ge 13, 3) := by decide +kernel
theorem dJ7_fill_53178_10 : decode cJ7_fill_53178 10 = .ok (.aload_n 0, 1) := by decide +kernel
theorem dJ7_fill_53178_11 : decode cJ7_fill_53178 11 = .ok (.iload_n 2, 1) := by decide +kernel
theorem dJ7_fill_53178_12 : decode cJ7_fill_53178 12 = .ok (.iload_n 1, 1) := by decide +kernel
theorem dJ7_fill_53178_13 : decode cJ7_fill_53178 13 = .ok (.iastore, 1) := by decide +kernel
theorem dJ7_fill_53178_14 : decode cJ7_fill_53178 14 = .ok (.iinc 2 1, 3) := by decide +kernel
theorem dJ7_fill_53178_17 : decode cJ7_fill_53178 17 = .ok (.goto (-12), 3) := by decide +kernel
theorem dJ7_fill_53178_20 : decode cJ7_fill_53178 20 = .ok (.return_, 1) := by decide +kernel
theorem dJ3_checkIndex_8e157_0 : decode cJ3_checkIndex_8e157 0 = .ok (.iload_n 0, 1) := by decide +kernel
theorem dJ3_checkIndex_8e157_1 : decode cJ3_checkIndex_8e157 1 = .ok (.ifCond .lt 8, 3) := by decide +kernel
theorem dJ3_checkIndex_8e157_4 : decode cJ3_checkIndex_8e157 4 = .ok (.iload_n 0, 1) := by decide +kernel
theorem dJ3_checkIndex_8e157_5 : decode cJ3_checkIndex_8e157 5 = .ok (.iload_n 1, 1) := by decide +kernel
theorem dJ3_checkIndex_8e157_6 : decode cJ3_checkIndex_8e157 6 = .ok (.if_icmp .lt 10, 3) := by decide +kernel
theorem dJ3_checkIndex_8e157_9 : decode cJ3_checkIndex_8e157 9 = .ok (.aload_n 2, 1) := by decide +kernel
theorem dJ3_checkIndex_8e157_10 : decode cJ3_checkIndex_8e157 10 = .ok (.iload_n 0, 1) := by decide +kernel
theorem dJ3_checkIndex_8e157_11 : decode cJ3_checkIndex_8e157 11 = .ok (.iload_n 1, 1) := by decide +kernel
theorem dJ3_checkIndex_8e157_12 : decode cJ3_checkIndex_8e157 12 = .ok (.invokestatic 95, 3) := by decide +kernel
theorem dJ3_checkIndex_8e157_15 : decode cJ3_checkIndex_8e157 15 = .ok (.athrow, 1) := by decide +kernel
theorem dJ3_checkIndex_8e157_16 : decode cJ3_checkIndex_8e157 16 = .ok (.iload_n 0, 1) := by decide +kernel
theorem dJ3_checkIndex_8e157_17 : decode cJ3_checkIndex_8e157 17 = .ok (.ireturn, 1) := by decide +kernel
end
section
-- THE WORLD: one fixed list of cells, at addresses that are variables; all ints of it in one function h (cell, place), all longs in g
abbrev zj_H : Type := Nat → Nat → Int32
abbrev zj_G : Type := Nat → Nat → Int64
/-- tables of the classes; the cells' addresses; the array classes; String constants: their cells, their bytes -/
abbrev zj_E : Type := va_G × (Nat → Nat) × (Nat → ClassId) × (Nat → Nat) × (Nat → Nat)
abbrev zj_Sh : Type := (Nat × List (Nat ⊕ Bool)) ⊕ (Nat × Nat)
abbrev zj_cl : List vw_C := [(RX0, TX0, 10), (RX1, TX1, 5), (RX2, TX2, 5), (RX3, TX3, 3), (RX4, TX4, 9), (RX5, TX5, 2), (RX6, TX6, 12), (RX7, TX7, 7), (RX8, TX8, 28)]
def zj_told (a : Nat) : zj_Sh := .inl (6, [.inr false, .inr false, .inr false, .inr false, .inr false, .inr false, .inr false, .inr false, .inr false, .inl (a + 1), .inl (a + 2), .inl (a + 3)])
def zj_dock (a : Nat) : zj_Sh := .inl (1, [.inr false, .inr false, .inl (a + 1), .inl (a + 2), .inl (a + 3)])
def zj_court (a : Nat) : zj_Sh := .inl (0, [.inl 8, .inl (a + 1), .inl (a + 5), .inl (a + 6), .inl (a + 7), .inl (a + 8), .inl (a + 9), .inr false, .inr false, .inr false])
def zj_found : zj_Sh := .inl (2, [.inr false, .inr false, .inr false, .inr false, .inr false])
def zj_arr (n : Nat) : zj_Sh := .inr (0, n)
/-- the cells: 0 the object, 1 its tape, 3 the reader, 4 its draft, 8 told, 12 the court, 22 ANEW's court, 32 the history, 78 the reference, 88 the law's own longs -/
def zj_shL : List zj_Sh := [.inl (7, [.inl 1, .inl 3, .inl 8, .inl 12, .inl 22, .inl 32, .inr false]), .inl (5, [.inl 2, .inr false]), .inr (1, 540),
  .inl (4, [.inl 1, .inl 4, .inr false, .inr false, .inr false, .inr false, .inr false, .inr false, .inr false]), zj_told 4, zj_arr 9, zj_arr 14, zj_arr 14, zj_told 8, zj_arr 9, zj_arr 14, zj_arr 14,
  zj_court 12, zj_dock 13, zj_arr 14, zj_arr 14, zj_arr 14, zj_found, zj_arr 81, zj_arr 9, zj_arr 84, zj_arr 84,
  zj_court 22, zj_dock 23, zj_arr 14, zj_arr 14, zj_arr 14, zj_found, zj_arr 81, zj_arr 9, zj_arr 84, zj_arr 84,
  .inl (3, [.inl 33, .inr false, .inr false]), .inr (3, 11),
  zj_dock 34, zj_arr 14, zj_arr 14, zj_arr 14, zj_dock 38, zj_arr 14, zj_arr 14, zj_arr 14, zj_dock 42, zj_arr 14, zj_arr 14, zj_arr 14, zj_dock 46, zj_arr 14, zj_arr 14, zj_arr 14,
  zj_dock 50, zj_arr 14, zj_arr 14, zj_arr 14, zj_dock 54, zj_arr 14, zj_arr 14, zj_arr 14, zj_dock 58, zj_arr 14, zj_arr 14, zj_arr 14, zj_dock 62, zj_arr 14, zj_arr 14, zj_arr 14,
  zj_dock 66, zj_arr 14, zj_arr 14, zj_arr 14, zj_dock 70, zj_arr 14, zj_arr 14, zj_arr 14, zj_dock 74, zj_arr 14, zj_arr 14, zj_arr 14,
  .inl (8, [.inr false, .inl 79, .inr false, .inr false, .inr false, .inr false, .inr false, .inr false, .inr false, .inr false, .inr true, .inl 80, .inl 81, .inl 82, .inl 83, .inl 84, .inl 85, .inr false, .inl 86, .inl 87, .inr false, .inr false, .inr false, .inr false, .inr false, .inr false, .inr false, .inr false]), zj_arr 540, zj_arr 89, zj_arr 89, zj_arr 89, zj_arr 890, zj_arr 89, zj_arr 89, zj_arr 84, zj_arr 84, .inr (2, 1)]
def zj_at (i : Nat) (sh : zj_Sh) : Prop := zj_shL[i]? = some sh
def zj_fv (E : zj_E) (h : zj_H) (g : zj_G) (i k : Nat) (f : Nat ⊕ Bool) : Value := match f with
  | .inl j => .ref (E.2.1 j)
  | .inr false => .int (h i k)
  | .inr true => .long (g i k)
def zj_ent (E : zj_E) (h : zj_H) (g : zj_G) (i : Nat) (sh : zj_Sh) : va_E := match sh with
  | .inl (ci, fs) => .inr (ci, fs.mapIdx (zj_fv E h g i))
  | .inr (3, n) => .inl (E.2.2.1 3, n, .inr (.inr (.inr (.inr (fun k => some (E.2.1 (34 + 4 * k)))))))
  | .inr (2, n) => .inl (E.2.2.1 2, n, .inr (.inl (g i)))
  | .inr (kd, n) => .inl (E.2.2.1 kd, n, .inl (h i))
def zj_ws (E : zj_E) (h : zj_H) (g : zj_G) : va_W := zj_shL.mapIdx (fun i sh => (E.2.1 i, zj_ent E h g i sh))
def zj_tys (E : zj_E) : List (ClassId × FieldType) := [(E.2.2.1 0, .int), (E.2.2.1 1, .byte), (E.2.2.1 2, .long), (E.2.2.1 3, .object RX1)]
/-- a whole cell of ints anew; a whole cell of longs anew -/
def zj_s (h : zj_H) (i : Nat) (f : Nat → Int32) : zj_H := fun a => if a = i then f else h a
def zj_sg (g : zj_G) (i : Nat) (f : Nat → Int64) : zj_G := fun a => if a = i then f else g a
theorem zj_s_eq (h : zj_H) (i : Nat) (f : Nat → Int32) : zj_s h i f i = f := if_pos rfl
theorem zj_s_ne (h : zj_H) {i a : Nat} (f : Nat → Int32) (n : a ≠ i) : zj_s h i f a = h a := if_neg n
theorem zj_s_s (h : zj_H) (i : Nat) (f f' : Nat → Int32) : zj_s (zj_s h i f) i f' = zj_s h i f' := by
  funext a; unfold zj_s; split <;> rfl
theorem zj_s_self (h : zj_H) (i : Nat) : zj_s h i (h i) = h := by
  funext a; unfold zj_s; split
  · next e => rw [e]
  · rfl
theorem zj_s_comm (h : zj_H) {i j : Nat} (f f' : Nat → Int32) (n : i ≠ j) : zj_s (zj_s h i f) j f' = zj_s (zj_s h j f') i f := by
  funext a; unfold zj_s; by_cases e : a = j
  · by_cases e2 : a = i
    · exact absurd (e2.symm.trans e) n
    · simp [e, e2, Ne.symm n]
  · by_cases e2 : a = i
    · subst e2; simp [n]
    · simp [e, e2]
theorem zj_sg_eq (h : zj_G) (i : Nat) (f : Nat → Int64) : zj_sg h i f i = f := if_pos rfl
theorem zj_sg_ne (h : zj_G) {i a : Nat} (f : Nat → Int64) (n : a ≠ i) : zj_sg h i f a = h a := if_neg n
theorem zj_ws_get (E : zj_E) (h : zj_H) (g : zj_G) {i : Nat} {sh : zj_Sh} (hs : zj_at i sh) : (zj_ws E h g)[i]? = some (E.2.1 i, zj_ent E h g i sh) := by
  unfold zj_ws; rw [List.getElem?_mapIdx, hs]; rfl
theorem zj_ent_s {E : zj_E} {h h' : zj_H} {g g' : zj_G} {i : Nat} (e1 : h' i = h i) (e2 : g' i = g i) (sh : zj_Sh) : zj_ent E h' g' i sh = zj_ent E h g i sh := by
  have e3 : zj_fv E h' g' i = zj_fv E h g i := by
    funext k f; unfold zj_fv; rw [e1, e2]
  unfold zj_ent; rw [e3, e1, e2]
theorem zj_ws_set (E : zj_E) (h h' : zj_H) (g g' : zj_G) {i : Nat} {sh : zj_Sh} (hs : zj_at i sh) (e1 : ∀ a, a ≠ i → h' a = h a) (e2 : ∀ a, a ≠ i → g' a = g a) : (zj_ws E h g).set i (E.2.1 i, zj_ent E h' g' i sh) = zj_ws E h' g' := by
  have hi : i < zj_shL.length := (List.getElem?_eq_some_iff.mp hs).1
  apply List.ext_getElem?
  intro a
  rw [List.getElem?_set]
  by_cases ea : i = a
  · subst ea
    have hl : i < (zj_ws E h g).length := by unfold zj_ws; rw [List.length_mapIdx]; exact hi
    rw [if_pos rfl, if_pos hl, zj_ws_get E h' g' hs]
  · rw [if_neg ea]
    unfold zj_ws
    rw [List.getElem?_mapIdx, List.getElem?_mapIdx]
    cases hsh : zj_shL[a]? with
    | none => rfl
    | some sh2 =>
      show some (E.2.1 a, zj_ent E h g a sh2) = some (E.2.1 a, zj_ent E h' g' a sh2)
      rw [zj_ent_s (e1 a (Ne.symm ea)) (e2 a (Ne.symm ea))]
theorem zj_D_any {E : zj_E} {A : Nat → Prop} {h h' : zj_H} {g g' : zj_G} (hD : va_D A (zj_ws E h g)) : va_D A (zj_ws E h' g') := by
  have key : ∀ (k : Nat) (q : Nat × va_E), (zj_ws E h' g')[k]? = some q → ∃ q2, (zj_ws E h g)[k]? = some q2 ∧ q2.1 = q.1 := by
    intro k q hq
    unfold zj_ws at hq ⊢
    rw [List.getElem?_mapIdx] at hq ⊢
    cases hsh : zj_shL[k]? with
    | none => rw [hsh] at hq; cases hq
    | some sh => rw [hsh] at hq; cases hq; exact ⟨_, rfl, rfl⟩
  refine ⟨fun i j p q hp hq e => ?_, fun k q hq => ?_⟩
  · obtain ⟨p2, a1, a2⟩ := key i p hp
    obtain ⟨q2, b1, b2⟩ := key j q hq
    exact hD.1 i j p2 q2 a1 b1 (by rw [a2, b2]; exact e)
  · obtain ⟨q2, b1, b2⟩ := key k q hq
    rw [← b2]; exact hD.2 k q2 b1
theorem zj_A_any {E : zj_E} {h h' : zj_H} {g g' : zj_G} {sz : Nat} : va_A (zj_ws E h g) sz = va_A (zj_ws E h' g') sz := by
  have key : ∀ (h h' : zj_H) (g g' : zj_G) (q : Nat), va_A (zj_ws E h g) sz q → va_A (zj_ws E h' g') sz q := by
    intro h h' g g' q hq
    rcases hq with ⟨k, e, hk⟩ | hk
    · left
      unfold zj_ws at hk ⊢
      rw [List.getElem?_mapIdx] at hk
      cases hsh : zj_shL[k]? with
      | none => rw [hsh] at hk; cases hk
      | some sh =>
        rw [hsh] at hk; cases hk
        exact ⟨k, zj_ent E h' g' k sh, by rw [List.getElem?_mapIdx, hsh]; rfl⟩
    · exact Or.inr hk
  funext q
  exact propext ⟨key h h' g g' q, key h' h g' g q⟩
-- THE WORDS
def zj_tbl : List Cond := lw_tbl.filter goodWord
/-- names that hold beside the tables' words: nest mates; String constants -/
def zj_nest : List (String × Nat × MethodName × String) := [(RX4, 131, yX7_has, RX7), (RX6, 64, yX7_has, RX7), (RX0, 62, yX7_has, RX7), (RX0, 92, yX7_pairPlace, RX7)]
def zj_slen : List Nat := [5, 5, 6, 4, 3]
def zj_sbyt : List (List Int32) := [[99, 111, 117, 114, 116], [106, 117, 100, 103, 101], [115, 101, 110, 105, 111, 114], [99, 97, 115, 101], [110, 111, 116]]
def zj_skey : List (Nat × String) := [(78, "court"), (56, "judge"), (65, "senior"), (70, "case"), (118, "not")]
def zj_xkey : List (Nat × String) := [(119, "no such judge"), (150, "nothing such is told of a judge"), (155, "no such case"), (172, "nothing such is told of a case")]
/-- statics that nobody writes, and the texts of what the class throws -/
def zj_Y (A : Nat → Prop) (U : State) (H : Heap) : Prop :=
  va_Z "java/lang/String" "COMPACT_STRINGS" "Z" (.int 1) A U H ∧ va_Zq "jdk/internal/util/Preconditions" "SIOOBE_FORMATTER" "Ljava/util/function/BiFunction;" A U H ∧ vx_Zq Bundle.tN "UNASSIGNED_STACK" Bundle.steD A U H ∧ vx_Zq Bundle.tN "SUPPRESSED_SENTINEL" Bundle.listD A U H ∧ ∀ q ∈ zj_xkey, ∃ sa, vk_R RX7 q.1 q.2 sa U
def zj_X (E : zj_E) (A : Nat → Prop) (U : State) (H : Heap) : Prop :=
  (∀ q ∈ zj_nest, va_Nw (.methodLinkNest q.1 q.2.1 q.2.2.1 q.2.2.2) U) ∧ (∀ (i : Nat) (q : Nat × String), zj_skey[i]? = some q → vk_R RX4 q.1 q.2 (E.2.2.2.1 i) U) ∧ vk_S 5 zj_slen zj_sbyt E.2.2.2.1 E.2.2.2.2 A U H ∧ zj_Y A U H
theorem zj_X.warm {E : zj_E} {A B : Nat → Prop} {s U : State} {H H1 : Heap} (hX : zj_X E A s H) (hW : s.WarmedH U.vm) (hAB : ∀ q, B q → A q) (hq : ∀ a : Nat, a < H.size → ¬ A a → H1[a]? = H[a]?) : zj_X E B U H1 := by
  obtain ⟨x1, x2, x3, y1, y2, y3, y4, y5⟩ := hX
  exact ⟨fun q h => (x1 q h).warmM hW, fun i q h => (x2 i q h).warm hW, ((x3.kept hq).narrow hAB).moved hW.alike, ((y1.kept hq).narrow hAB).moved hW.alike, ((y2.kept hq).narrow hAB).moved hW.alike, ((y3.kept hq).narrow hAB).moved hW.alike, ((y4.kept hq).narrow hAB).moved hW.alike, fun q h => by
    obtain ⟨sa, hsa⟩ := y5 q h
    exact ⟨sa, hsa.warm hW⟩⟩
theorem zj_X.blind {E : zj_E} {A : Nat → Prop} {U : State} {H : Heap} (g : JFrame) (mk : MethodId) (a : Array Value) (hX : zj_X E A U H) : zj_X E A (U.calling g mk a) H := by
  obtain ⟨x1, x2, x3, y1, y2, y3, y4, y5⟩ := hX
  exact ⟨fun q h => (x1 q h).same rfl rfl, fun i q h => (x2 i q h).same rfl, x3.moved (u := U) (U := U.calling g mk a) (Vm.Alike.refl U.vm), y1.moved (u := U) (U := U.calling g mk a) (Vm.Alike.refl U.vm), y2.moved (u := U) (U := U.calling g mk a) (Vm.Alike.refl U.vm), y3.moved (u := U) (U := U.calling g mk a) (Vm.Alike.refl U.vm), y4.moved (u := U) (U := U.calling g mk a) (Vm.Alike.refl U.vm), fun q h => by
    obtain ⟨sa, hsa⟩ := y5 q h
    exact ⟨sa, hsa.same rfl⟩⟩
-- THE JUDGEMENT: the machine at a place of a method, over the world
abbrev zj_Γ : Type := Program × Launch × Env × Room × State × MethodId × Array Value × List Frame × Method × Code × (Nat → Prop) × (State → Prop) × Nat × Nat
def zj_J (E : zj_E) (Γ : zj_Γ) (nL pc : Nat) (L : List (Nat × Value)) (S : List Value) (h : zj_H) (g : zj_G) : Prop := match Γ with
  | (p, l, e, R, s, m, args, below, meth, c, A, Q, cells, slots) => ∀ (ls : Array Slot) (H : Heap) (locs : List Loc), lv_has ls nL L → va_P E.1 zj_cl (zj_ws E h g) H → va_S A s.heap H locs → W p l e R s m args below meth c H locs cells slots Q (F0 m pc ls S)
def zj_C (E : zj_E) (Γ : zj_Γ) (cc : ByteArray) (nL : Nat) (own : String) (d : Nat) : Prop := match Γ with
  | (p, _, _, R, s, m, args, _, _, c, A, _, cells, slots) => p.tables.exec = Jvm.exec ∧ c.code = cc ∧ c.maxLocals = nL ∧ s.vm.findClass own = some m.cls ∧ (∀ w ∈ zj_tbl, w.before args s = true) ∧ va_K E.1 zj_cl (zj_tys E) s ∧ (∀ q, s.heap.size ≤ q → A q) ∧ (∀ h g, va_D A (zj_ws E h g)) ∧ zj_X E A s s.heap ∧ d ≤ R.frames ∧ 35 * d ≤ R.locals ∧ cells ≤ R.cells ∧ slots ≤ R.slots
abbrev zj_P : Type := Option Value → zj_H → zj_G → Prop
def zj_room (d : Nat) : Room := { frames := d, cells := 0, slots := 0, locals := 35 * d }
def zj_Pre (E : zj_E) (sz : Nat) (h : zj_H) (g : zj_G) (U : State) : Prop := U.heap.size = sz ∧ va_P E.1 zj_cl (zj_ws E h g) U.heap ∧ va_K E.1 zj_cl (zj_tys E) U ∧ (∀ h g, va_D (fun _ => True) (zj_ws E h g)) ∧ zj_X E (va_A (zj_ws E h g) sz) U U.heap
def zj_Q (E : zj_E) (A : Nat → Prop) (Post : zj_P) : Array Value → State → Outcome → State → Prop := fun _ st oc t => (∃ (v : Option Value) (h' : zj_H) (g' : zj_G), oc = .returned v ∧ Post v h' g' ∧ va_P E.1 zj_cl (zj_ws E h' g') t.heap) ∧ va_F A st t
/-- A METHOD'S CONTRACT: from the world (h, g) with these arguments it returns, with what Post says of the answer and of the world then -/
def zj_M (l : Launch) (E : zj_E) (y : MethodName) (b : ByteArray) (mL : Nat) (ret : Option FieldType) (d : Nat) (As : List Value) (h : zj_H) (g : zj_G) (Post : zj_P) : Prop :=
  ∀ sz : Nat, Met l y (.code y b mL ret :: zj_tbl) (zj_room d) (va_Pc As (zj_Pre E sz h g)) (zj_Q E (va_A (zj_ws E h g) sz) Post) 0 0 (va_A (zj_ws E h g) sz)
/-- what a method's own end must show -/
def zj_R (E : zj_E) (Γ : zj_Γ) (ret : Option FieldType) (Post : zj_P) : Prop := match Γ with
  | (_, _, _, _, s, _, args, below, meth, _, A, Q, cells, slots) => meth.sig.returnType = ret ∧ meth.locks = false ∧ Q = MQ below (zj_Q E A Post) args s cells slots A
theorem zj_M.of {l : Launch} {E : zj_E} {y : MethodName} {b : ByteArray} {mL : Nat} {ret : Option FieldType} {d : Nat} {As : List Value} {h : zj_H} {g : zj_G} {Post : zj_P} (own : String) (hy : plainName y.cls = true) (ho : y.cls = own) (hlen : (lg_sl As).length ≤ mL)
    (body : ∀ Γ : zj_Γ, Γ.2.1 = l → zj_C E Γ b mL own d → zj_R E Γ ret Post → zj_J E Γ mL 0 (lv_args 0 As) [] h g) : zj_M l E y b mL ret d As h g Post := by
  intro sz
  refine Met.ofW (cc := b) (maxL := mL) (ret := ret) hy rfl ?_
  intro p e s m args below meth c s₁ B hml hv
  obtain ⟨rfl, hsz, hP, hK, hD0, hX⟩ := hv
  subst hsz
  have hts := atoms_spec (ws := (.code y b mL ret :: zj_tbl)) B.pre
  have hown : s.vm.findClass own = some m.cls := by rw [← ho]; exact findClass_of_methodNamed B.named
  have hD : ∀ h' g', va_D (va_A (zj_ws E h g) s.heap.size) (zj_ws E h' g') := fun h' g' => by
    rw [zj_A_any (h' := h') (g' := g')]
    exact (hD0 h' g').self (sz := s.heap.size)
  have hl := lv_entry As (n := mL) hlen
  rw [lg_entry_eq]
  exact body (p, l, e, zj_room d, s, m, As.toArray, below, meth, c, va_A (zj_ws E h g) s.heap.size, MQ below (zj_Q E (va_A (zj_ws E h g) s.heap.size) Post) As.toArray s 0 0 (va_A (zj_ws E h g) s.heap.size), 0, 0) rfl
    ⟨B.exec, B.bytes, hml, hown, fun w hw => hts w (List.mem_cons_of_mem _ hw), hK, fun q hq => Or.inr hq, hD, hX, Nat.le_refl _, Nat.le_refl _, Nat.le_refl _, Nat.le_refl _⟩
    ⟨B.returns, B.notSynchronized, rfl⟩ _ s.heap [] hl hP va_S.rf

section ZJ
variable {E : zj_E} {Γ : zj_Γ} {cc : ByteArray} {nL d pc : Nat} {own : String} {L : List (Nat × Value)} {S : List Value} {h : zj_H} {g : zj_G}

theorem zj_iconst (K : zj_C E Γ cc nL own d) {n : Int} {v : Int32} (hdg : decode cc pc = .ok (.iconst n, 1)) (hv : Int32.ofInt n = v) (k : zj_J E Γ nL (pc + 1) L (.int v :: S) h g) : zj_J E Γ nL pc L (S) h g := by
  obtain ⟨p, l, e, R, s, m, args, below, meth, c, A, Q, cells, slots⟩ := Γ
  obtain ⟨hx, hb, hml, hown, hts, hK, hA, hD, hX, hfr, hlo, hce, hsl⟩ := K
  intro ls H locs hl hP hS
  exact lv_iconst hx hb hdg hv (k ls H locs hl hP hS)
theorem zj_bipush (K : zj_C E Γ cc nL own d) {n : Int} {v : Int32} (hdg : decode cc pc = .ok (.bipush n, 2)) (hv : (Int8.ofInt n).toInt32 = v) (k : zj_J E Γ nL (pc + 2) L (.int v :: S) h g) : zj_J E Γ nL pc L (S) h g := by
  obtain ⟨p, l, e, R, s, m, args, below, meth, c, A, Q, cells, slots⟩ := Γ
  obtain ⟨hx, hb, hml, hown, hts, hK, hA, hD, hX, hfr, hlo, hce, hsl⟩ := K
  intro ls H locs hl hP hS
  exact lv_bipush hx hb hdg hv (k ls H locs hl hP hS)
theorem zj_sipush (K : zj_C E Γ cc nL own d) {n : Int} {v : Int32} (hdg : decode cc pc = .ok (.sipush n, 3)) (hv : (Int16.ofInt n).toInt32 = v) (k : zj_J E Γ nL (pc + 3) L (.int v :: S) h g) : zj_J E Γ nL pc L (S) h g := by
  obtain ⟨p, l, e, R, s, m, args, below, meth, c, A, Q, cells, slots⟩ := Γ
  obtain ⟨hx, hb, hml, hown, hts, hK, hA, hD, hX, hfr, hlo, hce, hsl⟩ := K
  intro ls H locs hl hP hS
  exact lv_sipush hx hb hdg hv (k ls H locs hl hP hS)
theorem zj_lconst (K : zj_C E Γ cc nL own d) {n : Fin 2} {v : Int64} (hdg : decode cc pc = .ok (.lconst n, 1)) (hv : Int64.ofNat (n : Nat) = v) (k : zj_J E Γ nL (pc + 1) L (.long v :: S) h g) : zj_J E Γ nL pc L (S) h g := by
  obtain ⟨p, l, e, R, s, m, args, below, meth, c, A, Q, cells, slots⟩ := Γ
  obtain ⟨hx, hb, hml, hown, hts, hK, hA, hD, hX, hfr, hlo, hce, hsl⟩ := K
  intro ls H locs hl hP hS
  exact lv_lconst hx hb hdg hv (k ls H locs hl hP hS)
theorem zj_ldc (K : zj_C E Γ cc nL own d) {index : Nat} {v : Int32} (hw : Jvm.Cond.constant own index v ∈ zj_tbl) (hdg : decode cc pc = .ok (.ldc index, 2)) (k : zj_J E Γ nL (pc + 2) L (.int v :: S) h g) : zj_J E Γ nL pc L (S) h g := by
  obtain ⟨p, l, e, R, s, m, args, below, meth, c, A, Q, cells, slots⟩ := Γ
  obtain ⟨hx, hb, hml, hown, hts, hK, hA, hD, hX, hfr, hlo, hce, hsl⟩ := K
  intro ls H locs hl hP hS
  exact lv_ldc hx hb hown (hts _ hw) hdg (k ls H locs hl hP hS)
theorem zj_ldcw (K : zj_C E Γ cc nL own d) {index : Nat} {v : Int32} (hw : Jvm.Cond.constant own index v ∈ zj_tbl) (hdg : decode cc pc = .ok (.ldc_w index, 3)) (k : zj_J E Γ nL (pc + 3) L (.int v :: S) h g) : zj_J E Γ nL pc L (S) h g := by
  obtain ⟨p, l, e, R, s, m, args, below, meth, c, A, Q, cells, slots⟩ := Γ
  obtain ⟨hx, hb, hml, hown, hts, hK, hA, hD, hX, hfr, hlo, hce, hsl⟩ := K
  intro ls H locs hl hP hS
  exact lv_ldcw hx hb hown (hts _ hw) hdg (k ls H locs hl hP hS)
theorem zj_ldc2 (K : zj_C E Γ cc nL own d) {index : Nat} {v : Int64} (hw : Jvm.Cond.constantLong own index v ∈ zj_tbl) (hdg : decode cc pc = .ok (.ldc2_w index, 3)) (k : zj_J E Γ nL (pc + 3) L (.long v :: S) h g) : zj_J E Γ nL pc L (S) h g := by
  obtain ⟨p, l, e, R, s, m, args, below, meth, c, A, Q, cells, slots⟩ := Γ
  obtain ⟨hx, hb, hml, hown, hts, hK, hA, hD, hX, hfr, hlo, hce, hsl⟩ := K
  intro ls H locs hl hP hS
  exact lv_ldc2 hx hb hown (hts _ hw) hdg (k ls H locs hl hP hS)
def zj_get : List (Nat × Value) → Nat → Option Value
  | [], _ => none
  | (j, v) :: t, i => cond (Nat.beq j i) (some v) (zj_get t i)
/-- the local i anew, the list kept in order; what stood there goes -/
def zj_ins : List (Nat × Value) → Nat → Value → List (Nat × Value)
  | [], i, v => [(i, v)]
  | (j, w) :: t, i, v => cond (Nat.blt i j) ((i, v) :: (j, w) :: t) (cond (Nat.beq j i) (zj_ins t i v) ((j, w) :: zj_ins t i v))
theorem zj_get_mem : ∀ {L : List (Nat × Value)} {i : Nat} {v : Value}, zj_get L i = some v → (i, v) ∈ L := by
  intro L
  induction L with
  | nil => intro i v h; cases h
  | cons q t ih =>
    intro i v h
    obtain ⟨j, w⟩ := q
    unfold zj_get at h
    cases hb : Nat.beq j i with
    | true =>
      rw [hb] at h
      have e : j = i := Nat.eq_of_beq_eq_true hb
      cases h; subst e; exact List.mem_cons_self
    | false => rw [hb] at h; exact List.mem_cons_of_mem _ (ih h)
/-- ascending: no place twice -/
def zj_asc : List (Nat × Value) → Bool
  | [] => true
  | [_] => true
  | (i, _) :: (j, w) :: t => Nat.blt i j && zj_asc ((j, w) :: t)
theorem zj_asc_lt : ∀ {t : List (Nat × Value)} {i : Nat} {v : Value}, zj_asc ((i, v) :: t) = true → ∀ q ∈ t, i < q.1 := by
  intro t
  induction t with
  | nil => intro i v _ q hq; cases hq
  | cons p t ih =>
    intro i v h q hq
    obtain ⟨j, w⟩ := p
    unfold zj_asc at h
    rw [Bool.and_eq_true] at h
    have hij : i < j := Nat.blt_eq.mp h.1
    rcases List.mem_cons.mp hq with rfl | hq
    · exact hij
    · exact Nat.lt_trans hij (ih h.2 q hq)
theorem zj_asc_tl {t : List (Nat × Value)} {q : Nat × Value} (h : zj_asc (q :: t) = true) : zj_asc t = true := by
  cases t with
  | nil => rfl
  | cons p t => obtain ⟨i, v⟩ := q; obtain ⟨j, w⟩ := p; unfold zj_asc at h; rw [Bool.and_eq_true] at h; exact h.2
theorem zj_ins_mem : ∀ {L : List (Nat × Value)} {i : Nat} {v : Value} {q : Nat × Value}, zj_asc L = true → q ∈ zj_ins L i v → q = (i, v) ∨ (q ∈ L ∧ q.1 ≠ i) := by
  intro L
  induction L with
  | nil => intro i v q _ h; exact Or.inl (List.mem_singleton.mp h)
  | cons p t ih =>
    intro i v q ha h
    obtain ⟨j, w⟩ := p
    unfold zj_ins at h
    cases hlt : Nat.blt i j with
    | true =>
      rw [hlt] at h
      have hij : i < j := Nat.blt_eq.mp hlt
      rcases List.mem_cons.mp h with h | h
      · exact Or.inl h
      · refine Or.inr ⟨h, ?_⟩
        rcases List.mem_cons.mp h with rfl | h2
        · exact fun e => by simp only at e; omega
        · have := zj_asc_lt ha q h2; omega
    | false =>
      rw [hlt] at h
      cases hb : Nat.beq j i with
      | true =>
        rw [hb] at h
        rcases ih (zj_asc_tl ha) h with h | h
        · exact Or.inl h
        · exact Or.inr ⟨List.mem_cons_of_mem _ h.1, h.2⟩
      | false =>
        rw [hb] at h
        rcases List.mem_cons.mp h with rfl | h
        · refine Or.inr ⟨List.mem_cons_self, fun e => ?_⟩
          have e : j = i := e
          rw [e] at hb
          have : Nat.beq i i = true := Nat.beq_refl i
          rw [this] at hb; cases hb
        · rcases ih (zj_asc_tl ha) h with h | h
          · exact Or.inl h
          · exact Or.inr ⟨List.mem_cons_of_mem _ h.1, h.2⟩
theorem zj_has_of {ls : Array Slot} {nL i : Nat} {v : Value} {L lv' : List (Nat × Value)} (ha : zj_asc L = true) (hc : ∀ q ∈ L, q.1 + 1 = i → q.2.category = 1) (hl : lv_has ls nL ((i, v) :: L.filter (fun q => !(q.1 == i) && !(q.1 + 1 == i && q.2.category == 2)))) : lv_has ls nL (zj_ins L i v) := by
  refine ⟨hl.1, hl.2.1, fun q hq => ?_⟩
  rcases zj_ins_mem ha hq with rfl | ⟨h1, h2⟩
  · exact hl.2.2 _ List.mem_cons_self
  · refine hl.2.2 q (List.mem_cons_of_mem _ (List.mem_filter.mpr ⟨h1, ?_⟩))
    by_cases e : q.1 + 1 = i
    · simp [h2, hc q h1 e]
    · simp [h2, e]
/-- no long stands in the locals: of these lists a store takes only its own place -/
def zj_one (L : List (Nat × Value)) : Bool := L.all (fun q => q.2.category == 1)
theorem zj_one_of {L : List (Nat × Value)} {i : Nat} (h : zj_one L = true) : ∀ q ∈ L, q.1 + 1 = i → q.2.category = 1 := fun q hq _ => by
  have := List.all_eq_true.mp h q hq; simpa using this

theorem zj_iload_n (K : zj_C E Γ cc nL own d) {k0 : Fin 4} {i : Nat} {x : Int32} (hdg : decode cc pc = .ok (.iload_n k0, 1)) (hi : (k0 : Nat) = i) (hv : zj_get L i = some (.int x)) (k : zj_J E Γ nL (pc + 1) L (.int x :: S) h g) : zj_J E Γ nL pc L (S) h g := by
  obtain ⟨p, l, e, R, s, m, args, below, meth, c, A, Q, cells, slots⟩ := Γ
  obtain ⟨hx, hb, hml, hown, hts, hK, hA, hD, hX, hfr, hlo, hce, hsl⟩ := K
  intro ls H locs hl hP hS
  exact lv_iload_n (i := i) hx hb hdg hi (hl.2.2 _ (zj_get_mem hv)) (k ls H locs hl hP hS)
theorem zj_iload (K : zj_C E Γ cc nL own d) {i : Nat} {x : Int32} (hdg : decode cc pc = .ok (.iload i, 2)) (hv : zj_get L i = some (.int x)) (k : zj_J E Γ nL (pc + 2) L (.int x :: S) h g) : zj_J E Γ nL pc L (S) h g := by
  obtain ⟨p, l, e, R, s, m, args, below, meth, c, A, Q, cells, slots⟩ := Γ
  obtain ⟨hx, hb, hml, hown, hts, hK, hA, hD, hX, hfr, hlo, hce, hsl⟩ := K
  intro ls H locs hl hP hS
  exact lv_iload hx hb hdg (hl.2.2 _ (zj_get_mem hv)) (k ls H locs hl hP hS)
theorem zj_lload_n (K : zj_C E Γ cc nL own d) {k0 : Fin 4} {i : Nat} {x : Int64} (hdg : decode cc pc = .ok (.lload_n k0, 1)) (hi : (k0 : Nat) = i) (hv : zj_get L i = some (.long x)) (k : zj_J E Γ nL (pc + 1) L (.long x :: S) h g) : zj_J E Γ nL pc L (S) h g := by
  obtain ⟨p, l, e, R, s, m, args, below, meth, c, A, Q, cells, slots⟩ := Γ
  obtain ⟨hx, hb, hml, hown, hts, hK, hA, hD, hX, hfr, hlo, hce, hsl⟩ := K
  intro ls H locs hl hP hS
  exact lv_lload_n (i := i) hx hb hdg hi (hl.2.2 _ (zj_get_mem hv)) (k ls H locs hl hP hS)
theorem zj_lload (K : zj_C E Γ cc nL own d) {i : Nat} {x : Int64} (hdg : decode cc pc = .ok (.lload i, 2)) (hv : zj_get L i = some (.long x)) (k : zj_J E Γ nL (pc + 2) L (.long x :: S) h g) : zj_J E Γ nL pc L (S) h g := by
  obtain ⟨p, l, e, R, s, m, args, below, meth, c, A, Q, cells, slots⟩ := Γ
  obtain ⟨hx, hb, hml, hown, hts, hK, hA, hD, hX, hfr, hlo, hce, hsl⟩ := K
  intro ls H locs hl hP hS
  exact lv_lload hx hb hdg (hl.2.2 _ (zj_get_mem hv)) (k ls H locs hl hP hS)
theorem zj_aload_n (K : zj_C E Γ cc nL own d) {k0 : Fin 4} {i : Nat} {x : Nat} (hdg : decode cc pc = .ok (.aload_n k0, 1)) (hi : (k0 : Nat) = i) (hv : zj_get L i = some (.ref x)) (k : zj_J E Γ nL (pc + 1) L (.ref x :: S) h g) : zj_J E Γ nL pc L (S) h g := by
  obtain ⟨p, l, e, R, s, m, args, below, meth, c, A, Q, cells, slots⟩ := Γ
  obtain ⟨hx, hb, hml, hown, hts, hK, hA, hD, hX, hfr, hlo, hce, hsl⟩ := K
  intro ls H locs hl hP hS
  exact lv_aload_n (i := i) hx hb hdg hi (hl.2.2 _ (zj_get_mem hv)) (k ls H locs hl hP hS)
theorem zj_aload (K : zj_C E Γ cc nL own d) {i : Nat} {x : Nat} (hdg : decode cc pc = .ok (.aload i, 2)) (hv : zj_get L i = some (.ref x)) (k : zj_J E Γ nL (pc + 2) L (.ref x :: S) h g) : zj_J E Γ nL pc L (S) h g := by
  obtain ⟨p, l, e, R, s, m, args, below, meth, c, A, Q, cells, slots⟩ := Γ
  obtain ⟨hx, hb, hml, hown, hts, hK, hA, hD, hX, hfr, hlo, hce, hsl⟩ := K
  intro ls H locs hl hP hS
  exact lv_aload hx hb hdg (hl.2.2 _ (zj_get_mem hv)) (k ls H locs hl hP hS)
theorem zj_istore_n (K : zj_C E Γ cc nL own d) {k0 : Fin 4} {i : Nat} {x : Int32} (hdg : decode cc pc = .ok (.istore_n k0, 1)) (hi : (k0 : Nat) = i) (hn : Nat.blt i nL = true) (ha : zj_asc L = true) (h1 : zj_one L = true) (k : zj_J E Γ nL (pc + 1) (zj_ins L i (.int x)) S h g) : zj_J E Γ nL pc L (.int x :: S) h g := by
  obtain ⟨p, l, e, R, s, m, args, below, meth, c, A, Q, cells, slots⟩ := Γ
  obtain ⟨hx, hb, hml, hown, hts, hK, hA, hD, hX, hfr, hlo, hce, hsl⟩ := K
  intro ls H locs hl hP hS
  exact lv_istore_n (i := i) hx hb hdg hi hl (Nat.blt_eq.mp hn) rfl (fun ls hl => k ls H locs (zj_has_of (lv' := []) ha (zj_one_of h1) hl) hP hS)
theorem zj_istore (K : zj_C E Γ cc nL own d) {i : Nat} {x : Int32} (hdg : decode cc pc = .ok (.istore i, 2)) (hn : Nat.blt i nL = true) (ha : zj_asc L = true) (h1 : zj_one L = true) (k : zj_J E Γ nL (pc + 2) (zj_ins L i (.int x)) S h g) : zj_J E Γ nL pc L (.int x :: S) h g := by
  obtain ⟨p, l, e, R, s, m, args, below, meth, c, A, Q, cells, slots⟩ := Γ
  obtain ⟨hx, hb, hml, hown, hts, hK, hA, hD, hX, hfr, hlo, hce, hsl⟩ := K
  intro ls H locs hl hP hS
  exact lv_istore hx hb hdg hl (Nat.blt_eq.mp hn) rfl (fun ls hl => k ls H locs (zj_has_of (lv' := []) ha (zj_one_of h1) hl) hP hS)
theorem zj_astore_n (K : zj_C E Γ cc nL own d) {k0 : Fin 4} {i : Nat} {x : Nat} (hdg : decode cc pc = .ok (.astore_n k0, 1)) (hi : (k0 : Nat) = i) (hn : Nat.blt i nL = true) (ha : zj_asc L = true) (h1 : zj_one L = true) (k : zj_J E Γ nL (pc + 1) (zj_ins L i (.ref x)) S h g) : zj_J E Γ nL pc L (.ref x :: S) h g := by
  obtain ⟨p, l, e, R, s, m, args, below, meth, c, A, Q, cells, slots⟩ := Γ
  obtain ⟨hx, hb, hml, hown, hts, hK, hA, hD, hX, hfr, hlo, hce, hsl⟩ := K
  intro ls H locs hl hP hS
  exact lv_astore_n (i := i) hx hb hdg hi hl (Nat.blt_eq.mp hn) rfl (fun ls hl => k ls H locs (zj_has_of (lv' := []) ha (zj_one_of h1) hl) hP hS)
theorem zj_astore (K : zj_C E Γ cc nL own d) {i : Nat} {x : Nat} (hdg : decode cc pc = .ok (.astore i, 2)) (hn : Nat.blt i nL = true) (ha : zj_asc L = true) (h1 : zj_one L = true) (k : zj_J E Γ nL (pc + 2) (zj_ins L i (.ref x)) S h g) : zj_J E Γ nL pc L (.ref x :: S) h g := by
  obtain ⟨p, l, e, R, s, m, args, below, meth, c, A, Q, cells, slots⟩ := Γ
  obtain ⟨hx, hb, hml, hown, hts, hK, hA, hD, hX, hfr, hlo, hce, hsl⟩ := K
  intro ls H locs hl hP hS
  exact lv_astore hx hb hdg hl (Nat.blt_eq.mp hn) rfl (fun ls hl => k ls H locs (zj_has_of (lv' := []) ha (zj_one_of h1) hl) hP hS)
theorem zj_iinc (K : zj_C E Γ cc nL own d) {i : Nat} {n : Int} {x v : Int32} (hdg : decode cc pc = .ok (.iinc i n, 3)) (hv : zj_get L i = some (.int x)) (hw : Int32.ofInt n = v) (hn : Nat.blt i nL = true) (ha : zj_asc L = true) (h1 : zj_one L = true) (k : zj_J E Γ nL (pc + 3) (zj_ins L i (.int (x + v))) S h g) : zj_J E Γ nL pc L S h g := by
  obtain ⟨p, l, e, R, s, m, args, below, meth, c, A, Q, cells, slots⟩ := Γ
  obtain ⟨hx, hb, hml, hown, hts, hK, hA, hD, hX, hfr, hlo, hce, hsl⟩ := K
  intro ls H locs hl hP hS
  obtain ⟨k9, hk9⟩ := List.getElem?_of_mem (zj_get_mem hv)
  exact lv_iinc (v := x + v) hx hb hdg hl hk9 (by rw [hw]) (Nat.blt_eq.mp hn) rfl (fun ls hl => k ls H locs (zj_has_of (lv' := []) ha (zj_one_of h1) hl) hP hS)
theorem zj_lstore (K : zj_C E Γ cc nL own d) {i : Nat} {x : Int64} (hdg : decode cc pc = .ok (.lstore i, 2)) (hn : Nat.blt (i + 1) nL = true) {L' : List (Nat × Value)} (hL : ∀ q ∈ L', q ∈ (i, Value.long x) :: L.filter (fun q => !(q.1 == i) && (!(q.1 == i + 1) && !(q.1 + 1 == i && q.2.category == 2)))) (k : zj_J E Γ nL (pc + 2) L' S h g) : zj_J E Γ nL pc L (.long x :: S) h g := by
  obtain ⟨p, l, e, R, s, m, args, below, meth, c, A, Q, cells, slots⟩ := Γ
  obtain ⟨hx, hb, hml, hown, hts, hK, hA, hD, hX, hfr, hlo, hce, hsl⟩ := K
  intro ls H locs hl hP hS
  exact lv_lstore hx hb hdg hl (Nat.blt_eq.mp hn) rfl (fun ls hl => k ls H locs ⟨hl.1, hl.2.1, fun q hq => hl.2.2 q (hL q hq)⟩ hP hS)
/-- fewer locals, in another order -/
theorem zj_less {L' : List (Nat × Value)} (hL : ∀ q ∈ L', q ∈ L) (k : zj_J E Γ nL pc L' S h g) : zj_J E Γ nL pc L S h g := by
  obtain ⟨p, l, e, R, s, m, args, below, meth, c, A, Q, cells, slots⟩ := Γ
  intro ls H locs hl hP hS
  exact k ls H locs ⟨hl.1, hl.2.1, fun q hq => hl.2.2 q (hL q hq)⟩ hP hS
theorem zj_iadd (K : zj_C E Γ cc nL own d) {x y : Int32} (hdg : decode cc pc = .ok (.iadd, 1)) (k : zj_J E Γ nL (pc + 1) L (.int (x + y) :: S) h g) : zj_J E Γ nL pc L (.int y :: .int x :: S) h g := by
  obtain ⟨p, l, e, R, s, m, args, below, meth, c, A, Q, cells, slots⟩ := Γ
  obtain ⟨hx, hb, hml, hown, hts, hK, hA, hD, hX, hfr, hlo, hce, hsl⟩ := K
  intro ls H locs hl hP hS
  exact lv_iadd hx hb hdg (k ls H locs hl hP hS)
theorem zj_isub (K : zj_C E Γ cc nL own d) {x y : Int32} (hdg : decode cc pc = .ok (.isub, 1)) (k : zj_J E Γ nL (pc + 1) L (.int (x - y) :: S) h g) : zj_J E Γ nL pc L (.int y :: .int x :: S) h g := by
  obtain ⟨p, l, e, R, s, m, args, below, meth, c, A, Q, cells, slots⟩ := Γ
  obtain ⟨hx, hb, hml, hown, hts, hK, hA, hD, hX, hfr, hlo, hce, hsl⟩ := K
  intro ls H locs hl hP hS
  exact lv_isub hx hb hdg (k ls H locs hl hP hS)
theorem zj_imul (K : zj_C E Γ cc nL own d) {x y : Int32} (hdg : decode cc pc = .ok (.imul, 1)) (k : zj_J E Γ nL (pc + 1) L (.int (x * y) :: S) h g) : zj_J E Γ nL pc L (.int y :: .int x :: S) h g := by
  obtain ⟨p, l, e, R, s, m, args, below, meth, c, A, Q, cells, slots⟩ := Γ
  obtain ⟨hx, hb, hml, hown, hts, hK, hA, hD, hX, hfr, hlo, hce, hsl⟩ := K
  intro ls H locs hl hP hS
  exact lv_imul hx hb hdg (k ls H locs hl hP hS)
theorem zj_iand (K : zj_C E Γ cc nL own d) {x y : Int32} (hdg : decode cc pc = .ok (.iand, 1)) (k : zj_J E Γ nL (pc + 1) L (.int (x &&& y) :: S) h g) : zj_J E Γ nL pc L (.int y :: .int x :: S) h g := by
  obtain ⟨p, l, e, R, s, m, args, below, meth, c, A, Q, cells, slots⟩ := Γ
  obtain ⟨hx, hb, hml, hown, hts, hK, hA, hD, hX, hfr, hlo, hce, hsl⟩ := K
  intro ls H locs hl hP hS
  exact lv_iand hx hb hdg (k ls H locs hl hP hS)
theorem zj_ior (K : zj_C E Γ cc nL own d) {x y : Int32} (hdg : decode cc pc = .ok (.ior, 1)) (k : zj_J E Γ nL (pc + 1) L (.int (x ||| y) :: S) h g) : zj_J E Γ nL pc L (.int y :: .int x :: S) h g := by
  obtain ⟨p, l, e, R, s, m, args, below, meth, c, A, Q, cells, slots⟩ := Γ
  obtain ⟨hx, hb, hml, hown, hts, hK, hA, hD, hX, hfr, hlo, hce, hsl⟩ := K
  intro ls H locs hl hP hS
  exact lv_ior hx hb hdg (k ls H locs hl hP hS)
theorem zj_ixor (K : zj_C E Γ cc nL own d) {x y : Int32} (hdg : decode cc pc = .ok (.ixor, 1)) (k : zj_J E Γ nL (pc + 1) L (.int (x ^^^ y) :: S) h g) : zj_J E Γ nL pc L (.int y :: .int x :: S) h g := by
  obtain ⟨p, l, e, R, s, m, args, below, meth, c, A, Q, cells, slots⟩ := Γ
  obtain ⟨hx, hb, hml, hown, hts, hK, hA, hD, hX, hfr, hlo, hce, hsl⟩ := K
  intro ls H locs hl hP hS
  exact lv_ixor hx hb hdg (k ls H locs hl hP hS)
theorem zj_ishl (K : zj_C E Γ cc nL own d) {x y : Int32} (hdg : decode cc pc = .ok (.ishl, 1)) (k : zj_J E Γ nL (pc + 1) L (.int (x <<< (y &&& 31)) :: S) h g) : zj_J E Γ nL pc L (.int y :: .int x :: S) h g := by
  obtain ⟨p, l, e, R, s, m, args, below, meth, c, A, Q, cells, slots⟩ := Γ
  obtain ⟨hx, hb, hml, hown, hts, hK, hA, hD, hX, hfr, hlo, hce, hsl⟩ := K
  intro ls H locs hl hP hS
  exact lv_ishl hx hb hdg (k ls H locs hl hP hS)
theorem zj_ishr (K : zj_C E Γ cc nL own d) {x y : Int32} (hdg : decode cc pc = .ok (.ishr, 1)) (k : zj_J E Γ nL (pc + 1) L (.int (x >>> (y &&& 31)) :: S) h g) : zj_J E Γ nL pc L (.int y :: .int x :: S) h g := by
  obtain ⟨p, l, e, R, s, m, args, below, meth, c, A, Q, cells, slots⟩ := Γ
  obtain ⟨hx, hb, hml, hown, hts, hK, hA, hD, hX, hfr, hlo, hce, hsl⟩ := K
  intro ls H locs hl hP hS
  exact lv_ishr hx hb hdg (k ls H locs hl hP hS)
theorem zj_iushr (K : zj_C E Γ cc nL own d) {x y : Int32} (hdg : decode cc pc = .ok (.iushr, 1)) (k : zj_J E Γ nL (pc + 1) L (.int ((x.toUInt32 >>> (y.toUInt32 &&& Int32.toUInt32 31)).toInt32) :: S) h g) : zj_J E Γ nL pc L (.int y :: .int x :: S) h g := by
  obtain ⟨p, l, e, R, s, m, args, below, meth, c, A, Q, cells, slots⟩ := Γ
  obtain ⟨hx, hb, hml, hown, hts, hK, hA, hD, hX, hfr, hlo, hce, hsl⟩ := K
  intro ls H locs hl hP hS
  exact lv_iushr hx hb hdg rfl (k ls H locs hl hP hS)
theorem zj_irem (K : zj_C E Γ cc nL own d) {x y : Int32} (hdg : decode cc pc = .ok (.irem, 1)) (hne : ¬ y = 0) (k : zj_J E Γ nL (pc + 1) L (.int (x - x / y * y) :: S) h g) : zj_J E Γ nL pc L (.int y :: .int x :: S) h g := by
  obtain ⟨p, l, e, R, s, m, args, below, meth, c, A, Q, cells, slots⟩ := Γ
  obtain ⟨hx, hb, hml, hown, hts, hK, hA, hD, hX, hfr, hlo, hce, hsl⟩ := K
  intro ls H locs hl hP hS
  exact lv_irem hx hb hdg hne (k ls H locs hl hP hS)
theorem zj_ineg (K : zj_C E Γ cc nL own d) {x : Int32} (hdg : decode cc pc = .ok (.ineg, 1)) (k : zj_J E Γ nL (pc + 1) L (.int (-x) :: S) h g) : zj_J E Γ nL pc L (.int x :: S) h g := by
  obtain ⟨p, l, e, R, s, m, args, below, meth, c, A, Q, cells, slots⟩ := Γ
  obtain ⟨hx, hb, hml, hown, hts, hK, hA, hD, hX, hfr, hlo, hce, hsl⟩ := K
  intro ls H locs hl hP hS
  exact lv_ineg hx hb hdg (k ls H locs hl hP hS)
theorem zj_ladd (K : zj_C E Γ cc nL own d) {x y : Int64} (hdg : decode cc pc = .ok (.ladd, 1)) (k : zj_J E Γ nL (pc + 1) L (.long (x + y) :: S) h g) : zj_J E Γ nL pc L (.long y :: .long x :: S) h g := by
  obtain ⟨p, l, e, R, s, m, args, below, meth, c, A, Q, cells, slots⟩ := Γ
  obtain ⟨hx, hb, hml, hown, hts, hK, hA, hD, hX, hfr, hlo, hce, hsl⟩ := K
  intro ls H locs hl hP hS
  exact lv_ladd hx hb hdg (k ls H locs hl hP hS)
theorem zj_lsub (K : zj_C E Γ cc nL own d) {x y : Int64} (hdg : decode cc pc = .ok (.lsub, 1)) (k : zj_J E Γ nL (pc + 1) L (.long (x - y) :: S) h g) : zj_J E Γ nL pc L (.long y :: .long x :: S) h g := by
  obtain ⟨p, l, e, R, s, m, args, below, meth, c, A, Q, cells, slots⟩ := Γ
  obtain ⟨hx, hb, hml, hown, hts, hK, hA, hD, hX, hfr, hlo, hce, hsl⟩ := K
  intro ls H locs hl hP hS
  exact lv_lsub hx hb hdg (k ls H locs hl hP hS)
theorem zj_lmul (K : zj_C E Γ cc nL own d) {x y : Int64} (hdg : decode cc pc = .ok (.lmul, 1)) (k : zj_J E Γ nL (pc + 1) L (.long (x * y) :: S) h g) : zj_J E Γ nL pc L (.long y :: .long x :: S) h g := by
  obtain ⟨p, l, e, R, s, m, args, below, meth, c, A, Q, cells, slots⟩ := Γ
  obtain ⟨hx, hb, hml, hown, hts, hK, hA, hD, hX, hfr, hlo, hce, hsl⟩ := K
  intro ls H locs hl hP hS
  exact lv_lmul hx hb hdg (k ls H locs hl hP hS)
theorem zj_i2l (K : zj_C E Γ cc nL own d) {x : Int32} (hdg : decode cc pc = .ok (.i2l, 1)) (k : zj_J E Γ nL (pc + 1) L (.long x.toInt64 :: S) h g) : zj_J E Γ nL pc L (.int x :: S) h g := by
  obtain ⟨p, l, e, R, s, m, args, below, meth, c, A, Q, cells, slots⟩ := Γ
  obtain ⟨hx, hb, hml, hown, hts, hK, hA, hD, hX, hfr, hlo, hce, hsl⟩ := K
  intro ls H locs hl hP hS
  exact lv_i2l hx hb hdg rfl (k ls H locs hl hP hS)
theorem zj_i2b (K : zj_C E Γ cc nL own d) {x : Int32} (hdg : decode cc pc = .ok (.i2b, 1)) (k : zj_J E Γ nL (pc + 1) L (.int x.toInt8.toInt32 :: S) h g) : zj_J E Γ nL pc L (.int x :: S) h g := by
  obtain ⟨p, l, e, R, s, m, args, below, meth, c, A, Q, cells, slots⟩ := Γ
  obtain ⟨hx, hb, hml, hown, hts, hK, hA, hD, hX, hfr, hlo, hce, hsl⟩ := K
  intro ls H locs hl hP hS
  exact lv_i2b hx hb hdg rfl (k ls H locs hl hP hS)
theorem zj_i2c (K : zj_C E Γ cc nL own d) {x : Int32} (hdg : decode cc pc = .ok (.i2c, 1)) (k : zj_J E Γ nL (pc + 1) L (.int (x.toUInt32 % 65536).toInt32 :: S) h g) : zj_J E Γ nL pc L (.int x :: S) h g := by
  obtain ⟨p, l, e, R, s, m, args, below, meth, c, A, Q, cells, slots⟩ := Γ
  obtain ⟨hx, hb, hml, hown, hts, hK, hA, hD, hX, hfr, hlo, hce, hsl⟩ := K
  intro ls H locs hl hP hS
  exact lv_i2c hx hb hdg rfl (k ls H locs hl hP hS)
theorem zj_lcmp (K : zj_C E Γ cc nL own d) {x y : Int64} (hdg : decode cc pc = .ok (.lcmp, 1)) (k : zj_J E Γ nL (pc + 1) L (.int (lg_cmp x y) :: S) h g) : zj_J E Γ nL pc L (.long y :: .long x :: S) h g := by
  obtain ⟨p, l, e, R, s, m, args, below, meth, c, A, Q, cells, slots⟩ := Γ
  obtain ⟨hx, hb, hml, hown, hts, hK, hA, hD, hX, hfr, hlo, hce, hsl⟩ := K
  intro ls H locs hl hP hS
  exact W.lcmp hx hb hdg (k ls H locs hl hP hS)
theorem zj_dup (K : zj_C E Γ cc nL own d) {va : Value} (hdg : decode cc pc = .ok (.dup, 1)) (hva : va.category = 1) (k : zj_J E Γ nL (pc + 1) L (va :: va :: S) h g) : zj_J E Γ nL pc L (va :: S) h g := by
  obtain ⟨p, l, e, R, s, m, args, below, meth, c, A, Q, cells, slots⟩ := Γ
  obtain ⟨hx, hb, hml, hown, hts, hK, hA, hD, hX, hfr, hlo, hce, hsl⟩ := K
  intro ls H locs hl hP hS
  exact lv_dup hx hb hdg hva (k ls H locs hl hP hS)
theorem zj_pop (K : zj_C E Γ cc nL own d) {va : Value} (hdg : decode cc pc = .ok (.pop, 1)) (hva : va.category = 1) (k : zj_J E Γ nL (pc + 1) L (S) h g) : zj_J E Γ nL pc L (va :: S) h g := by
  obtain ⟨p, l, e, R, s, m, args, below, meth, c, A, Q, cells, slots⟩ := Γ
  obtain ⟨hx, hb, hml, hown, hts, hK, hA, hD, hX, hfr, hlo, hce, hsl⟩ := K
  intro ls H locs hl hP hS
  exact lv_pop hx hb hdg hva (k ls H locs hl hP hS)
theorem zj_dup_x1 (K : zj_C E Γ cc nL own d) {va vb : Value} (hdg : decode cc pc = .ok (.dup_x1, 1)) (hva : va.category = 1) (hvb : vb.category = 1) (k : zj_J E Γ nL (pc + 1) L (va :: vb :: va :: S) h g) : zj_J E Γ nL pc L (va :: vb :: S) h g := by
  obtain ⟨p, l, e, R, s, m, args, below, meth, c, A, Q, cells, slots⟩ := Γ
  obtain ⟨hx, hb, hml, hown, hts, hK, hA, hD, hX, hfr, hlo, hce, hsl⟩ := K
  intro ls H locs hl hP hS
  exact lv_dup_x1 hx hb hdg hva hvb (k ls H locs hl hP hS)
theorem zj_dup2 (K : zj_C E Γ cc nL own d) {va vb : Value} (hdg : decode cc pc = .ok (.dup2, 1)) (hva : va.category = 1) (hvb : vb.category = 1) (k : zj_J E Γ nL (pc + 1) L (va :: vb :: va :: vb :: S) h g) : zj_J E Γ nL pc L (va :: vb :: S) h g := by
  obtain ⟨p, l, e, R, s, m, args, below, meth, c, A, Q, cells, slots⟩ := Γ
  obtain ⟨hx, hb, hml, hown, hts, hK, hA, hD, hX, hfr, hlo, hce, hsl⟩ := K
  intro ls H locs hl hP hS
  exact lv_dup2_11 hx hb hdg hva hvb (k ls H locs hl hP hS)
theorem zj_goto (K : zj_C E Γ cc nL own d) {off : Int} {tgt : Nat} (hdg : decode cc pc = .ok (.goto off, 3)) (ht : (pc : Int) + off = (tgt : Int)) (k : zj_J E Γ nL tgt L S h g) : zj_J E Γ nL pc L S h g := by
  obtain ⟨p, l, e, R, s, m, args, below, meth, c, A, Q, cells, slots⟩ := Γ
  obtain ⟨hx, hb, hml, hown, hts, hK, hA, hD, hX, hfr, hlo, hce, hsl⟩ := K
  intro ls H locs hl hP hS
  exact lv_goto hx hb hdg ht (k ls H locs hl hP hS)
theorem zj_if_eq (K : zj_C E Γ cc nL own d) {x : Int32} {off : Int} {tgt : Nat} (hdg : decode cc pc = .ok (.ifCond .eq off, 3)) (ht : (pc : Int) + off = (tgt : Int)) (kt : x = 0 → zj_J E Γ nL tgt L S h g) (kf : ¬ x = 0 → zj_J E Γ nL (pc + 3) L S h g) : zj_J E Γ nL pc L (.int x :: S) h g := by
  obtain ⟨p, l, e, R, s, m, args, below, meth, c, A, Q, cells, slots⟩ := Γ
  obtain ⟨hx, hb, hml, hown, hts, hK, hA, hD, hX, hfr, hlo, hce, hsl⟩ := K
  intro ls H locs hl hP hS
  exact lv_if_eq hx hb hdg ht (fun q => kt q ls H locs hl hP hS) (fun q => kf q ls H locs hl hP hS)
theorem zj_icmp_eq (K : zj_C E Γ cc nL own d) {x y : Int32} {off : Int} {tgt : Nat} (hdg : decode cc pc = .ok (.if_icmp .eq off, 3)) (ht : (pc : Int) + off = (tgt : Int)) (kt : x = y → zj_J E Γ nL tgt L S h g) (kf : ¬ x = y → zj_J E Γ nL (pc + 3) L S h g) : zj_J E Γ nL pc L (.int y :: .int x :: S) h g := by
  obtain ⟨p, l, e, R, s, m, args, below, meth, c, A, Q, cells, slots⟩ := Γ
  obtain ⟨hx, hb, hml, hown, hts, hK, hA, hD, hX, hfr, hlo, hce, hsl⟩ := K
  intro ls H locs hl hP hS
  exact lv_icmp_eq hx hb hdg ht (fun q => kt q ls H locs hl hP hS) (fun q => kf q ls H locs hl hP hS)
theorem zj_if_ne (K : zj_C E Γ cc nL own d) {x : Int32} {off : Int} {tgt : Nat} (hdg : decode cc pc = .ok (.ifCond .ne off, 3)) (ht : (pc : Int) + off = (tgt : Int)) (kt : ¬ x = 0 → zj_J E Γ nL tgt L S h g) (kf : x = 0 → zj_J E Γ nL (pc + 3) L S h g) : zj_J E Γ nL pc L (.int x :: S) h g := by
  obtain ⟨p, l, e, R, s, m, args, below, meth, c, A, Q, cells, slots⟩ := Γ
  obtain ⟨hx, hb, hml, hown, hts, hK, hA, hD, hX, hfr, hlo, hce, hsl⟩ := K
  intro ls H locs hl hP hS
  exact lv_if_ne hx hb hdg ht (fun q => kt q ls H locs hl hP hS) (fun q => kf q ls H locs hl hP hS)
theorem zj_icmp_ne (K : zj_C E Γ cc nL own d) {x y : Int32} {off : Int} {tgt : Nat} (hdg : decode cc pc = .ok (.if_icmp .ne off, 3)) (ht : (pc : Int) + off = (tgt : Int)) (kt : ¬ x = y → zj_J E Γ nL tgt L S h g) (kf : x = y → zj_J E Γ nL (pc + 3) L S h g) : zj_J E Γ nL pc L (.int y :: .int x :: S) h g := by
  obtain ⟨p, l, e, R, s, m, args, below, meth, c, A, Q, cells, slots⟩ := Γ
  obtain ⟨hx, hb, hml, hown, hts, hK, hA, hD, hX, hfr, hlo, hce, hsl⟩ := K
  intro ls H locs hl hP hS
  exact lv_icmp_ne hx hb hdg ht (fun q => kt q ls H locs hl hP hS) (fun q => kf q ls H locs hl hP hS)
theorem zj_if_lt (K : zj_C E Γ cc nL own d) {x : Int32} {off : Int} {tgt : Nat} (hdg : decode cc pc = .ok (.ifCond .lt off, 3)) (ht : (pc : Int) + off = (tgt : Int)) (kt : x < 0 → zj_J E Γ nL tgt L S h g) (kf : ¬ x < 0 → zj_J E Γ nL (pc + 3) L S h g) : zj_J E Γ nL pc L (.int x :: S) h g := by
  obtain ⟨p, l, e, R, s, m, args, below, meth, c, A, Q, cells, slots⟩ := Γ
  obtain ⟨hx, hb, hml, hown, hts, hK, hA, hD, hX, hfr, hlo, hce, hsl⟩ := K
  intro ls H locs hl hP hS
  exact lv_if_lt hx hb hdg ht (fun q => kt q ls H locs hl hP hS) (fun q => kf q ls H locs hl hP hS)
theorem zj_icmp_lt (K : zj_C E Γ cc nL own d) {x y : Int32} {off : Int} {tgt : Nat} (hdg : decode cc pc = .ok (.if_icmp .lt off, 3)) (ht : (pc : Int) + off = (tgt : Int)) (kt : x < y → zj_J E Γ nL tgt L S h g) (kf : ¬ x < y → zj_J E Γ nL (pc + 3) L S h g) : zj_J E Γ nL pc L (.int y :: .int x :: S) h g := by
  obtain ⟨p, l, e, R, s, m, args, below, meth, c, A, Q, cells, slots⟩ := Γ
  obtain ⟨hx, hb, hml, hown, hts, hK, hA, hD, hX, hfr, hlo, hce, hsl⟩ := K
  intro ls H locs hl hP hS
  exact lv_icmp_lt hx hb hdg ht (fun q => kt q ls H locs hl hP hS) (fun q => kf q ls H locs hl hP hS)
theorem zj_if_ge (K : zj_C E Γ cc nL own d) {x : Int32} {off : Int} {tgt : Nat} (hdg : decode cc pc = .ok (.ifCond .ge off, 3)) (ht : (pc : Int) + off = (tgt : Int)) (kt : 0 ≤ x → zj_J E Γ nL tgt L S h g) (kf : ¬ 0 ≤ x → zj_J E Γ nL (pc + 3) L S h g) : zj_J E Γ nL pc L (.int x :: S) h g := by
  obtain ⟨p, l, e, R, s, m, args, below, meth, c, A, Q, cells, slots⟩ := Γ
  obtain ⟨hx, hb, hml, hown, hts, hK, hA, hD, hX, hfr, hlo, hce, hsl⟩ := K
  intro ls H locs hl hP hS
  exact lv_if_ge hx hb hdg ht (fun q => kt q ls H locs hl hP hS) (fun q => kf q ls H locs hl hP hS)
theorem zj_icmp_ge (K : zj_C E Γ cc nL own d) {x y : Int32} {off : Int} {tgt : Nat} (hdg : decode cc pc = .ok (.if_icmp .ge off, 3)) (ht : (pc : Int) + off = (tgt : Int)) (kt : y ≤ x → zj_J E Γ nL tgt L S h g) (kf : ¬ y ≤ x → zj_J E Γ nL (pc + 3) L S h g) : zj_J E Γ nL pc L (.int y :: .int x :: S) h g := by
  obtain ⟨p, l, e, R, s, m, args, below, meth, c, A, Q, cells, slots⟩ := Γ
  obtain ⟨hx, hb, hml, hown, hts, hK, hA, hD, hX, hfr, hlo, hce, hsl⟩ := K
  intro ls H locs hl hP hS
  exact lv_icmp_ge hx hb hdg ht (fun q => kt q ls H locs hl hP hS) (fun q => kf q ls H locs hl hP hS)
theorem zj_if_gt (K : zj_C E Γ cc nL own d) {x : Int32} {off : Int} {tgt : Nat} (hdg : decode cc pc = .ok (.ifCond .gt off, 3)) (ht : (pc : Int) + off = (tgt : Int)) (kt : 0 < x → zj_J E Γ nL tgt L S h g) (kf : ¬ 0 < x → zj_J E Γ nL (pc + 3) L S h g) : zj_J E Γ nL pc L (.int x :: S) h g := by
  obtain ⟨p, l, e, R, s, m, args, below, meth, c, A, Q, cells, slots⟩ := Γ
  obtain ⟨hx, hb, hml, hown, hts, hK, hA, hD, hX, hfr, hlo, hce, hsl⟩ := K
  intro ls H locs hl hP hS
  exact lv_if_gt hx hb hdg ht (fun q => kt q ls H locs hl hP hS) (fun q => kf q ls H locs hl hP hS)
theorem zj_icmp_gt (K : zj_C E Γ cc nL own d) {x y : Int32} {off : Int} {tgt : Nat} (hdg : decode cc pc = .ok (.if_icmp .gt off, 3)) (ht : (pc : Int) + off = (tgt : Int)) (kt : y < x → zj_J E Γ nL tgt L S h g) (kf : ¬ y < x → zj_J E Γ nL (pc + 3) L S h g) : zj_J E Γ nL pc L (.int y :: .int x :: S) h g := by
  obtain ⟨p, l, e, R, s, m, args, below, meth, c, A, Q, cells, slots⟩ := Γ
  obtain ⟨hx, hb, hml, hown, hts, hK, hA, hD, hX, hfr, hlo, hce, hsl⟩ := K
  intro ls H locs hl hP hS
  exact lv_icmp_gt hx hb hdg ht (fun q => kt q ls H locs hl hP hS) (fun q => kf q ls H locs hl hP hS)
theorem zj_if_le (K : zj_C E Γ cc nL own d) {x : Int32} {off : Int} {tgt : Nat} (hdg : decode cc pc = .ok (.ifCond .le off, 3)) (ht : (pc : Int) + off = (tgt : Int)) (kt : x ≤ 0 → zj_J E Γ nL tgt L S h g) (kf : ¬ x ≤ 0 → zj_J E Γ nL (pc + 3) L S h g) : zj_J E Γ nL pc L (.int x :: S) h g := by
  obtain ⟨p, l, e, R, s, m, args, below, meth, c, A, Q, cells, slots⟩ := Γ
  obtain ⟨hx, hb, hml, hown, hts, hK, hA, hD, hX, hfr, hlo, hce, hsl⟩ := K
  intro ls H locs hl hP hS
  exact lv_if_le hx hb hdg ht (fun q => kt q ls H locs hl hP hS) (fun q => kf q ls H locs hl hP hS)
theorem zj_icmp_le (K : zj_C E Γ cc nL own d) {x y : Int32} {off : Int} {tgt : Nat} (hdg : decode cc pc = .ok (.if_icmp .le off, 3)) (ht : (pc : Int) + off = (tgt : Int)) (kt : x ≤ y → zj_J E Γ nL tgt L S h g) (kf : ¬ x ≤ y → zj_J E Γ nL (pc + 3) L S h g) : zj_J E Γ nL pc L (.int y :: .int x :: S) h g := by
  obtain ⟨p, l, e, R, s, m, args, below, meth, c, A, Q, cells, slots⟩ := Γ
  obtain ⟨hx, hb, hml, hown, hts, hK, hA, hD, hX, hfr, hlo, hce, hsl⟩ := K
  intro ls H locs hl hP hS
  exact lv_icmp_le hx hb hdg ht (fun q => kt q ls H locs hl hP hS) (fun q => kf q ls H locs hl hP hS)
theorem zj_tableIn (K : zj_C E Γ cc nL own d) {dflt lo hi : Int} {offs : Array Int} {len : Nat} {x : Int32} {off : Int} {tgt : Nat} (hdg : decode cc pc = .ok (.tableswitch dflt lo hi offs, len)) (h1 : ¬ x.toInt < lo) (h2 : ¬ hi < x.toInt) (ho : offs[(x.toInt - lo).toNat]? = some off) (ht : (pc : Int) + off = (tgt : Int)) (k : zj_J E Γ nL tgt L S h g) : zj_J E Γ nL pc L (.int x :: S) h g := by
  obtain ⟨p, l, e, R, s, m, args, below, meth, c, A, Q, cells, slots⟩ := Γ
  obtain ⟨hx, hb, hml, hown, hts, hK, hA, hD, hX, hfr, hlo, hce, hsl⟩ := K
  intro ls H locs hl hP hS
  exact lv_tableIn hx hb hdg h1 h2 ho ht (k ls H locs hl hP hS)
theorem zj_tableOut (K : zj_C E Γ cc nL own d) {dflt lo hi : Int} {offs : Array Int} {len : Nat} {x : Int32} {tgt : Nat} (hdg : decode cc pc = .ok (.tableswitch dflt lo hi offs, len)) (h0 : x.toInt < lo ∨ hi < x.toInt) (ht : (pc : Int) + dflt = (tgt : Int)) (k : zj_J E Γ nL tgt L S h g) : zj_J E Γ nL pc L (.int x :: S) h g := by
  obtain ⟨p, l, e, R, s, m, args, below, meth, c, A, Q, cells, slots⟩ := Γ
  obtain ⟨hx, hb, hml, hown, hts, hK, hA, hD, hX, hfr, hlo, hce, hsl⟩ := K
  intro ls H locs hl hP hS
  exact lv_tableOut hx hb hdg h0 ht (k ls H locs hl hP hS)
/-- the top of the stack by another name -/
theorem zj_top {x x' : Int32} (e : x = x') (k : zj_J E Γ nL pc L (.int x' :: S) h g) : zj_J E Γ nL pc L (.int x :: S) h g := e ▸ k
theorem zj_heap {h' : zj_H} (e : h = h') (k : zj_J E Γ nL pc L S h' g) : zj_J E Γ nL pc L S h g := e ▸ k

theorem zj_in0 : ∀ w ∈ wsX00, w ∈ zj_tbl := by decide +kernel
theorem zj_in1 : ∀ w ∈ wsX10, w ∈ zj_tbl := by decide +kernel
theorem zj_in2 : ∀ w ∈ wsX20, w ∈ zj_tbl := by decide +kernel
theorem zj_in3 : ∀ w ∈ wsX30, w ∈ zj_tbl := by decide +kernel
theorem zj_in4 : ∀ w ∈ wsX40, w ∈ zj_tbl := by decide +kernel
theorem zj_in5 : ∀ w ∈ wsX50, w ∈ zj_tbl := by decide +kernel
theorem zj_in6 : ∀ w ∈ wsX60, w ∈ zj_tbl := by decide +kernel
theorem zj_in7 : ∀ w ∈ wsX70, w ∈ zj_tbl := by decide +kernel
theorem zj_in8 : ∀ w ∈ wsX80, w ∈ zj_tbl := by decide +kernel
def zj_fl (own : String) (index ci k : Nat) (ty : FieldType) (fin : Bool) : Prop := ∃ (C : String) (T : u_T) (N : Nat), zj_cl[ci]? = some (C, T, N) ∧ k < N ∧ Cond.fieldLink own index (T k).1 (T k).2.1 (T k).2.2.1 ∈ zj_tbl ∧ parseFieldDescriptor (T k).2.2.1 = some ty ∧ (T k).2.2.2 = fin
theorem zj_clIn : ∀ (ci : Nat) (C : String) (T : u_T) (N : Nat), zj_cl[ci]? = some (C, T, N) → (∀ w ∈ u_ws C T N, w ∈ zj_tbl) ∧ (∃ ty0 : Nat → FieldType, ∀ k, k < N → parseFieldDescriptor (T k).2.2.1 = some (ty0 k)) ∧ (∀ a, a < N → ∀ b, b < N → a ≠ b → (T a).2.1 ≠ (T b).2.1) := by
  intro ci C T N hc
  match ci, hc with

  | 0, hc => cases hc; exact ⟨zj_in0, ⟨tyX0, tyX0_ok⟩, nmX0⟩
  | 1, hc => cases hc; exact ⟨zj_in1, ⟨tyX1, tyX1_ok⟩, nmX1⟩
  | 2, hc => cases hc; exact ⟨zj_in2, ⟨tyX2, tyX2_ok⟩, nmX2⟩
  | 3, hc => cases hc; exact ⟨zj_in3, ⟨tyX3, tyX3_ok⟩, nmX3⟩
  | 4, hc => cases hc; exact ⟨zj_in4, ⟨tyX4, tyX4_ok⟩, nmX4⟩
  | 5, hc => cases hc; exact ⟨zj_in5, ⟨tyX5, tyX5_ok⟩, nmX5⟩
  | 6, hc => cases hc; exact ⟨zj_in6, ⟨tyX6, tyX6_ok⟩, nmX6⟩
  | 7, hc => cases hc; exact ⟨zj_in7, ⟨tyX7, tyX7_ok⟩, nmX7⟩
  | 8, hc => cases hc; exact ⟨zj_in8, ⟨tyX8, tyX8_ok⟩, nmX8⟩
  | ci + 9, hc => simp [zj_cl] at hc
theorem zj_getI (K : zj_C E Γ cc nL own d) {index ci k i : Nat} {ty : FieldType} {fin : Bool} {fs : List (Nat ⊕ Bool)} (hl0 : zj_fl own index ci k ty fin) (hs : zj_at i (.inl (ci, fs))) (hk : fs[k]? = some (.inr false)) (hdg : decode cc pc = .ok (.getfield index, 3)) (kk : zj_J E Γ nL (pc + 3) L (.int (h i k) :: S) h g) : zj_J E Γ nL pc L (.ref (E.2.1 i) :: S) h g := by
  obtain ⟨p, l, e, R, s, m, args, below, meth, c, A, Q, cells, slots⟩ := Γ
  obtain ⟨hx, hb, hml, hown, hts, hK, hA, hD, hX, hfr, hlo, hce, hsl⟩ := K
  obtain ⟨C, T, N, hc, hkN, hw, hd, hf⟩ := hl0
  intro ls H locs hl hP hS
  exact va_get (D := E.1) (ci := ci) (C := C) (T := T) (N := N) (v := .int (h i k)) hx hb hts (zj_clIn ci C T N hc).1 hown hK hP i (zj_ws_get E h g hs) hc k hkN (hts _ hw) (fun _ h9 => h9) (by rw [List.getElem?_mapIdx, hk]; rfl) hdg (kk ls H locs hl hP hS)
theorem zj_getJ (K : zj_C E Γ cc nL own d) {index ci k i : Nat} {ty : FieldType} {fin : Bool} {fs : List (Nat ⊕ Bool)} (hl0 : zj_fl own index ci k ty fin) (hs : zj_at i (.inl (ci, fs))) (hk : fs[k]? = some (.inr true)) (hdg : decode cc pc = .ok (.getfield index, 3)) (kk : zj_J E Γ nL (pc + 3) L (.long (g i k) :: S) h g) : zj_J E Γ nL pc L (.ref (E.2.1 i) :: S) h g := by
  obtain ⟨p, l, e, R, s, m, args, below, meth, c, A, Q, cells, slots⟩ := Γ
  obtain ⟨hx, hb, hml, hown, hts, hK, hA, hD, hX, hfr, hlo, hce, hsl⟩ := K
  obtain ⟨C, T, N, hc, hkN, hw, hd, hf⟩ := hl0
  intro ls H locs hl hP hS
  exact va_get (D := E.1) (ci := ci) (C := C) (T := T) (N := N) (v := .long (g i k)) hx hb hts (zj_clIn ci C T N hc).1 hown hK hP i (zj_ws_get E h g hs) hc k hkN (hts _ hw) (fun _ h9 => h9) (by rw [List.getElem?_mapIdx, hk]; rfl) hdg (kk ls H locs hl hP hS)
theorem zj_getR (K : zj_C E Γ cc nL own d) {index ci k i : Nat} {ty : FieldType} {fin : Bool} {fs : List (Nat ⊕ Bool)} {j : Nat} (hl0 : zj_fl own index ci k ty fin) (hs : zj_at i (.inl (ci, fs))) (hk : fs[k]? = some (.inl j)) (hdg : decode cc pc = .ok (.getfield index, 3)) (kk : zj_J E Γ nL (pc + 3) L (.ref (E.2.1 j) :: S) h g) : zj_J E Γ nL pc L (.ref (E.2.1 i) :: S) h g := by
  obtain ⟨p, l, e, R, s, m, args, below, meth, c, A, Q, cells, slots⟩ := Γ
  obtain ⟨hx, hb, hml, hown, hts, hK, hA, hD, hX, hfr, hlo, hce, hsl⟩ := K
  obtain ⟨C, T, N, hc, hkN, hw, hd, hf⟩ := hl0
  intro ls H locs hl hP hS
  exact va_get (D := E.1) (ci := ci) (C := C) (T := T) (N := N) (v := .ref (E.2.1 j)) hx hb hts (zj_clIn ci C T N hc).1 hown hK hP i (zj_ws_get E h g hs) hc k hkN (hts _ hw) (fun _ h9 => h9) (by rw [List.getElem?_mapIdx, hk]; rfl) hdg (kk ls H locs hl hP hS)
theorem zj_set_fv {E : zj_E} {h h' : zj_H} {g g' : zj_G} {i k : Nat} {fs : List (Nat ⊕ Bool)} {f : Nat ⊕ Bool} {v : Value} (hk : fs[k]? = some f) (hv : zj_fv E h' g' i k f = v) (e1 : ∀ b, b ≠ k → h' i b = h i b) (e2 : ∀ b, b ≠ k → g' i b = g i b) : (fs.mapIdx (zj_fv E h g i)).set k v = fs.mapIdx (zj_fv E h' g' i) := by
  have hkl : k < fs.length := (List.getElem?_eq_some_iff.mp hk).1
  apply List.ext_getElem?
  intro a
  rw [List.getElem?_set]
  by_cases ea : k = a
  · subst ea
    rw [if_pos rfl, if_pos (by rw [List.length_mapIdx]; exact hkl), List.getElem?_mapIdx, hk, ← hv]; rfl
  · rw [if_neg ea, List.getElem?_mapIdx, List.getElem?_mapIdx]
    cases fs[a]? with
    | none => rfl
    | some f2 =>
      show some _ = some _
      have : zj_fv E h g i a f2 = zj_fv E h' g' i a f2 := by
        unfold zj_fv; rw [e1 a (Ne.symm ea), e2 a (Ne.symm ea)]
      rw [this]

theorem zj_putI (K : zj_C E Γ cc nL own d) {index ci k i : Nat} {fs : List (Nat ⊕ Bool)} {x : Int32} (hl0 : zj_fl own index ci k .int false) (hs : zj_at i (.inl (ci, fs))) (hk : fs[k]? = some (.inr false)) (hdg : decode cc pc = .ok (.putfield index, 3)) (kk : zj_J E Γ nL (pc + 3) L S (zj_s h i (upd (h i) k x)) (g)) : zj_J E Γ nL pc L (.int x :: .ref (E.2.1 i) :: S) h g := by
  obtain ⟨p, l, e, R, s, m, args, below, meth, c, A, Q, cells, slots⟩ := Γ
  obtain ⟨hx, hb, hml, hown, hts, hK, hA, hD, hX, hfr, hlo, hce, hsl⟩ := K
  obtain ⟨C, T, N, hc, hkN, hw, hd, hf⟩ := hl0
  obtain ⟨hin, ⟨ty0, hty⟩, hnm⟩ := zj_clIn ci C T N hc
  intro ls H locs hl hP hS
  have hkl : k < fs.length := (List.getElem?_eq_some_iff.mp hk).1
  refine va_put (D := E.1) (ci := ci) (v := .int x) (ty := .int) (C := C) (T := T) (N := N) hx hb hts hin ty0 hty hnm hown hK hP (hD h g) hS i (zj_ws_get E h g hs) hc k hkN (hts _ hw) (fun _ h9 => h9) hf hd rfl rfl (by rw [List.length_mapIdx]; exact hkl) hdg (fun H1 locs1 hP1 hD1 hS1 => kk ls H1 locs1 hl ?_ hS1)
  have e := zj_ws_set E h (zj_s h i (upd (h i) k x)) g (g) (sh := .inl (ci, fs)) hs (fun a n => (by first | rfl | exact zj_s_ne _ _ n)) (fun a n => (by first | rfl | exact zj_sg_ne _ _ n))
  rw [← e]
  have e2 : (fs.mapIdx (zj_fv E h g i)).set k (.int x) = fs.mapIdx (zj_fv E (zj_s h i (upd (h i) k x)) (g) i) := zj_set_fv hk (by unfold zj_fv; simp [zj_s_eq, zj_sg_eq, upd, vp_updL]) (fun b n => by simp [zj_s_eq, upd, n]) (fun b n => by simp [zj_sg_eq, vp_updL, n])
  rw [e2] at hP1
  exact hP1
theorem zj_putZ (K : zj_C E Γ cc nL own d) {index ci k i : Nat} {fs : List (Nat ⊕ Bool)} {x : Int32} (hl0 : zj_fl own index ci k .boolean false) (hs : zj_at i (.inl (ci, fs))) (hk : fs[k]? = some (.inr false)) (hx01 : x = 0 ∨ x = 1) (hdg : decode cc pc = .ok (.putfield index, 3)) (kk : zj_J E Γ nL (pc + 3) L S (zj_s h i (upd (h i) k x)) (g)) : zj_J E Γ nL pc L (.int x :: .ref (E.2.1 i) :: S) h g := by
  obtain ⟨p, l, e, R, s, m, args, below, meth, c, A, Q, cells, slots⟩ := Γ
  obtain ⟨hx, hb, hml, hown, hts, hK, hA, hD, hX, hfr, hlo, hce, hsl⟩ := K
  obtain ⟨C, T, N, hc, hkN, hw, hd, hf⟩ := hl0
  obtain ⟨hin, ⟨ty0, hty⟩, hnm⟩ := zj_clIn ci C T N hc
  intro ls H locs hl hP hS
  have hkl : k < fs.length := (List.getElem?_eq_some_iff.mp hk).1
  refine va_put (D := E.1) (ci := ci) (v := .int x) (ty := .boolean) (C := C) (T := T) (N := N) hx hb hts hin ty0 hty hnm hown hK hP (hD h g) hS i (zj_ws_get E h g hs) hc k hkN (hts _ hw) (fun _ h9 => h9) hf hd (by rcases hx01 with e | e <;> subst e <;> rfl) (by rcases hx01 with e | e <;> subst e <;> rfl) (by rw [List.length_mapIdx]; exact hkl) hdg (fun H1 locs1 hP1 hD1 hS1 => kk ls H1 locs1 hl ?_ hS1)
  have e := zj_ws_set E h (zj_s h i (upd (h i) k x)) g (g) (sh := .inl (ci, fs)) hs (fun a n => (by first | rfl | exact zj_s_ne _ _ n)) (fun a n => (by first | rfl | exact zj_sg_ne _ _ n))
  rw [← e]
  have e2 : (fs.mapIdx (zj_fv E h g i)).set k (.int x) = fs.mapIdx (zj_fv E (zj_s h i (upd (h i) k x)) (g) i) := zj_set_fv hk (by unfold zj_fv; simp [zj_s_eq, zj_sg_eq, upd, vp_updL]) (fun b n => by simp [zj_s_eq, upd, n]) (fun b n => by simp [zj_sg_eq, vp_updL, n])
  rw [e2] at hP1
  exact hP1
theorem zj_putJ (K : zj_C E Γ cc nL own d) {index ci k i : Nat} {fs : List (Nat ⊕ Bool)} {x : Int64} (hl0 : zj_fl own index ci k .long false) (hs : zj_at i (.inl (ci, fs))) (hk : fs[k]? = some (.inr true)) (hdg : decode cc pc = .ok (.putfield index, 3)) (kk : zj_J E Γ nL (pc + 3) L S (h) (zj_sg g i (vp_updL (g i) k x))) : zj_J E Γ nL pc L (.long x :: .ref (E.2.1 i) :: S) h g := by
  obtain ⟨p, l, e, R, s, m, args, below, meth, c, A, Q, cells, slots⟩ := Γ
  obtain ⟨hx, hb, hml, hown, hts, hK, hA, hD, hX, hfr, hlo, hce, hsl⟩ := K
  obtain ⟨C, T, N, hc, hkN, hw, hd, hf⟩ := hl0
  obtain ⟨hin, ⟨ty0, hty⟩, hnm⟩ := zj_clIn ci C T N hc
  intro ls H locs hl hP hS
  have hkl : k < fs.length := (List.getElem?_eq_some_iff.mp hk).1
  refine va_put (D := E.1) (ci := ci) (v := .long x) (ty := .long) (C := C) (T := T) (N := N) hx hb hts hin ty0 hty hnm hown hK hP (hD h g) hS i (zj_ws_get E h g hs) hc k hkN (hts _ hw) (fun _ h9 => h9) hf hd rfl rfl (by rw [List.length_mapIdx]; exact hkl) hdg (fun H1 locs1 hP1 hD1 hS1 => kk ls H1 locs1 hl ?_ hS1)
  have e := zj_ws_set E h (h) g (zj_sg g i (vp_updL (g i) k x)) (sh := .inl (ci, fs)) hs (fun a n => (by first | rfl | exact zj_s_ne _ _ n)) (fun a n => (by first | rfl | exact zj_sg_ne _ _ n))
  rw [← e]
  have e2 : (fs.mapIdx (zj_fv E h g i)).set k (.long x) = fs.mapIdx (zj_fv E (h) (zj_sg g i (vp_updL (g i) k x)) i) := zj_set_fv hk (by unfold zj_fv; simp [zj_s_eq, zj_sg_eq, upd, vp_updL]) (fun b n => by simp [zj_s_eq, upd, n]) (fun b n => by simp [zj_sg_eq, vp_updL, n])
  rw [e2] at hP1
  exact hP1
theorem zj_in_nI {x : Int32} {j n : Nat} (ex : x = nI j) (hj : j < n) (hn : n ≤ 1000) : vp_in x n ∧ x.toNatClampNeg = j := by
  subst ex
  exact ⟨vp_in_nI hj (by omega), nI_clamp (by omega)⟩
theorem zj_ald (K : zj_C E Γ cc nL own d) {i n j : Nat} {x : Int32} (hs : zj_at i (.inr (0, n))) (ex : x = nI j) (hj : j < n) (hn : n ≤ 1000) (hdg : decode cc pc = .ok (.iaload, 1)) (kk : zj_J E Γ nL (pc + 1) L (.int (h i j) :: S) h g) : zj_J E Γ nL pc L (.int x :: .ref (E.2.1 i) :: S) h g := by
  obtain ⟨p, l, e, R, s, m, args, below, meth, c, A, Q, cells, slots⟩ := Γ
  obtain ⟨hx, hb, hml, hown, hts, hK, hA, hD, hX, hfr, hlo, hce, hsl⟩ := K
  intro ls H locs hl hP hS
  obtain ⟨h1, h2⟩ := zj_in_nI ex hj hn
  have h3 := kk ls H locs hl hP hS
  rw [← h2] at h3
  exact va_iald hx hb hK hP i 0 (zj_ws_get E h g hs) rfl h1 hdg h3
theorem zj_bld (K : zj_C E Γ cc nL own d) {i n j : Nat} {x : Int32} (hs : zj_at i (.inr (1, n))) (ex : x = nI j) (hj : j < n) (hn : n ≤ 1000) (hdg : decode cc pc = .ok (.baload, 1)) (kk : zj_J E Γ nL (pc + 1) L (.int (h i j) :: S) h g) : zj_J E Γ nL pc L (.int x :: .ref (E.2.1 i) :: S) h g := by
  obtain ⟨p, l, e, R, s, m, args, below, meth, c, A, Q, cells, slots⟩ := Γ
  obtain ⟨hx, hb, hml, hown, hts, hK, hA, hD, hX, hfr, hlo, hce, hsl⟩ := K
  intro ls H locs hl hP hS
  obtain ⟨h1, h2⟩ := zj_in_nI ex hj hn
  have h3 := kk ls H locs hl hP hS
  rw [← h2] at h3
  exact va_bald hx hb hK hP i 1 (zj_ws_get E h g hs) rfl h1 hdg h3
theorem zj_lld (K : zj_C E Γ cc nL own d) {i n j : Nat} {x : Int32} (hs : zj_at i (.inr (2, n))) (ex : x = nI j) (hj : j < n) (hn : n ≤ 1000) (hdg : decode cc pc = .ok (.laload, 1)) (kk : zj_J E Γ nL (pc + 1) L (.long (g i j) :: S) h g) : zj_J E Γ nL pc L (.int x :: .ref (E.2.1 i) :: S) h g := by
  obtain ⟨p, l, e, R, s, m, args, below, meth, c, A, Q, cells, slots⟩ := Γ
  obtain ⟨hx, hb, hml, hown, hts, hK, hA, hD, hX, hfr, hlo, hce, hsl⟩ := K
  intro ls H locs hl hP hS
  obtain ⟨h1, h2⟩ := zj_in_nI ex hj hn
  have h3 := kk ls H locs hl hP hS
  rw [← h2] at h3
  exact va_lald hx hb hK hP i 2 (zj_ws_get E h g hs) rfl h1 hdg h3
theorem zj_rld (K : zj_C E Γ cc nL own d) {i n j : Nat} {x : Int32} (hs : zj_at i (.inr (3, n))) (ex : x = nI j) (hj : j < n) (hn : n ≤ 1000) (hdg : decode cc pc = .ok (.aaload, 1)) (kk : zj_J E Γ nL (pc + 1) L (.ref (E.2.1 (34 + 4 * j)) :: S) h g) : zj_J E Γ nL pc L (.int x :: .ref (E.2.1 i) :: S) h g := by
  obtain ⟨p, l, e, R, s, m, args, below, meth, c, A, Q, cells, slots⟩ := Γ
  obtain ⟨hx, hb, hml, hown, hts, hK, hA, hD, hX, hfr, hlo, hce, hsl⟩ := K
  intro ls H locs hl hP hS
  obtain ⟨h1, h2⟩ := zj_in_nI ex hj hn
  have h3 := kk ls H locs hl hP hS
  rw [← h2] at h3
  exact va_aldq hx hb hK hP i 3 (zj_ws_get E h g hs) rfl h1 hdg h3
theorem zj_ast (K : zj_C E Γ cc nL own d) {i n j : Nat} {x v : Int32} (hs : zj_at i (.inr (0, n))) (ex : x = nI j) (hj : j < n) (hn : n ≤ 1000) (hdg : decode cc pc = .ok (.iastore, 1)) (kk : zj_J E Γ nL (pc + 1) L S (zj_s h i (upd (h i) j v)) g) : zj_J E Γ nL pc L (.int v :: .int x :: .ref (E.2.1 i) :: S) h g := by
  obtain ⟨p, l, e, R, s, m, args, below, meth, c, A, Q, cells, slots⟩ := Γ
  obtain ⟨hx, hb, hml, hown, hts, hK, hA, hD, hX, hfr, hlo, hce, hsl⟩ := K
  intro ls H locs hl hP hS
  obtain ⟨h1, h2⟩ := zj_in_nI ex hj hn
  refine va_iast hx hb hK hP (hD h g) hS i 0 (zj_ws_get E h g hs) rfl h1 hdg (fun H1 locs1 hP1 hD1 hS1 => kk ls H1 locs1 hl ?_ hS1)
  rw [h2] at hP1
  have e := zj_ws_set E h (zj_s h i (upd (h i) j v)) g g hs (fun a n => zj_s_ne _ _ n) (fun a n => rfl)
  rw [← e]
  have e2 : zj_ent E (zj_s h i (upd (h i) j v)) g i (.inr (0, n)) = .inl (E.2.2.1 0, n, .inl (upd (h i) j v)) := by unfold zj_ent; simp [zj_s_eq]
  rw [e2]
  exact hP1
theorem zj_bst (K : zj_C E Γ cc nL own d) {i n j : Nat} {x v : Int32} (hs : zj_at i (.inr (1, n))) (ex : x = nI j) (hj : j < n) (hn : n ≤ 1000) (hdg : decode cc pc = .ok (.bastore, 1)) (kk : zj_J E Γ nL (pc + 1) L S (zj_s h i (upd (h i) j v.toInt8.toInt32)) g) : zj_J E Γ nL pc L (.int v :: .int x :: .ref (E.2.1 i) :: S) h g := by
  obtain ⟨p, l, e, R, s, m, args, below, meth, c, A, Q, cells, slots⟩ := Γ
  obtain ⟨hx, hb, hml, hown, hts, hK, hA, hD, hX, hfr, hlo, hce, hsl⟩ := K
  intro ls H locs hl hP hS
  obtain ⟨h1, h2⟩ := zj_in_nI ex hj hn
  refine va_bast hx hb hK hP (hD h g) hS i 1 (zj_ws_get E h g hs) rfl h1 hdg (fun H1 locs1 hP1 hD1 hS1 => kk ls H1 locs1 hl ?_ hS1)
  rw [h2, vp_nar_byte] at hP1
  have e := zj_ws_set E h (zj_s h i (upd (h i) j v.toInt8.toInt32)) g g hs (fun a n => zj_s_ne _ _ n) (fun a n => rfl)
  rw [← e]
  have e2 : zj_ent E (zj_s h i (upd (h i) j v.toInt8.toInt32)) g i (.inr (1, n)) = .inl (E.2.2.1 1, n, .inl (upd (h i) j v.toInt8.toInt32)) := by unfold zj_ent; simp [zj_s_eq]
  rw [e2]
  exact hP1
theorem zj_lst (K : zj_C E Γ cc nL own d) {i n j : Nat} {x : Int32} {v : Int64} (hs : zj_at i (.inr (2, n))) (ex : x = nI j) (hj : j < n) (hn : n ≤ 1000) (hdg : decode cc pc = .ok (.lastore, 1)) (kk : zj_J E Γ nL (pc + 1) L S h (zj_sg g i (vp_updL (g i) j v))) : zj_J E Γ nL pc L (.long v :: .int x :: .ref (E.2.1 i) :: S) h g := by
  obtain ⟨p, l, e, R, s, m, args, below, meth, c, A, Q, cells, slots⟩ := Γ
  obtain ⟨hx, hb, hml, hown, hts, hK, hA, hD, hX, hfr, hlo, hce, hsl⟩ := K
  intro ls H locs hl hP hS
  obtain ⟨h1, h2⟩ := zj_in_nI ex hj hn
  refine va_last hx hb hK hP (hD h g) hS i 2 (zj_ws_get E h g hs) rfl h1 hdg (fun H1 locs1 hP1 hD1 hS1 => kk ls H1 locs1 hl ?_ hS1)
  rw [h2] at hP1
  have e := zj_ws_set E h h g (zj_sg g i (vp_updL (g i) j v)) hs (fun a n => rfl) (fun a n => zj_sg_ne _ _ n)
  rw [← e]
  have e2 : zj_ent E h (zj_sg g i (vp_updL (g i) j v)) i (.inr (2, n)) = .inl (E.2.2.1 2, n, .inr (.inl (vp_updL (g i) j v))) := by unfold zj_ent; simp [zj_sg_eq]
  rw [e2]
  exact hP1
theorem zj_alen (K : zj_C E Γ cc nL own d) {i n : Nat} {v : Int32} (hs : zj_at i (.inr (0, n))) (hv : Int32.ofNat n = v) (hdg : decode cc pc = .ok (.arraylength, 1)) (kk : zj_J E Γ nL (pc + 1) L (.int v :: S) h g) : zj_J E Γ nL pc L (.ref (E.2.1 i) :: S) h g := by
  obtain ⟨p, l, e, R, s, m, args, below, meth, c, A, Q, cells, slots⟩ := Γ
  obtain ⟨hx, hb, hml, hown, hts, hK, hA, hD, hX, hfr, hlo, hce, hsl⟩ := K
  intro ls H locs hl hP hS
  exact va_alen hx hb hK hP i 0 (zj_ws_get E h g hs) rfl hv hdg (kk ls H locs hl hP hS)

theorem zj_iret (K : zj_C E Γ cc nL own d) {Post : zj_P} {v : Int32} (Rt : zj_R E Γ (some .int) Post) (hdg : decode cc pc = .ok (.ireturn, 1)) (hp : Post (some (.int v)) h g) : zj_J E Γ nL pc L [.int v] h g := by
  obtain ⟨p, l, e, R, s, m, args, below, meth, c, A, Q, cells, slots⟩ := Γ
  obtain ⟨hx, hb, hml, hown, hts, hK, hA, hD, hX, hfr, hlo, hce, hsl⟩ := K
  obtain ⟨hr, hlocks, hQ⟩ := Rt
  subst hQ
  intro ls H locs hl hP hS
  exact W.iret (v := v) hx hb hr (fun t ht hW => ⟨⟨_, h, g, rfl, hp, by rw [ht]; exact hP⟩, hS.F ht⟩) hS.2.2 hdg hlocks
theorem zj_zret (K : zj_C E Γ cc nL own d) {Post : zj_P} {v : Int32} (Rt : zj_R E Γ (some .boolean) Post) (hdg : decode cc pc = .ok (.ireturn, 1)) (hv : v = 0 ∨ v = 1) (hp : Post (some (.int v)) h g) : zj_J E Γ nL pc L [.int v] h g := by
  obtain ⟨p, l, e, R, s, m, args, below, meth, c, A, Q, cells, slots⟩ := Γ
  obtain ⟨hx, hb, hml, hown, hts, hK, hA, hD, hX, hfr, hlo, hce, hsl⟩ := K
  obtain ⟨hr, hlocks, hQ⟩ := Rt
  subst hQ
  intro ls H locs hl hP hS
  exact W.zret (v := v) hx hb hr (by rcases hv with e | e <;> subst e <;> rfl) (fun t ht hW => ⟨⟨_, h, g, rfl, hp, by rw [ht]; exact hP⟩, hS.F ht⟩) hS.2.2 hdg hlocks
theorem zj_vret (K : zj_C E Γ cc nL own d) {Post : zj_P} (Rt : zj_R E Γ none Post) (hdg : decode cc pc = .ok (.return_, 1)) (hp : Post none h g) : zj_J E Γ nL pc L [] h g := by
  obtain ⟨p, l, e, R, s, m, args, below, meth, c, A, Q, cells, slots⟩ := Γ
  obtain ⟨hx, hb, hml, hown, hts, hK, hA, hD, hX, hfr, hlo, hce, hsl⟩ := K
  obtain ⟨hr, hlocks, hQ⟩ := Rt
  subst hQ
  intro ls H locs hl hP hS
  exact W.vret hx hb hr (fun t ht hW => ⟨⟨_, h, g, rfl, hp, by rw [ht]; exact hP⟩, hS.F ht⟩) hS.2.2 hdg hlocks

/-- a call of a method by its name: the words -/
def zj_mw (y : MethodName) (b : ByteArray) (mL : Nat) (ret : Option FieldType) (n : Nat) : Prop := Cond.code y b mL ret ∈ zj_tbl ∧ Cond.initialized y.cls ∈ zj_tbl ∧ (y.cls ≠ "java/lang/invoke/MethodHandle" ∧ y.cls ≠ "java/lang/invoke/VarHandle" ∧ (parseMethodDescriptor y.desc).map (fun d => d.parameters.length) = some n) ∧ Nat.ble mL 16 = true
def zj_vl (own : String) (index ci : Nat) (y : MethodName) (b : ByteArray) (mL : Nat) (ret : Option FieldType) (n : Nat) : Prop := zj_mw y b mL ret n ∧ Cond.methodLink own index y ∈ zj_tbl ∧ Cond.instanceMethod y ∈ zj_tbl ∧ ∃ q : vw_C, zj_cl[ci]? = some q ∧ Cond.selects q.1 y y ∈ zj_tbl
def zj_sl (own : String) (index : Nat) (y : MethodName) (b : ByteArray) (mL : Nat) (ret : Option FieldType) (n : Nat) : Prop := zj_mw y b mL ret n ∧ Cond.methodLink own index y ∈ zj_tbl ∧ Cond.static y ∈ zj_tbl
def zj_nl (own : String) (index : Nat) (y : MethodName) (b : ByteArray) (mL : Nat) (ret : Option FieldType) (n : Nat) : Prop := zj_mw y b mL ret n ∧ (∃ host, (own, index, y, host) ∈ zj_nest) ∧ Cond.static y ∈ zj_tbl
theorem zj_good {y : MethodName} {b : ByteArray} {mL : Nat} {ret : Option FieldType} (hc : Cond.code y b mL ret ∈ zj_tbl) : GoodIn zj_tbl (.code y b mL ret :: zj_tbl) := by
  intro w hw
  have hm : w ∈ zj_tbl := by
    rcases List.mem_cons.mp hw with rfl | h
    · exact hc
    · exact h
  exact ⟨hm, good_of_word (List.mem_filter.mp hm).2⟩
theorem zj_blind {E : zj_E} {As : List Value} {sz : Nat} {h : zj_H} {g : zj_G} : FrameBlind (va_Pc As (zj_Pre E sz h g)) := by
  intro a U g0 mk q
  obtain ⟨q0, q1, qP, qK, qD, qX⟩ := q
  exact ⟨q0, q1, qP, va_K.moved (u := U) (U := U.calling g0 mk a) (Vm.Alike.refl U.vm) qK, qD, qX.blind g0 mk a⟩
theorem zj_free {E : zj_E} {A : Nat → Prop} {s : State} {H : Heap} {locs : List Loc} {h : zj_H} {g : zj_G} (hD : ∀ h g, va_D A (zj_ws E h g)) (hA : ∀ q, s.heap.size ≤ q → A q) (hS : va_S A s.heap H locs) : ∀ q, va_A (zj_ws E h g) H.size q → A q := by
  intro q hq
  rcases hq with ⟨k, e, hk⟩ | hk
  · exact (hD h g).2 k (q, e) hk
  · exact hA q (Nat.le_trans hS.1 hk)
theorem zj_after {p : Program} {l : Launch} {e : Env} {R : Room} {s : State} {m : MethodId} {args : Array Value} {below : List Frame} {meth : Method} {c : Code} {A : Nat → Prop} {Q : State → Prop} {cells slots : Nat} {H : Heap} {locs : List Loc} {ls : Array Slot} {st0 : List Value} {Post : zj_P} {a : Array Value}
    (hr : va_Run p l e R s m args below meth c H locs cells slots 0 0 (F0 m pc ls st0) S (zj_Q E (va_A (zj_ws E h g) H.size) Post a) (va_A (zj_ws E h g) H.size)) (hl : lv_has ls nL L) (hS : va_S A s.heap H locs) (hf : ∀ q, va_A (zj_ws E h g) H.size q → A q)
    (kk : ∀ v h' g', Post v h' g' → zj_J E (p, l, e, R, s, m, args, below, meth, c, A, Q, cells, slots) nL (pc + 3) L (v.toList ++ S) h' g') : W p l e R s m args below meth c H locs cells slots Q (F0 m pc ls st0) := by
  intro T hT X
  obtain ⟨v, st₀, t, T', L0, h0, X', hL, e1, e2, ⟨⟨v', h', g', hv, hp, hP1⟩, hz, hk⟩, st⟩ := hr T hT X
  cases hv
  rw [h0] at hz hk
  obtain ⟨t2, a1, b1⟩ := kk v h' g' hp ls T'.heap (locs ++ L0) hl (by rw [e1]; exact hP1)
    ⟨Nat.le_trans hS.1 (by rw [e1]; exact hz), fun q h1 h2 => by rw [e1, hk q (Nat.lt_of_lt_of_le h1 hS.1) (fun z => h2 (hf q z))]; exact hS.2.1 q h1 h2, fun q hq => by
      rcases List.mem_append.mp hq with h | h
      · exact hS.2.2 q h
      · exact hf _ (hL q h)⟩ T' rfl X'
  exact ⟨t2, st t2 a1, b1⟩

theorem zj_callV (K : zj_C E Γ cc nL own d) {i ci index dd mL n : Nat} {y : MethodName} {b : ByteArray} {ret : Option FieldType} {fs : List (Nat ⊕ Bool)} {As : List Value} {Post : zj_P} (hlk : zj_vl own index ci y b mL ret n) (hs : zj_at i (.inl (ci, fs))) (hM : zj_M Γ.2.1 E y b mL ret dd (.ref (E.2.1 i) :: As) h g Post) (hdd : dd + 1 ≤ d) (hn : As.length = n) (hcat : (S.map fun v => v.category).sum ≤ 8) (hdg : decode cc pc = .ok (.invokevirtual index, 3))
    (kk : ∀ v h' g', Post v h' g' → zj_J E Γ nL (pc + 3) L (v.toList ++ S) h' g') : zj_J E Γ nL pc L (As.reverse ++ .ref (E.2.1 i) :: S) h g := by
  obtain ⟨p, l, e, R, s, m, args, below, meth, c, A, Q, cells, slots⟩ := Γ
  obtain ⟨hx, hb, hml, hown, hts, hK, hA, hD, hX, hfr, hlo, hce, hsl⟩ := K
  obtain ⟨⟨hwc, hwi, hwd, h16⟩, hwl, hwm, q, hc, hws⟩ := hlk
  intro ls H locs hl hP hS
  have hfree := zj_free (h := h) (g := g) hD hA hS
  have hG := zj_good hwc
  have hroom : (zj_room dd).frames + 1 ≤ R.frames ∧ 8 + (mL + 11) + (zj_room dd).locals ≤ R.locals := by
    have e16 : mL ≤ 16 := Nat.le_of_ble_eq_true h16
    refine ⟨Nat.le_trans hdd hfr, ?_⟩
    show 8 + (mL + 11) + 35 * dd ≤ R.locals
    omega
  refine zj_after (va_runV (As := As) (rest := S) (C := q.1) (n := n) ⟨hx, hb, hml, hown, hts⟩ (hM H.size) ⟨callB_of n hts hG rfl rfl rfl (hts _ hwi) (hts _ hwl) hwd hroom, hts _ hwm, hts _ hws⟩ ⟨zj_blind, va_recv hK hP hc (zj_ws_get E h g hs), fun U hU hW => ⟨rfl, by rw [hU], by rw [hU]; exact hP, va_K.moved hW.alike hK, fun h g => (hD h g).weaken (fun _ _ _ _ => trivial), by rw [hU]; exact hX.warm hW hfree hS.2.1⟩⟩ rfl hn hl.1 rfl (lv_room hcat) hdg ⟨hce, hsl⟩) hl hS hfree kk
theorem zj_callS (K : zj_C E Γ cc nL own d) {index dd mL n : Nat} {y : MethodName} {b : ByteArray} {ret : Option FieldType} {As : List Value} {Post : zj_P} (hlk : zj_sl own index y b mL ret n) (hM : zj_M Γ.2.1 E y b mL ret dd As h g Post) (hdd : dd + 1 ≤ d) (hn : As.length = n) (hcat : (S.map fun v => v.category).sum ≤ 8) (hdg : decode cc pc = .ok (.invokestatic index, 3))
    (kk : ∀ v h' g', Post v h' g' → zj_J E Γ nL (pc + 3) L (v.toList ++ S) h' g') : zj_J E Γ nL pc L (As.reverse ++ S) h g := by
  obtain ⟨p, l, e, R, s, m, args, below, meth, c, A, Q, cells, slots⟩ := Γ
  obtain ⟨hx, hb, hml, hown, hts, hK, hA, hD, hX, hfr, hlo, hce, hsl⟩ := K
  obtain ⟨⟨hwc, hwi, hwd, h16⟩, hwl, hws⟩ := hlk
  intro ls H locs hl hP hS
  have hfree := zj_free (h := h) (g := g) hD hA hS
  have hG := zj_good hwc
  have hroom : (zj_room dd).frames + 1 ≤ R.frames ∧ 8 + (mL + 11) + (zj_room dd).locals ≤ R.locals := by
    have e16 : mL ≤ 16 := Nat.le_of_ble_eq_true h16
    refine ⟨Nat.le_trans hdd hfr, ?_⟩
    show 8 + (mL + 11) + 35 * dd ≤ R.locals
    omega
  refine zj_after (va_runS (As := As) (rest := S) (n := n) ⟨hx, hb, hml, hown, hts⟩ (hM H.size) ⟨callB_of n hts hG rfl rfl rfl (hts _ hwi) (hts _ hwl) hwd hroom, hts _ hws⟩ ⟨zj_blind, fun U hU hW => ⟨rfl, by rw [hU], by rw [hU]; exact hP, va_K.moved hW.alike hK, fun h g => (hD h g).weaken (fun _ _ _ _ => trivial), by rw [hU]; exact hX.warm hW hfree hS.2.1⟩⟩ rfl hn hl.1 rfl (lv_room hcat) hdg ⟨hce, hsl⟩) hl hS hfree kk
theorem zj_callN (K : zj_C E Γ cc nL own d) {index dd mL n : Nat} {y : MethodName} {b : ByteArray} {ret : Option FieldType} {As : List Value} {Post : zj_P} (hlk : zj_nl own index y b mL ret n) (hM : zj_M Γ.2.1 E y b mL ret dd As h g Post) (hdd : dd + 1 ≤ d) (hn : As.length = n) (hcat : (S.map fun v => v.category).sum ≤ 8) (hdg : decode cc pc = .ok (.invokestatic index, 3))
    (kk : ∀ v h' g', Post v h' g' → zj_J E Γ nL (pc + 3) L (v.toList ++ S) h' g') : zj_J E Γ nL pc L (As.reverse ++ S) h g := by
  obtain ⟨p, l, e, R, s, m, args, below, meth, c, A, Q, cells, slots⟩ := Γ
  obtain ⟨hx, hb, hml, hown, hts, hK, hA, hD, hX, hfr, hlo, hce, hsl⟩ := K
  obtain ⟨⟨hwc, hwi, hwd, h16⟩, ⟨host, hnest⟩, hws⟩ := hlk
  intro ls H locs hl hP hS
  have hfree := zj_free (h := h) (g := g) hD hA hS
  have hG := zj_good hwc
  have hroom : (zj_room dd).frames + 1 ≤ R.frames ∧ 8 + (mL + 11) + (zj_room dd).locals ≤ R.locals := by
    have e16 : mL ≤ 16 := Nat.le_of_ble_eq_true h16
    refine ⟨Nat.le_trans hdd hfr, ?_⟩
    show 8 + (mL + 11) + 35 * dd ≤ R.locals
    omega
  refine zj_after (va_runSN (As := As) (rest := S) (n := n) (Ts := zj_tbl) ⟨hx, hb, hml, hown, hts⟩ (hM H.size) ⟨va_cnB n hts hG rfl rfl rfl (hX.1 _ hnest) (hts _ hwi) hwd hroom, hts _ hws, trivial⟩ ⟨zj_blind, fun U hU hW => ⟨rfl, by rw [hU], by rw [hU]; exact hP, va_K.moved hW.alike hK, fun h g => (hD h g).weaken (fun _ _ _ _ => trivial), by rw [hU]; exact hX.warm hW hfree hS.2.1⟩⟩ rfl hn hl.1 rfl (lv_room hcat) hdg ⟨hce, hsl⟩) hl hS hfree kk

end ZJ
end
