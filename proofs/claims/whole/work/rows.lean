section
-- ===== PART A: goes FIRST, ahead of the names: the tables' words, and 'selects' of the private methods out of them =====
/-- a private method of a class that the tables say can be made, by its rows of tables_1 -/
def lw_okq (q : MethodName × Nat) : Prop := (q.1.cls ≠ "java/lang/invoke/MethodHandle" ∧ q.1.cls ≠ "java/lang/invoke/VarHandle") ∧ Cond.instantiable q.1.cls q.2 ∈ tables_1 ∧ Cond.privateMethod q.1 ∈ tables_1 ∧ Cond.instanceMethod q.1 ∈ tables_1
theorem lw_p0 : lw_okq (⟨"SleeveDarker", "coatAt", "(I)LSleeveDarker$Coat;"⟩, 16) := ⟨⟨by decide +kernel, by decide +kernel⟩, List.mem_of_getElem? (i := 23) (by decide +kernel), List.mem_of_getElem? (i := 443) (by decide +kernel), List.mem_of_getElem? (i := 444) (by decide +kernel)⟩
theorem lw_p1 : lw_okq (⟨"SleeveDarker$Text", "nameNumbers", "(IIIIII)V"⟩, 4) := ⟨⟨by decide +kernel, by decide +kernel⟩, List.mem_of_getElem? (i := 197) (by decide +kernel), List.mem_of_getElem? (i := 502) (by decide +kernel), List.mem_of_getElem? (i := 503) (by decide +kernel)⟩
theorem lw_p2 : lw_okq (⟨"SleeveDarker$Text", "valueOf", "(I)I"⟩, 4) := ⟨⟨by decide +kernel, by decide +kernel⟩, List.mem_of_getElem? (i := 197) (by decide +kernel), List.mem_of_getElem? (i := 506) (by decide +kernel), List.mem_of_getElem? (i := 507) (by decide +kernel)⟩
theorem lw_p3 : lw_okq (⟨"SleeveDarker$Reader", "step", "()V"⟩, 10) := ⟨⟨by decide +kernel, by decide +kernel⟩, List.mem_of_getElem? (i := 72) (by decide +kernel), List.mem_of_getElem? (i := 585) (by decide +kernel), List.mem_of_getElem? (i := 586) (by decide +kernel)⟩
theorem lw_p4 : lw_okq (⟨"SleeveDarker$Reader", "takeNumber", "()V"⟩, 10) := ⟨⟨by decide +kernel, by decide +kernel⟩, List.mem_of_getElem? (i := 72) (by decide +kernel), List.mem_of_getElem? (i := 595) (by decide +kernel), List.mem_of_getElem? (i := 596) (by decide +kernel)⟩
theorem lw_p5 : lw_okq (⟨"SleeveDarker$Reader", "takeWord", "()V"⟩, 10) := ⟨⟨by decide +kernel, by decide +kernel⟩, List.mem_of_getElem? (i := 72) (by decide +kernel), List.mem_of_getElem? (i := 602) (by decide +kernel), List.mem_of_getElem? (i := 603) (by decide +kernel)⟩
theorem lw_p6 : lw_okq (⟨"SleeveDarker$Reader", "isSpelled", "(II)Z"⟩, 10) := ⟨⟨by decide +kernel, by decide +kernel⟩, List.mem_of_getElem? (i := 72) (by decide +kernel), List.mem_of_getElem? (i := 655) (by decide +kernel), List.mem_of_getElem? (i := 656) (by decide +kernel)⟩
theorem lw_p7 : lw_okq (⟨"SleeveDarker$Reader", "need", "(I)V"⟩, 10) := ⟨⟨by decide +kernel, by decide +kernel⟩, List.mem_of_getElem? (i := 72) (by decide +kernel), List.mem_of_getElem? (i := 715) (by decide +kernel), List.mem_of_getElem? (i := 716) (by decide +kernel)⟩
theorem lw_p8 : lw_okq (⟨"SleeveDarker$Reader", "accept", "(I)Z"⟩, 10) := ⟨⟨by decide +kernel, by decide +kernel⟩, List.mem_of_getElem? (i := 72) (by decide +kernel), List.mem_of_getElem? (i := 719) (by decide +kernel), List.mem_of_getElem? (i := 720) (by decide +kernel)⟩
theorem lw_p9 : lw_okq (⟨"SleeveDarker$Reader", "fail", "()V"⟩, 10) := ⟨⟨by decide +kernel, by decide +kernel⟩, List.mem_of_getElem? (i := 72) (by decide +kernel), List.mem_of_getElem? (i := 723) (by decide +kernel), List.mem_of_getElem? (i := 724) (by decide +kernel)⟩
theorem lw_p10 : lw_okq (⟨"SleeveDarker$Reader", "readE", "()V"⟩, 10) := ⟨⟨by decide +kernel, by decide +kernel⟩, List.mem_of_getElem? (i := 72) (by decide +kernel), List.mem_of_getElem? (i := 727) (by decide +kernel), List.mem_of_getElem? (i := 728) (by decide +kernel)⟩
theorem lw_p11 : lw_okq (⟨"SleeveDarker$Reader", "readAnd", "()V"⟩, 10) := ⟨⟨by decide +kernel, by decide +kernel⟩, List.mem_of_getElem? (i := 72) (by decide +kernel), List.mem_of_getElem? (i := 731) (by decide +kernel), List.mem_of_getElem? (i := 732) (by decide +kernel)⟩
theorem lw_p12 : lw_okq (⟨"SleeveDarker$Reader", "readNot", "()V"⟩, 10) := ⟨⟨by decide +kernel, by decide +kernel⟩, List.mem_of_getElem? (i := 72) (by decide +kernel), List.mem_of_getElem? (i := 735) (by decide +kernel), List.mem_of_getElem? (i := 736) (by decide +kernel)⟩
theorem lw_p13 : lw_okq (⟨"SleeveDarker$Reader", "opened", "()Z"⟩, 10) := ⟨⟨by decide +kernel, by decide +kernel⟩, List.mem_of_getElem? (i := 72) (by decide +kernel), List.mem_of_getElem? (i := 739) (by decide +kernel), List.mem_of_getElem? (i := 740) (by decide +kernel)⟩
theorem lw_p14 : lw_okq (⟨"SleeveDarker$Reader", "emit", "(I)V"⟩, 10) := ⟨⟨by decide +kernel, by decide +kernel⟩, List.mem_of_getElem? (i := 72) (by decide +kernel), List.mem_of_getElem? (i := 743) (by decide +kernel), List.mem_of_getElem? (i := 744) (by decide +kernel)⟩
theorem lw_p15 : lw_okq (⟨"SleeveDarker$Reader", "readSum", "()V"⟩, 10) := ⟨⟨by decide +kernel, by decide +kernel⟩, List.mem_of_getElem? (i := 72) (by decide +kernel), List.mem_of_getElem? (i := 747) (by decide +kernel), List.mem_of_getElem? (i := 748) (by decide +kernel)⟩
def lw_privs_1 : List (MethodName × Nat) := [(⟨"SleeveDarker", "coatAt", "(I)LSleeveDarker$Coat;"⟩, 16), (⟨"SleeveDarker$Text", "nameNumbers", "(IIIIII)V"⟩, 4), (⟨"SleeveDarker$Text", "valueOf", "(I)I"⟩, 4), (⟨"SleeveDarker$Reader", "step", "()V"⟩, 10), (⟨"SleeveDarker$Reader", "takeNumber", "()V"⟩, 10), (⟨"SleeveDarker$Reader", "takeWord", "()V"⟩, 10), (⟨"SleeveDarker$Reader", "isSpelled", "(II)Z"⟩, 10), (⟨"SleeveDarker$Reader", "need", "(I)V"⟩, 10), (⟨"SleeveDarker$Reader", "accept", "(I)Z"⟩, 10), (⟨"SleeveDarker$Reader", "fail", "()V"⟩, 10), (⟨"SleeveDarker$Reader", "readE", "()V"⟩, 10), (⟨"SleeveDarker$Reader", "readAnd", "()V"⟩, 10), (⟨"SleeveDarker$Reader", "readNot", "()V"⟩, 10), (⟨"SleeveDarker$Reader", "opened", "()Z"⟩, 10), (⟨"SleeveDarker$Reader", "emit", "(I)V"⟩, 10), (⟨"SleeveDarker$Reader", "readSum", "()V"⟩, 10)]
theorem lw_r1 : ∀ q ∈ lw_privs_1, lw_okq q := List.forall_mem_cons.mpr ⟨lw_p0, List.forall_mem_cons.mpr ⟨lw_p1, List.forall_mem_cons.mpr ⟨lw_p2, List.forall_mem_cons.mpr ⟨lw_p3, List.forall_mem_cons.mpr ⟨lw_p4, List.forall_mem_cons.mpr ⟨lw_p5, List.forall_mem_cons.mpr ⟨lw_p6, List.forall_mem_cons.mpr ⟨lw_p7, List.forall_mem_cons.mpr ⟨lw_p8, List.forall_mem_cons.mpr ⟨lw_p9, List.forall_mem_cons.mpr ⟨lw_p10, List.forall_mem_cons.mpr ⟨lw_p11, List.forall_mem_cons.mpr ⟨lw_p12, List.forall_mem_cons.mpr ⟨lw_p13, List.forall_mem_cons.mpr ⟨lw_p14, List.forall_mem_cons.mpr ⟨lw_p15, fun _ h => absurd h List.not_mem_nil⟩⟩⟩⟩⟩⟩⟩⟩⟩⟩⟩⟩⟩⟩⟩⟩
theorem lw_p16 : lw_okq (⟨"SleeveDarker$Reader", "readTerm", "()V"⟩, 10) := ⟨⟨by decide +kernel, by decide +kernel⟩, List.mem_of_getElem? (i := 72) (by decide +kernel), List.mem_of_getElem? (i := 751) (by decide +kernel), List.mem_of_getElem? (i := 752) (by decide +kernel)⟩
theorem lw_p17 : lw_okq (⟨"SleeveDarker$Reader", "readOne", "()V"⟩, 10) := ⟨⟨by decide +kernel, by decide +kernel⟩, List.mem_of_getElem? (i := 72) (by decide +kernel), List.mem_of_getElem? (i := 755) (by decide +kernel), List.mem_of_getElem? (i := 756) (by decide +kernel)⟩
theorem lw_p18 : lw_okq (⟨"SleeveDarker", "useRule", "(I)V"⟩, 16) := ⟨⟨by decide +kernel, by decide +kernel⟩, List.mem_of_getElem? (i := 23) (by decide +kernel), List.mem_of_getElem? (i := 780) (by decide +kernel), List.mem_of_getElem? (i := 781) (by decide +kernel)⟩
theorem lw_p19 : lw_okq (⟨"SleeveDarker$Cutter", "pickFrom", "(II)V"⟩, 12) := ⟨⟨by decide +kernel, by decide +kernel⟩, List.mem_of_getElem? (i := 114) (by decide +kernel), List.mem_of_getElem? (i := 848) (by decide +kernel), List.mem_of_getElem? (i := 849) (by decide +kernel)⟩
theorem lw_p20 : lw_okq (⟨"SleeveDarker$Cutter", "weigh", "(I)V"⟩, 12) := ⟨⟨by decide +kernel, by decide +kernel⟩, List.mem_of_getElem? (i := 114) (by decide +kernel), List.mem_of_getElem? (i := 852) (by decide +kernel), List.mem_of_getElem? (i := 853) (by decide +kernel)⟩
theorem lw_p21 : lw_okq (⟨"SleeveDarker$Cutter", "fitsBelow", "(II)Z"⟩, 12) := ⟨⟨by decide +kernel, by decide +kernel⟩, List.mem_of_getElem? (i := 114) (by decide +kernel), List.mem_of_getElem? (i := 856) (by decide +kernel), List.mem_of_getElem? (i := 857) (by decide +kernel)⟩
theorem lw_p22 : lw_okq (⟨"SleeveDarker", "lastDay", "()I"⟩, 16) := ⟨⟨by decide +kernel, by decide +kernel⟩, List.mem_of_getElem? (i := 23) (by decide +kernel), List.mem_of_getElem? (i := 864) (by decide +kernel), List.mem_of_getElem? (i := 865) (by decide +kernel)⟩
theorem lw_p23 : lw_okq (⟨"SleeveDarker$Planner", "keepOpen", "([LSleeveDarker$Coat;)V"⟩, 6) := ⟨⟨by decide +kernel, by decide +kernel⟩, List.mem_of_getElem? (i := 161) (by decide +kernel), List.mem_of_getElem? (i := 899) (by decide +kernel), List.mem_of_getElem? (i := 900) (by decide +kernel)⟩
theorem lw_p24 : lw_okq (⟨"SleeveDarker$Planner", "goOn", "(LSleeveDarker$Text;LSleeveDarker$Wool;IIII)V"⟩, 6) := ⟨⟨by decide +kernel, by decide +kernel⟩, List.mem_of_getElem? (i := 161) (by decide +kernel), List.mem_of_getElem? (i := 911) (by decide +kernel), List.mem_of_getElem? (i := 912) (by decide +kernel)⟩
theorem lw_p25 : lw_okq (⟨"SleeveDarker$Planner", "isBetter", "(III)Z"⟩, 6) := ⟨⟨by decide +kernel, by decide +kernel⟩, List.mem_of_getElem? (i := 161) (by decide +kernel), List.mem_of_getElem? (i := 915) (by decide +kernel), List.mem_of_getElem? (i := 916) (by decide +kernel)⟩
theorem lw_p26 : lw_okq (⟨"SleeveDarker", "doneCount", "()I"⟩, 16) := ⟨⟨by decide +kernel, by decide +kernel⟩, List.mem_of_getElem? (i := 23) (by decide +kernel), List.mem_of_getElem? (i := 955) (by decide +kernel), List.mem_of_getElem? (i := 956) (by decide +kernel)⟩
theorem lw_p27 : lw_okq (⟨"SleeveDarker", "keptByInAll", "()I"⟩, 16) := ⟨⟨by decide +kernel, by decide +kernel⟩, List.mem_of_getElem? (i := 23) (by decide +kernel), List.mem_of_getElem? (i := 981) (by decide +kernel), List.mem_of_getElem? (i := 982) (by decide +kernel)⟩
theorem lw_p28 : lw_okq (⟨"SleeveDarker", "hasRun", "(III)Z"⟩, 16) := ⟨⟨by decide +kernel, by decide +kernel⟩, List.mem_of_getElem? (i := 23) (by decide +kernel), List.mem_of_getElem? (i := 1008) (by decide +kernel), List.mem_of_getElem? (i := 1009) (by decide +kernel)⟩
theorem lw_p29 : lw_okq (⟨"SleeveDarkerModel", "isHank", "(I)Z"⟩, 52) := ⟨⟨by decide +kernel, by decide +kernel⟩, List.mem_of_getElem? (i := 1024) (by decide +kernel), List.mem_of_getElem? (i := 1198) (by decide +kernel), List.mem_of_getElem? (i := 1199) (by decide +kernel)⟩
theorem lw_p30 : lw_okq (⟨"SleeveDarkerModel", "isCoat", "(I)Z"⟩, 52) := ⟨⟨by decide +kernel, by decide +kernel⟩, List.mem_of_getElem? (i := 1024) (by decide +kernel), List.mem_of_getElem? (i := 1214) (by decide +kernel), List.mem_of_getElem? (i := 1215) (by decide +kernel)⟩
theorem lw_p31 : lw_okq (⟨"SleeveDarkerModel", "takes", "(II)I"⟩, 52) := ⟨⟨by decide +kernel, by decide +kernel⟩, List.mem_of_getElem? (i := 1024) (by decide +kernel), List.mem_of_getElem? (i := 1218) (by decide +kernel), List.mem_of_getElem? (i := 1219) (by decide +kernel)⟩
def lw_privs_2 : List (MethodName × Nat) := [(⟨"SleeveDarker$Reader", "readTerm", "()V"⟩, 10), (⟨"SleeveDarker$Reader", "readOne", "()V"⟩, 10), (⟨"SleeveDarker", "useRule", "(I)V"⟩, 16), (⟨"SleeveDarker$Cutter", "pickFrom", "(II)V"⟩, 12), (⟨"SleeveDarker$Cutter", "weigh", "(I)V"⟩, 12), (⟨"SleeveDarker$Cutter", "fitsBelow", "(II)Z"⟩, 12), (⟨"SleeveDarker", "lastDay", "()I"⟩, 16), (⟨"SleeveDarker$Planner", "keepOpen", "([LSleeveDarker$Coat;)V"⟩, 6), (⟨"SleeveDarker$Planner", "goOn", "(LSleeveDarker$Text;LSleeveDarker$Wool;IIII)V"⟩, 6), (⟨"SleeveDarker$Planner", "isBetter", "(III)Z"⟩, 6), (⟨"SleeveDarker", "doneCount", "()I"⟩, 16), (⟨"SleeveDarker", "keptByInAll", "()I"⟩, 16), (⟨"SleeveDarker", "hasRun", "(III)Z"⟩, 16), (⟨"SleeveDarkerModel", "isHank", "(I)Z"⟩, 52), (⟨"SleeveDarkerModel", "isCoat", "(I)Z"⟩, 52), (⟨"SleeveDarkerModel", "takes", "(II)I"⟩, 52)]
theorem lw_r2 : ∀ q ∈ lw_privs_2, lw_okq q := List.forall_mem_cons.mpr ⟨lw_p16, List.forall_mem_cons.mpr ⟨lw_p17, List.forall_mem_cons.mpr ⟨lw_p18, List.forall_mem_cons.mpr ⟨lw_p19, List.forall_mem_cons.mpr ⟨lw_p20, List.forall_mem_cons.mpr ⟨lw_p21, List.forall_mem_cons.mpr ⟨lw_p22, List.forall_mem_cons.mpr ⟨lw_p23, List.forall_mem_cons.mpr ⟨lw_p24, List.forall_mem_cons.mpr ⟨lw_p25, List.forall_mem_cons.mpr ⟨lw_p26, List.forall_mem_cons.mpr ⟨lw_p27, List.forall_mem_cons.mpr ⟨lw_p28, List.forall_mem_cons.mpr ⟨lw_p29, List.forall_mem_cons.mpr ⟨lw_p30, List.forall_mem_cons.mpr ⟨lw_p31, fun _ h => absurd h List.not_mem_nil⟩⟩⟩⟩⟩⟩⟩⟩⟩⟩⟩⟩⟩⟩⟩⟩
theorem lw_p32 : lw_okq (⟨"SleeveDarkerModel", "bears", "(II)I"⟩, 52) := ⟨⟨by decide +kernel, by decide +kernel⟩, List.mem_of_getElem? (i := 1024) (by decide +kernel), List.mem_of_getElem? (i := 1222) (by decide +kernel), List.mem_of_getElem? (i := 1223) (by decide +kernel)⟩
theorem lw_p33 : lw_okq (⟨"SleeveDarkerModel", "bear", "(II)I"⟩, 52) := ⟨⟨by decide +kernel, by decide +kernel⟩, List.mem_of_getElem? (i := 1024) (by decide +kernel), List.mem_of_getElem? (i := 1226) (by decide +kernel), List.mem_of_getElem? (i := 1227) (by decide +kernel)⟩
theorem lw_p34 : lw_okq (⟨"SleeveDarkerModel", "findFacts", "(IIIIII)V"⟩, 52) := ⟨⟨by decide +kernel, by decide +kernel⟩, List.mem_of_getElem? (i := 1024) (by decide +kernel), List.mem_of_getElem? (i := 1236) (by decide +kernel), List.mem_of_getElem? (i := 1237) (by decide +kernel)⟩
theorem lw_p35 : lw_okq (⟨"SleeveDarkerModel", "gives", "(I)I"⟩, 52) := ⟨⟨by decide +kernel, by decide +kernel⟩, List.mem_of_getElem? (i := 1024) (by decide +kernel), List.mem_of_getElem? (i := 1240) (by decide +kernel), List.mem_of_getElem? (i := 1241) (by decide +kernel)⟩
theorem lw_p36 : lw_okq (⟨"SleeveDarkerModel", "brings", "(I)I"⟩, 52) := ⟨⟨by decide +kernel, by decide +kernel⟩, List.mem_of_getElem? (i := 1024) (by decide +kernel), List.mem_of_getElem? (i := 1250) (by decide +kernel), List.mem_of_getElem? (i := 1251) (by decide +kernel)⟩
theorem lw_p37 : lw_okq (⟨"SleeveDarkerModel", "takesAll", "(I)I"⟩, 52) := ⟨⟨by decide +kernel, by decide +kernel⟩, List.mem_of_getElem? (i := 1024) (by decide +kernel), List.mem_of_getElem? (i := 1254) (by decide +kernel), List.mem_of_getElem? (i := 1255) (by decide +kernel)⟩
theorem lw_p38 : lw_okq (⟨"SleeveDarkerModel", "keep", "(I)I"⟩, 52) := ⟨⟨by decide +kernel, by decide +kernel⟩, List.mem_of_getElem? (i := 1024) (by decide +kernel), List.mem_of_getElem? (i := 1258) (by decide +kernel), List.mem_of_getElem? (i := 1259) (by decide +kernel)⟩
theorem lw_p39 : lw_okq (⟨"SleeveDarkerModel", "shadeOf", "(I)I"⟩, 52) := ⟨⟨by decide +kernel, by decide +kernel⟩, List.mem_of_getElem? (i := 1024) (by decide +kernel), List.mem_of_getElem? (i := 1266) (by decide +kernel), List.mem_of_getElem? (i := 1267) (by decide +kernel)⟩
theorem lw_p40 : lw_okq (⟨"SleeveDarkerModel", "next", "()V"⟩, 52) := ⟨⟨by decide +kernel, by decide +kernel⟩, List.mem_of_getElem? (i := 1024) (by decide +kernel), List.mem_of_getElem? (i := 1278) (by decide +kernel), List.mem_of_getElem? (i := 1279) (by decide +kernel)⟩
theorem lw_p41 : lw_okq (⟨"SleeveDarkerModel", "wordNow", "()I"⟩, 52) := ⟨⟨by decide +kernel, by decide +kernel⟩, List.mem_of_getElem? (i := 1024) (by decide +kernel), List.mem_of_getElem? (i := 1285) (by decide +kernel), List.mem_of_getElem? (i := 1286) (by decide +kernel)⟩
theorem lw_p42 : lw_okq (⟨"SleeveDarkerModel", "isWord", "(IIIIIII)Z"⟩, 52) := ⟨⟨by decide +kernel, by decide +kernel⟩, List.mem_of_getElem? (i := 1024) (by decide +kernel), List.mem_of_getElem? (i := 1289) (by decide +kernel), List.mem_of_getElem? (i := 1290) (by decide +kernel)⟩
theorem lw_p43 : lw_okq (⟨"SleeveDarkerModel", "rule", "(I)V"⟩, 52) := ⟨⟨by decide +kernel, by decide +kernel⟩, List.mem_of_getElem? (i := 1024) (by decide +kernel), List.mem_of_getElem? (i := 1296) (by decide +kernel), List.mem_of_getElem? (i := 1297) (by decide +kernel)⟩
theorem lw_p44 : lw_okq (⟨"SleeveDarkerModel", "isKey", "(I)Z"⟩, 52) := ⟨⟨by decide +kernel, by decide +kernel⟩, List.mem_of_getElem? (i := 1024) (by decide +kernel), List.mem_of_getElem? (i := 1300) (by decide +kernel), List.mem_of_getElem? (i := 1301) (by decide +kernel)⟩
theorem lw_p45 : lw_okq (⟨"SleeveDarkerModel", "wrong", "()V"⟩, 52) := ⟨⟨by decide +kernel, by decide +kernel⟩, List.mem_of_getElem? (i := 1024) (by decide +kernel), List.mem_of_getElem? (i := 1304) (by decide +kernel), List.mem_of_getElem? (i := 1305) (by decide +kernel)⟩
theorem lw_p46 : lw_okq (⟨"SleeveDarkerModel", "either", "()V"⟩, 52) := ⟨⟨by decide +kernel, by decide +kernel⟩, List.mem_of_getElem? (i := 1024) (by decide +kernel), List.mem_of_getElem? (i := 1308) (by decide +kernel), List.mem_of_getElem? (i := 1309) (by decide +kernel)⟩
theorem lw_p47 : lw_okq (⟨"SleeveDarkerModel", "all", "()V"⟩, 52) := ⟨⟨by decide +kernel, by decide +kernel⟩, List.mem_of_getElem? (i := 1024) (by decide +kernel), List.mem_of_getElem? (i := 1312) (by decide +kernel), List.mem_of_getElem? (i := 1313) (by decide +kernel)⟩
def lw_privs_3 : List (MethodName × Nat) := [(⟨"SleeveDarkerModel", "bears", "(II)I"⟩, 52), (⟨"SleeveDarkerModel", "bear", "(II)I"⟩, 52), (⟨"SleeveDarkerModel", "findFacts", "(IIIIII)V"⟩, 52), (⟨"SleeveDarkerModel", "gives", "(I)I"⟩, 52), (⟨"SleeveDarkerModel", "brings", "(I)I"⟩, 52), (⟨"SleeveDarkerModel", "takesAll", "(I)I"⟩, 52), (⟨"SleeveDarkerModel", "keep", "(I)I"⟩, 52), (⟨"SleeveDarkerModel", "shadeOf", "(I)I"⟩, 52), (⟨"SleeveDarkerModel", "next", "()V"⟩, 52), (⟨"SleeveDarkerModel", "wordNow", "()I"⟩, 52), (⟨"SleeveDarkerModel", "isWord", "(IIIIIII)Z"⟩, 52), (⟨"SleeveDarkerModel", "rule", "(I)V"⟩, 52), (⟨"SleeveDarkerModel", "isKey", "(I)Z"⟩, 52), (⟨"SleeveDarkerModel", "wrong", "()V"⟩, 52), (⟨"SleeveDarkerModel", "either", "()V"⟩, 52), (⟨"SleeveDarkerModel", "all", "()V"⟩, 52)]
theorem lw_r3 : ∀ q ∈ lw_privs_3, lw_okq q := List.forall_mem_cons.mpr ⟨lw_p32, List.forall_mem_cons.mpr ⟨lw_p33, List.forall_mem_cons.mpr ⟨lw_p34, List.forall_mem_cons.mpr ⟨lw_p35, List.forall_mem_cons.mpr ⟨lw_p36, List.forall_mem_cons.mpr ⟨lw_p37, List.forall_mem_cons.mpr ⟨lw_p38, List.forall_mem_cons.mpr ⟨lw_p39, List.forall_mem_cons.mpr ⟨lw_p40, List.forall_mem_cons.mpr ⟨lw_p41, List.forall_mem_cons.mpr ⟨lw_p42, List.forall_mem_cons.mpr ⟨lw_p43, List.forall_mem_cons.mpr ⟨lw_p44, List.forall_mem_cons.mpr ⟨lw_p45, List.forall_mem_cons.mpr ⟨lw_p46, List.forall_mem_cons.mpr ⟨lw_p47, fun _ h => absurd h List.not_mem_nil⟩⟩⟩⟩⟩⟩⟩⟩⟩⟩⟩⟩⟩⟩⟩⟩
theorem lw_p48 : lw_okq (⟨"SleeveDarkerModel", "denied", "()V"⟩, 52) := ⟨⟨by decide +kernel, by decide +kernel⟩, List.mem_of_getElem? (i := 1024) (by decide +kernel), List.mem_of_getElem? (i := 1316) (by decide +kernel), List.mem_of_getElem? (i := 1317) (by decide +kernel)⟩
theorem lw_p49 : lw_okq (⟨"SleeveDarkerModel", "opens", "()Z"⟩, 52) := ⟨⟨by decide +kernel, by decide +kernel⟩, List.mem_of_getElem? (i := 1024) (by decide +kernel), List.mem_of_getElem? (i := 1320) (by decide +kernel), List.mem_of_getElem? (i := 1321) (by decide +kernel)⟩
theorem lw_p50 : lw_okq (⟨"SleeveDarkerModel", "addStep", "(II)V"⟩, 52) := ⟨⟨by decide +kernel, by decide +kernel⟩, List.mem_of_getElem? (i := 1024) (by decide +kernel), List.mem_of_getElem? (i := 1324) (by decide +kernel), List.mem_of_getElem? (i := 1325) (by decide +kernel)⟩
theorem lw_p51 : lw_okq (⟨"SleeveDarkerModel", "sum", "()V"⟩, 52) := ⟨⟨by decide +kernel, by decide +kernel⟩, List.mem_of_getElem? (i := 1024) (by decide +kernel), List.mem_of_getElem? (i := 1328) (by decide +kernel), List.mem_of_getElem? (i := 1329) (by decide +kernel)⟩
theorem lw_p52 : lw_okq (⟨"SleeveDarkerModel", "term", "()V"⟩, 52) := ⟨⟨by decide +kernel, by decide +kernel⟩, List.mem_of_getElem? (i := 1024) (by decide +kernel), List.mem_of_getElem? (i := 1332) (by decide +kernel), List.mem_of_getElem? (i := 1333) (by decide +kernel)⟩
theorem lw_p53 : lw_okq (⟨"SleeveDarkerModel", "one", "()V"⟩, 52) := ⟨⟨by decide +kernel, by decide +kernel⟩, List.mem_of_getElem? (i := 1024) (by decide +kernel), List.mem_of_getElem? (i := 1336) (by decide +kernel), List.mem_of_getElem? (i := 1337) (by decide +kernel)⟩
theorem lw_p54 : lw_okq (⟨"SleeveDarkerModel", "isSign", "(I)Z"⟩, 52) := ⟨⟨by decide +kernel, by decide +kernel⟩, List.mem_of_getElem? (i := 1024) (by decide +kernel), List.mem_of_getElem? (i := 1340) (by decide +kernel), List.mem_of_getElem? (i := 1341) (by decide +kernel)⟩
theorem lw_p55 : lw_okq (⟨"SleeveDarkerModel", "seenOf", "(II)I"⟩, 52) := ⟨⟨by decide +kernel, by decide +kernel⟩, List.mem_of_getElem? (i := 1024) (by decide +kernel), List.mem_of_getElem? (i := 1352) (by decide +kernel), List.mem_of_getElem? (i := 1353) (by decide +kernel)⟩
theorem lw_p56 : lw_okq (⟨"SleeveDarkerModel", "doMeet", "(IIII)Z"⟩, 52) := ⟨⟨by decide +kernel, by decide +kernel⟩, List.mem_of_getElem? (i := 1024) (by decide +kernel), List.mem_of_getElem? (i := 1360) (by decide +kernel), List.mem_of_getElem? (i := 1361) (by decide +kernel)⟩
theorem lw_p57 : lw_okq (⟨"SleeveDarkerModel", "judged", "(II)I"⟩, 52) := ⟨⟨by decide +kernel, by decide +kernel⟩, List.mem_of_getElem? (i := 1024) (by decide +kernel), List.mem_of_getElem? (i := 1376) (by decide +kernel), List.mem_of_getElem? (i := 1377) (by decide +kernel)⟩
theorem lw_p58 : lw_okq (⟨"SleeveDarkerModel", "findDigits", "(I)V"⟩, 52) := ⟨⟨by decide +kernel, by decide +kernel⟩, List.mem_of_getElem? (i := 1024) (by decide +kernel), List.mem_of_getElem? (i := 1380) (by decide +kernel), List.mem_of_getElem? (i := 1381) (by decide +kernel)⟩
theorem lw_p59 : lw_okq (⟨"SleeveDarkerModel", "findCan", "(I)V"⟩, 52) := ⟨⟨by decide +kernel, by decide +kernel⟩, List.mem_of_getElem? (i := 1024) (by decide +kernel), List.mem_of_getElem? (i := 1388) (by decide +kernel), List.mem_of_getElem? (i := 1389) (by decide +kernel)⟩
theorem lw_p60 : lw_okq (⟨"SleeveDarkerModel", "findMay", "(I)V"⟩, 52) := ⟨⟨by decide +kernel, by decide +kernel⟩, List.mem_of_getElem? (i := 1024) (by decide +kernel), List.mem_of_getElem? (i := 1392) (by decide +kernel), List.mem_of_getElem? (i := 1393) (by decide +kernel)⟩
theorem lw_p61 : lw_okq (⟨"SleeveDarkerModel", "isGood", "(II)Z"⟩, 52) := ⟨⟨by decide +kernel, by decide +kernel⟩, List.mem_of_getElem? (i := 1024) (by decide +kernel), List.mem_of_getElem? (i := 1396) (by decide +kernel), List.mem_of_getElem? (i := 1397) (by decide +kernel)⟩
theorem lw_p62 : lw_okq (⟨"SleeveDarkerModel", "lastDay", "()I"⟩, 52) := ⟨⟨by decide +kernel, by decide +kernel⟩, List.mem_of_getElem? (i := 1024) (by decide +kernel), List.mem_of_getElem? (i := 1404) (by decide +kernel), List.mem_of_getElem? (i := 1405) (by decide +kernel)⟩
theorem lw_p63 : lw_okq (⟨"SleeveDarkerModel", "take", "(III)V"⟩, 52) := ⟨⟨by decide +kernel, by decide +kernel⟩, List.mem_of_getElem? (i := 1024) (by decide +kernel), List.mem_of_getElem? (i := 1408) (by decide +kernel), List.mem_of_getElem? (i := 1409) (by decide +kernel)⟩
def lw_privs_4 : List (MethodName × Nat) := [(⟨"SleeveDarkerModel", "denied", "()V"⟩, 52), (⟨"SleeveDarkerModel", "opens", "()Z"⟩, 52), (⟨"SleeveDarkerModel", "addStep", "(II)V"⟩, 52), (⟨"SleeveDarkerModel", "sum", "()V"⟩, 52), (⟨"SleeveDarkerModel", "term", "()V"⟩, 52), (⟨"SleeveDarkerModel", "one", "()V"⟩, 52), (⟨"SleeveDarkerModel", "isSign", "(I)Z"⟩, 52), (⟨"SleeveDarkerModel", "seenOf", "(II)I"⟩, 52), (⟨"SleeveDarkerModel", "doMeet", "(IIII)Z"⟩, 52), (⟨"SleeveDarkerModel", "judged", "(II)I"⟩, 52), (⟨"SleeveDarkerModel", "findDigits", "(I)V"⟩, 52), (⟨"SleeveDarkerModel", "findCan", "(I)V"⟩, 52), (⟨"SleeveDarkerModel", "findMay", "(I)V"⟩, 52), (⟨"SleeveDarkerModel", "isGood", "(II)Z"⟩, 52), (⟨"SleeveDarkerModel", "lastDay", "()I"⟩, 52), (⟨"SleeveDarkerModel", "take", "(III)V"⟩, 52)]
theorem lw_r4 : ∀ q ∈ lw_privs_4, lw_okq q := List.forall_mem_cons.mpr ⟨lw_p48, List.forall_mem_cons.mpr ⟨lw_p49, List.forall_mem_cons.mpr ⟨lw_p50, List.forall_mem_cons.mpr ⟨lw_p51, List.forall_mem_cons.mpr ⟨lw_p52, List.forall_mem_cons.mpr ⟨lw_p53, List.forall_mem_cons.mpr ⟨lw_p54, List.forall_mem_cons.mpr ⟨lw_p55, List.forall_mem_cons.mpr ⟨lw_p56, List.forall_mem_cons.mpr ⟨lw_p57, List.forall_mem_cons.mpr ⟨lw_p58, List.forall_mem_cons.mpr ⟨lw_p59, List.forall_mem_cons.mpr ⟨lw_p60, List.forall_mem_cons.mpr ⟨lw_p61, List.forall_mem_cons.mpr ⟨lw_p62, List.forall_mem_cons.mpr ⟨lw_p63, fun _ h => absurd h List.not_mem_nil⟩⟩⟩⟩⟩⟩⟩⟩⟩⟩⟩⟩⟩⟩⟩⟩
theorem lw_p64 : lw_okq (⟨"SleeveDarkerModel", "findMost", "()V"⟩, 52) := ⟨⟨by decide +kernel, by decide +kernel⟩, List.mem_of_getElem? (i := 1024) (by decide +kernel), List.mem_of_getElem? (i := 1420) (by decide +kernel), List.mem_of_getElem? (i := 1421) (by decide +kernel)⟩
theorem lw_p65 : lw_okq (⟨"SleeveDarkerModel", "goOn", "(IIII)V"⟩, 52) := ⟨⟨by decide +kernel, by decide +kernel⟩, List.mem_of_getElem? (i := 1024) (by decide +kernel), List.mem_of_getElem? (i := 1424) (by decide +kernel), List.mem_of_getElem? (i := 1425) (by decide +kernel)⟩
theorem lw_p66 : lw_okq (⟨"SleeveDarkerModel", "allOunces", "()I"⟩, 52) := ⟨⟨by decide +kernel, by decide +kernel⟩, List.mem_of_getElem? (i := 1024) (by decide +kernel), List.mem_of_getElem? (i := 1428) (by decide +kernel), List.mem_of_getElem? (i := 1429) (by decide +kernel)⟩
theorem lw_p67 : lw_okq (⟨"SleeveDarkerModel", "doneMany", "()I"⟩, 52) := ⟨⟨by decide +kernel, by decide +kernel⟩, List.mem_of_getElem? (i := 1024) (by decide +kernel), List.mem_of_getElem? (i := 1444) (by decide +kernel), List.mem_of_getElem? (i := 1445) (by decide +kernel)⟩
def lw_privs_5 : List (MethodName × Nat) := [(⟨"SleeveDarkerModel", "findMost", "()V"⟩, 52), (⟨"SleeveDarkerModel", "goOn", "(IIII)V"⟩, 52), (⟨"SleeveDarkerModel", "allOunces", "()I"⟩, 52), (⟨"SleeveDarkerModel", "doneMany", "()I"⟩, 52)]
theorem lw_r5 : ∀ q ∈ lw_privs_5, lw_okq q := List.forall_mem_cons.mpr ⟨lw_p64, List.forall_mem_cons.mpr ⟨lw_p65, List.forall_mem_cons.mpr ⟨lw_p66, List.forall_mem_cons.mpr ⟨lw_p67, fun _ h => absurd h List.not_mem_nil⟩⟩⟩⟩
def lw_privs : List (MethodName × Nat) := lw_privs_1 ++ (lw_privs_2 ++ (lw_privs_3 ++ (lw_privs_4 ++ (lw_privs_5))))
def lw_tbl : List Cond := k2_sels lw_privs ++ tables_1
theorem lw_privs_ok : ∀ q ∈ lw_privs, lw_okq q := by
  show ∀ q ∈ lw_privs_1 ++ (lw_privs_2 ++ (lw_privs_3 ++ (lw_privs_4 ++ (lw_privs_5)))), lw_okq q
  exact List.forall_mem_append.mpr ⟨lw_r1, List.forall_mem_append.mpr ⟨lw_r2, List.forall_mem_append.mpr ⟨lw_r3, List.forall_mem_append.mpr ⟨lw_r4, lw_r5⟩⟩⟩⟩
end
section
def RX0 : String := "SleeveDarker$Begun"
def TX0 : u_T := fun k => match k with
  | 0 => ("SleeveDarker$Coat", "kind", "I", true)
  | 1 => ("SleeveDarker$Coat", "size", "I", true)
  | 2 => ("SleeveDarker$Coat", "number", "I", true)
  | 3 => ("SleeveDarker$Coat", "worth", "I", true)
  | 4 => ("SleeveDarker$Coat", "done", "Z", false)
  | 5 => ("SleeveDarker$Coat", "parting", "I", false)
  | 6 => ("SleeveDarker$Coat", "day", "I", false)
  | 7 => ("SleeveDarker$Coat", "imageDone", "Z", false)
  | 8 => ("SleeveDarker$Coat", "imageParting", "I", false)
  | _ => ("SleeveDarker$Coat", "imageDay", "I", false)
def tyX0 : Nat → FieldType := fun k => match k with
  | 0 => .int
  | 1 => .int
  | 2 => .int
  | 3 => .int
  | 4 => .boolean
  | 5 => .int
  | 6 => .int
  | 7 => .boolean
  | 8 => .int
  | _ => .int
abbrev wsX00 : List Cond := u_ws RX0 TX0 10
theorem nmX0 : ∀ a, a < 10 → ∀ b, b < 10 → a ≠ b → (TX0 a).2.1 ≠ (TX0 b).2.1 := by decide +kernel
theorem tyX0_ok : ∀ k, k < 10 → parseFieldDescriptor (TX0 k).2.2.1 = some (tyX0 k) := by decide +kernel
abbrev cX0_init : ByteArray := prog_2_method_1_code
def yX0_init : MethodName := ⟨RX0, "<init>", "(IIII)V"⟩
abbrev cX0_takes : ByteArray := prog_2_method_2_code
def yX0_takes : MethodName := ⟨RX0, "takes", "(I)I"⟩
def RX1 : String := "SleeveDarker$Blend"
def TX1 : u_T := fun k => match k with
  | 0 => ("SleeveDarker$Coat", "kind", "I", true)
  | 1 => ("SleeveDarker$Coat", "size", "I", true)
  | 2 => ("SleeveDarker$Coat", "number", "I", true)
  | 3 => ("SleeveDarker$Coat", "worth", "I", true)
  | 4 => ("SleeveDarker$Coat", "done", "Z", false)
  | 5 => ("SleeveDarker$Coat", "parting", "I", false)
  | 6 => ("SleeveDarker$Coat", "day", "I", false)
  | 7 => ("SleeveDarker$Coat", "imageDone", "Z", false)
  | 8 => ("SleeveDarker$Coat", "imageParting", "I", false)
  | _ => ("SleeveDarker$Coat", "imageDay", "I", false)
def tyX1 : Nat → FieldType := fun k => match k with
  | 0 => .int
  | 1 => .int
  | 2 => .int
  | 3 => .int
  | 4 => .boolean
  | 5 => .int
  | 6 => .int
  | 7 => .boolean
  | 8 => .int
  | _ => .int
abbrev wsX10 : List Cond := u_ws RX1 TX1 10
theorem nmX1 : ∀ a, a < 10 → ∀ b, b < 10 → a ≠ b → (TX1 a).2.1 ≠ (TX1 b).2.1 := by decide +kernel
theorem tyX1_ok : ∀ k, k < 10 → parseFieldDescriptor (TX1 k).2.2.1 = some (tyX1 k) := by decide +kernel
abbrev cX1_init : ByteArray := prog_3_method_1_code
def yX1_init : MethodName := ⟨RX1, "<init>", "(IIII)V"⟩
abbrev cX1_bears : ByteArray := prog_3_method_2_code
def yX1_bears : MethodName := ⟨RX1, "bears", "(I)I"⟩
def RX2 : String := "SleeveDarker$Coat"
def TX2 : u_T := fun k => match k with
  | 0 => ("SleeveDarker$Coat", "kind", "I", true)
  | 1 => ("SleeveDarker$Coat", "size", "I", true)
  | 2 => ("SleeveDarker$Coat", "number", "I", true)
  | 3 => ("SleeveDarker$Coat", "worth", "I", true)
  | 4 => ("SleeveDarker$Coat", "done", "Z", false)
  | 5 => ("SleeveDarker$Coat", "parting", "I", false)
  | 6 => ("SleeveDarker$Coat", "day", "I", false)
  | 7 => ("SleeveDarker$Coat", "imageDone", "Z", false)
  | 8 => ("SleeveDarker$Coat", "imageParting", "I", false)
  | _ => ("SleeveDarker$Coat", "imageDay", "I", false)
def tyX2 : Nat → FieldType := fun k => match k with
  | 0 => .int
  | 1 => .int
  | 2 => .int
  | 3 => .int
  | 4 => .boolean
  | 5 => .int
  | 6 => .int
  | 7 => .boolean
  | 8 => .int
  | _ => .int
abbrev wsX20 : List Cond := u_ws RX2 TX2 10
theorem nmX2 : ∀ a, a < 10 → ∀ b, b < 10 → a ≠ b → (TX2 a).2.1 ≠ (TX2 b).2.1 := by decide +kernel
theorem tyX2_ok : ∀ k, k < 10 → parseFieldDescriptor (TX2 k).2.2.1 = some (tyX2 k) := by decide +kernel
abbrev cX2_init : ByteArray := prog_4_method_1_code
def yX2_init : MethodName := ⟨RX2, "<init>", "(IIII)V"⟩
abbrev cX2_takes : ByteArray := prog_4_method_2_code
def yX2_takes : MethodName := ⟨RX2, "takes", "(I)I"⟩
abbrev cX2_bears : ByteArray := prog_4_method_3_code
def yX2_bears : MethodName := ⟨RX2, "bears", "(I)I"⟩
abbrev cX2_brings : ByteArray := prog_4_method_4_code
def yX2_brings : MethodName := ⟨RX2, "brings", "()I"⟩
abbrev cX2_takesInAll : ByteArray := prog_4_method_5_code
def yX2_takesInAll : MethodName := ⟨RX2, "takesInAll", "()I"⟩
abbrev cX2_finish : ByteArray := prog_4_method_6_code
def yX2_finish : MethodName := ⟨RX2, "finish", "(II)V"⟩
abbrev cX2_keepImage : ByteArray := prog_4_method_7_code
def yX2_keepImage : MethodName := ⟨RX2, "keepImage", "()V"⟩
abbrev cX2_layBack : ByteArray := prog_4_method_8_code
def yX2_layBack : MethodName := ⟨RX2, "layBack", "()V"⟩
def RX3 : String := "SleeveDarker$Cutter"
def TX3 : u_T := fun k => match k with
  | 0 => ("SleeveDarker$Cutter", "best", "I", false)
  | 1 => ("SleeveDarker$Cutter", "bestBits", "I", false)
  | 2 => ("SleeveDarker$Cutter", "ways", "I", false)
  | 3 => ("SleeveDarker$Cutter", "hankCount", "I", false)
  | 4 => ("SleeveDarker$Cutter", "have", "[I", true)
  | 5 => ("SleeveDarker$Cutter", "used", "[I", true)
  | 6 => ("SleeveDarker$Cutter", "apart", "[I", true)
  | 7 => ("SleeveDarker$Cutter", "takes", "[I", true)
  | 8 => ("SleeveDarker$Cutter", "bears", "[I", true)
  | 9 => ("SleeveDarker$Cutter", "picked", "[I", true)
  | 10 => ("SleeveDarker$Cutter", "countsAll", "Z", false)
  | _ => ("SleeveDarker$Cutter", "settled", "Z", false)
def tyX3 : Nat → FieldType := fun k => match k with
  | 0 => .int
  | 1 => .int
  | 2 => .int
  | 3 => .int
  | 4 => .array .int
  | 5 => .array .int
  | 6 => .array .int
  | 7 => .array .int
  | 8 => .array .int
  | 9 => .array .int
  | 10 => .boolean
  | _ => .boolean
abbrev wsX30 : List Cond := u_ws RX3 TX3 12
theorem nmX3 : ∀ a, a < 12 → ∀ b, b < 12 → a ≠ b → (TX3 a).2.1 ≠ (TX3 b).2.1 := by decide +kernel
theorem tyX3_ok : ∀ k, k < 12 → parseFieldDescriptor (TX3 k).2.2.1 = some (tyX3 k) := by decide +kernel
abbrev cX3_init : ByteArray := prog_5_method_1_code
def yX3_init : MethodName := ⟨RX3, "<init>", "()V"⟩
abbrev cX3_layOut : ByteArray := prog_5_method_2_code
def yX3_layOut : MethodName := ⟨RX3, "layOut", "(LSleeveDarker$Coat;LSleeveDarker$Text;LSleeveDarker$Wool;[I)V"⟩
abbrev cX3_fitTogether : ByteArray := prog_5_method_3_code
def yX3_fitTogether : MethodName := ⟨RX3, "fitTogether", "(III)Z"⟩
abbrev cX3_firstWrong : ByteArray := prog_5_method_4_code
def yX3_firstWrong : MethodName := ⟨RX3, "firstWrong", "(I)I"⟩
abbrev cX3_takeAway : ByteArray := prog_5_method_5_code
def yX3_takeAway : MethodName := ⟨RX3, "takeAway", "(I[I)V"⟩
abbrev cX3_findBest : ByteArray := prog_5_method_6_code
def yX3_findBest : MethodName := ⟨RX3, "findBest", "(Z)V"⟩
abbrev cX3_pickFrom : ByteArray := prog_5_method_7_code
def yX3_pickFrom : MethodName := ⟨RX3, "pickFrom", "(II)V"⟩
abbrev cX3_fitsBelow : ByteArray := prog_5_method_8_code
def yX3_fitsBelow : MethodName := ⟨RX3, "fitsBelow", "(II)Z"⟩
abbrev cX3_weigh : ByteArray := prog_5_method_9_code
def yX3_weigh : MethodName := ⟨RX3, "weigh", "(I)V"⟩
def RX4 : String := "SleeveDarker$Fine"
def TX4 : u_T := fun k => match k with
  | 0 => ("SleeveDarker$Coat", "kind", "I", true)
  | 1 => ("SleeveDarker$Coat", "size", "I", true)
  | 2 => ("SleeveDarker$Coat", "number", "I", true)
  | 3 => ("SleeveDarker$Coat", "worth", "I", true)
  | 4 => ("SleeveDarker$Coat", "done", "Z", false)
  | 5 => ("SleeveDarker$Coat", "parting", "I", false)
  | 6 => ("SleeveDarker$Coat", "day", "I", false)
  | 7 => ("SleeveDarker$Coat", "imageDone", "Z", false)
  | 8 => ("SleeveDarker$Coat", "imageParting", "I", false)
  | _ => ("SleeveDarker$Coat", "imageDay", "I", false)
def tyX4 : Nat → FieldType := fun k => match k with
  | 0 => .int
  | 1 => .int
  | 2 => .int
  | 3 => .int
  | 4 => .boolean
  | 5 => .int
  | 6 => .int
  | 7 => .boolean
  | 8 => .int
  | _ => .int
abbrev wsX40 : List Cond := u_ws RX4 TX4 10
theorem nmX4 : ∀ a, a < 10 → ∀ b, b < 10 → a ≠ b → (TX4 a).2.1 ≠ (TX4 b).2.1 := by decide +kernel
theorem tyX4_ok : ∀ k, k < 10 → parseFieldDescriptor (TX4 k).2.2.1 = some (tyX4 k) := by decide +kernel
abbrev cX4_init : ByteArray := prog_6_method_1_code
def yX4_init : MethodName := ⟨RX4, "<init>", "(IIII)V"⟩
abbrev cX4_takes : ByteArray := prog_6_method_2_code
def yX4_takes : MethodName := ⟨RX4, "takes", "(I)I"⟩
abbrev cX4_bears : ByteArray := prog_6_method_3_code
def yX4_bears : MethodName := ⟨RX4, "bears", "(I)I"⟩
abbrev cX4_brings : ByteArray := prog_6_method_4_code
def yX4_brings : MethodName := ⟨RX4, "brings", "()I"⟩
def RX5 : String := "SleeveDarker$Planner"
def TX5 : u_T := fun k => match k with
  | 0 => ("SleeveDarker$Planner", "bestValue", "I", false)
  | 1 => ("SleeveDarker$Planner", "bestOrder", "I", false)
  | 2 => ("SleeveDarker$Planner", "bestLength", "I", false)
  | 3 => ("SleeveDarker$Planner", "cutter", "LSleeveDarker$Cutter;", true)
  | 4 => ("SleeveDarker$Planner", "open", "[LSleeveDarker$Coat;", true)
  | _ => ("SleeveDarker$Planner", "ounces", "[[I", true)
def tyX5 : Nat → FieldType := fun k => match k with
  | 0 => .int
  | 1 => .int
  | 2 => .int
  | 3 => .object "SleeveDarker$Cutter"
  | 4 => .array (.object "SleeveDarker$Coat")
  | _ => .array (.array .int)
abbrev wsX50 : List Cond := u_ws RX5 TX5 6
theorem nmX5 : ∀ a, a < 6 → ∀ b, b < 6 → a ≠ b → (TX5 a).2.1 ≠ (TX5 b).2.1 := by decide +kernel
theorem tyX5_ok : ∀ k, k < 6 → parseFieldDescriptor (TX5 k).2.2.1 = some (tyX5 k) := by decide +kernel
abbrev cX5_init : ByteArray := prog_7_method_1_code
def yX5_init : MethodName := ⟨RX5, "<init>", "()V"⟩
abbrev cX5_plan : ByteArray := prog_7_method_2_code
def yX5_plan : MethodName := ⟨RX5, "plan", "([LSleeveDarker$Coat;LSleeveDarker$Text;LSleeveDarker$Wool;II)V"⟩
abbrev cX5_bound : ByteArray := prog_7_method_3_code
def yX5_bound : MethodName := ⟨RX5, "bound", "([LSleeveDarker$Coat;I)I"⟩
abbrev cX5_keepOpen : ByteArray := prog_7_method_4_code
def yX5_keepOpen : MethodName := ⟨RX5, "keepOpen", "([LSleeveDarker$Coat;)V"⟩
abbrev cX5_goOn : ByteArray := prog_7_method_5_code
def yX5_goOn : MethodName := ⟨RX5, "goOn", "(LSleeveDarker$Text;LSleeveDarker$Wool;IIII)V"⟩
abbrev cX5_isBetter : ByteArray := prog_7_method_6_code
def yX5_isBetter : MethodName := ⟨RX5, "isBetter", "(III)Z"⟩
def RX6 : String := "SleeveDarker$Promised"
def TX6 : u_T := fun k => match k with
  | 0 => ("SleeveDarker$Coat", "kind", "I", true)
  | 1 => ("SleeveDarker$Coat", "size", "I", true)
  | 2 => ("SleeveDarker$Coat", "number", "I", true)
  | 3 => ("SleeveDarker$Coat", "worth", "I", true)
  | 4 => ("SleeveDarker$Coat", "done", "Z", false)
  | 5 => ("SleeveDarker$Coat", "parting", "I", false)
  | 6 => ("SleeveDarker$Coat", "day", "I", false)
  | 7 => ("SleeveDarker$Coat", "imageDone", "Z", false)
  | 8 => ("SleeveDarker$Coat", "imageParting", "I", false)
  | _ => ("SleeveDarker$Coat", "imageDay", "I", false)
def tyX6 : Nat → FieldType := fun k => match k with
  | 0 => .int
  | 1 => .int
  | 2 => .int
  | 3 => .int
  | 4 => .boolean
  | 5 => .int
  | 6 => .int
  | 7 => .boolean
  | 8 => .int
  | _ => .int
abbrev wsX60 : List Cond := u_ws RX6 TX6 10
theorem nmX6 : ∀ a, a < 10 → ∀ b, b < 10 → a ≠ b → (TX6 a).2.1 ≠ (TX6 b).2.1 := by decide +kernel
theorem tyX6_ok : ∀ k, k < 10 → parseFieldDescriptor (TX6 k).2.2.1 = some (tyX6 k) := by decide +kernel
abbrev cX6_init : ByteArray := prog_8_method_1_code
def yX6_init : MethodName := ⟨RX6, "<init>", "(IIII)V"⟩
abbrev cX6_bears : ByteArray := prog_8_method_2_code
def yX6_bears : MethodName := ⟨RX6, "bears", "(I)I"⟩
abbrev cX6_brings : ByteArray := prog_8_method_3_code
def yX6_brings : MethodName := ⟨RX6, "brings", "()I"⟩
abbrev cX6_daysLate : ByteArray := prog_8_method_4_code
def yX6_daysLate : MethodName := ⟨RX6, "daysLate", "(I)I"⟩
def RX7 : String := "SleeveDarker$Reader"
def TX7 : u_T := fun k => match k with
  | 0 => ("SleeveDarker$Reader", "fault", "I", false)
  | 1 => ("SleeveDarker$Reader", "tapeSize", "I", false)
  | 2 => ("SleeveDarker$Reader", "tape", "[B", true)
  | 3 => ("SleeveDarker$Reader", "token", "I", false)
  | 4 => ("SleeveDarker$Reader", "tokenStart", "I", false)
  | 5 => ("SleeveDarker$Reader", "tokenEnd", "I", false)
  | 6 => ("SleeveDarker$Reader", "number", "I", false)
  | 7 => ("SleeveDarker$Reader", "open", "I", false)
  | 8 => ("SleeveDarker$Reader", "code", "[I", true)
  | _ => ("SleeveDarker$Reader", "codeSize", "I", false)
def tyX7 : Nat → FieldType := fun k => match k with
  | 0 => .int
  | 1 => .int
  | 2 => .array .byte
  | 3 => .int
  | 4 => .int
  | 5 => .int
  | 6 => .int
  | 7 => .int
  | 8 => .array .int
  | _ => .int
abbrev wsX70 : List Cond := u_ws RX7 TX7 10
theorem nmX7 : ∀ a, a < 10 → ∀ b, b < 10 → a ≠ b → (TX7 a).2.1 ≠ (TX7 b).2.1 := by decide +kernel
theorem tyX7_ok : ∀ k, k < 10 → parseFieldDescriptor (TX7 k).2.2.1 = some (tyX7 k) := by decide +kernel
abbrev cX7_init : ByteArray := prog_9_method_1_code
def yX7_init : MethodName := ⟨RX7, "<init>", "()V"⟩
abbrev cX7_addByte : ByteArray := prog_9_method_2_code
def yX7_addByte : MethodName := ⟨RX7, "addByte", "(B)V"⟩
abbrev cX7_readTape : ByteArray := prog_9_method_3_code
def yX7_readTape : MethodName := ⟨RX7, "readTape", "()LSleeveDarker$Text;"⟩
abbrev cX7_readE : ByteArray := prog_9_method_4_code
def yX7_readE : MethodName := ⟨RX7, "readE", "()V"⟩
abbrev cX7_readAnd : ByteArray := prog_9_method_5_code
def yX7_readAnd : MethodName := ⟨RX7, "readAnd", "()V"⟩
abbrev cX7_readNot : ByteArray := prog_9_method_6_code
def yX7_readNot : MethodName := ⟨RX7, "readNot", "()V"⟩
abbrev cX7_readSum : ByteArray := prog_9_method_7_code
def yX7_readSum : MethodName := ⟨RX7, "readSum", "()V"⟩
abbrev cX7_readTerm : ByteArray := prog_9_method_8_code
def yX7_readTerm : MethodName := ⟨RX7, "readTerm", "()V"⟩
abbrev cX7_readOne : ByteArray := prog_9_method_9_code
def yX7_readOne : MethodName := ⟨RX7, "readOne", "()V"⟩
abbrev cX7_opened : ByteArray := prog_9_method_10_code
def yX7_opened : MethodName := ⟨RX7, "opened", "()Z"⟩
abbrev cX7_accept : ByteArray := prog_9_method_11_code
def yX7_accept : MethodName := ⟨RX7, "accept", "(I)Z"⟩
abbrev cX7_need : ByteArray := prog_9_method_12_code
def yX7_need : MethodName := ⟨RX7, "need", "(I)V"⟩
abbrev cX7_fail : ByteArray := prog_9_method_13_code
def yX7_fail : MethodName := ⟨RX7, "fail", "()V"⟩
abbrev cX7_emit : ByteArray := prog_9_method_14_code
def yX7_emit : MethodName := ⟨RX7, "emit", "(I)V"⟩
abbrev cX7_step : ByteArray := prog_9_method_15_code
def yX7_step : MethodName := ⟨RX7, "step", "()V"⟩
abbrev cX7_takeNumber : ByteArray := prog_9_method_16_code
def yX7_takeNumber : MethodName := ⟨RX7, "takeNumber", "()V"⟩
abbrev cX7_takeWord : ByteArray := prog_9_method_17_code
def yX7_takeWord : MethodName := ⟨RX7, "takeWord", "()V"⟩
abbrev cX7_isSpelled : ByteArray := prog_9_method_18_code
def yX7_isSpelled : MethodName := ⟨RX7, "isSpelled", "(II)Z"⟩
abbrev cX7_isBlank : ByteArray := prog_9_method_19_code
def yX7_isBlank : MethodName := ⟨RX7, "isBlank", "(I)Z"⟩
abbrev cX7_isDigit : ByteArray := prog_9_method_20_code
def yX7_isDigit : MethodName := ⟨RX7, "isDigit", "(I)Z"⟩
abbrev cX7_isLetter : ByteArray := prog_9_method_21_code
def yX7_isLetter : MethodName := ⟨RX7, "isLetter", "(I)Z"⟩
def RX8 : String := "SleeveDarker$Striped"
def TX8 : u_T := fun k => match k with
  | 0 => ("SleeveDarker$Coat", "kind", "I", true)
  | 1 => ("SleeveDarker$Coat", "size", "I", true)
  | 2 => ("SleeveDarker$Coat", "number", "I", true)
  | 3 => ("SleeveDarker$Coat", "worth", "I", true)
  | 4 => ("SleeveDarker$Coat", "done", "Z", false)
  | 5 => ("SleeveDarker$Coat", "parting", "I", false)
  | 6 => ("SleeveDarker$Coat", "day", "I", false)
  | 7 => ("SleeveDarker$Coat", "imageDone", "Z", false)
  | 8 => ("SleeveDarker$Coat", "imageParting", "I", false)
  | _ => ("SleeveDarker$Coat", "imageDay", "I", false)
def tyX8 : Nat → FieldType := fun k => match k with
  | 0 => .int
  | 1 => .int
  | 2 => .int
  | 3 => .int
  | 4 => .boolean
  | 5 => .int
  | 6 => .int
  | 7 => .boolean
  | 8 => .int
  | _ => .int
abbrev wsX80 : List Cond := u_ws RX8 TX8 10
theorem nmX8 : ∀ a, a < 10 → ∀ b, b < 10 → a ≠ b → (TX8 a).2.1 ≠ (TX8 b).2.1 := by decide +kernel
theorem tyX8_ok : ∀ k, k < 10 → parseFieldDescriptor (TX8 k).2.2.1 = some (tyX8 k) := by decide +kernel
abbrev cX8_init : ByteArray := prog_10_method_1_code
def yX8_init : MethodName := ⟨RX8, "<init>", "(IIII)V"⟩
abbrev cX8_bears : ByteArray := prog_10_method_2_code
def yX8_bears : MethodName := ⟨RX8, "bears", "(I)I"⟩
abbrev cX8_brings : ByteArray := prog_10_method_3_code
def yX8_brings : MethodName := ⟨RX8, "brings", "()I"⟩
def RX9 : String := "SleeveDarker$Text"
def TX9 : u_T := fun k => match k with
  | 0 => ("SleeveDarker$Text", "code", "[I", true)
  | 1 => ("SleeveDarker$Text", "ends", "[I", true)
  | 2 => ("SleeveDarker$Text", "stack", "[I", true)
  | _ => ("SleeveDarker$Text", "names", "[I", true)
def tyX9 : Nat → FieldType := fun k => match k with
  | 0 => .array .int
  | 1 => .array .int
  | 2 => .array .int
  | _ => .array .int
abbrev wsX90 : List Cond := u_ws RX9 TX9 4
theorem nmX9 : ∀ a, a < 4 → ∀ b, b < 4 → a ≠ b → (TX9 a).2.1 ≠ (TX9 b).2.1 := by decide +kernel
theorem tyX9_ok : ∀ k, k < 4 → parseFieldDescriptor (TX9 k).2.2.1 = some (tyX9 k) := by decide +kernel
abbrev cX9_init : ByteArray := prog_11_method_1_code
def yX9_init : MethodName := ⟨RX9, "<init>", "([I[I)V"⟩
abbrev cX9_firstRule : ByteArray := prog_11_method_2_code
def yX9_firstRule : MethodName := ⟨RX9, "firstRule", "()LSleeveDarker$Text;"⟩
abbrev cX9_seenApart : ByteArray := prog_11_method_3_code
def yX9_seenApart : MethodName := ⟨RX9, "seenApart", "(LSleeveDarker$Wool;[III)I"⟩
abbrev cX9_bearsInAll : ByteArray := prog_11_method_4_code
def yX9_bearsInAll : MethodName := ⟨RX9, "bearsInAll", "(LSleeveDarker$Coat;I)I"⟩
abbrev cX9_keepBy : ByteArray := prog_11_method_5_code
def yX9_keepBy : MethodName := ⟨RX9, "keepBy", "(LSleeveDarker$Coat;)I"⟩
abbrev cX9_nameNumbers : ByteArray := prog_11_method_6_code
def yX9_nameNumbers : MethodName := ⟨RX9, "nameNumbers", "(IIIIII)V"⟩
abbrev cX9_valueOf : ByteArray := prog_11_method_7_code
def yX9_valueOf : MethodName := ⟨RX9, "valueOf", "(I)I"⟩
abbrev cX9_ofOne : ByteArray := prog_11_method_8_code
def yX9_ofOne : MethodName := ⟨RX9, "ofOne", "(II)I"⟩
abbrev cX9_ofTwo : ByteArray := prog_11_method_9_code
def yX9_ofTwo : MethodName := ⟨RX9, "ofTwo", "(III)I"⟩
def RX10 : String := "SleeveDarker$Wool"
def TX10 : u_T := fun k => match k with
  | 0 => ("SleeveDarker$Wool", "ounces", "[I", true)
  | 1 => ("SleeveDarker$Wool", "shade", "[I", true)
  | 2 => ("SleeveDarker$Wool", "vat", "[I", true)
  | 3 => ("SleeveDarker$Wool", "faded", "[I", true)
  | 4 => ("SleeveDarker$Wool", "size", "I", false)
  | 5 => ("SleeveDarker$Wool", "imageOunces", "[I", true)
  | 6 => ("SleeveDarker$Wool", "imageFaded", "[I", true)
  | _ => ("SleeveDarker$Wool", "imageSize", "I", false)
def tyX10 : Nat → FieldType := fun k => match k with
  | 0 => .array .int
  | 1 => .array .int
  | 2 => .array .int
  | 3 => .array .int
  | 4 => .int
  | 5 => .array .int
  | 6 => .array .int
  | _ => .int
abbrev wsX100 : List Cond := u_ws RX10 TX10 8
theorem nmX10 : ∀ a, a < 8 → ∀ b, b < 8 → a ≠ b → (TX10 a).2.1 ≠ (TX10 b).2.1 := by decide +kernel
theorem tyX10_ok : ∀ k, k < 8 → parseFieldDescriptor (TX10 k).2.2.1 = some (tyX10 k) := by decide +kernel
abbrev cX10_init : ByteArray := prog_12_method_1_code
def yX10_init : MethodName := ⟨RX10, "<init>", "()V"⟩
abbrev cX10_has : ByteArray := prog_12_method_2_code
def yX10_has : MethodName := ⟨RX10, "has", "(I)Z"⟩
abbrev cX10_addHank : ByteArray := prog_12_method_3_code
def yX10_addHank : MethodName := ⟨RX10, "addHank", "(III)I"⟩
abbrev cX10_fadedShade : ByteArray := prog_12_method_4_code
def yX10_fadedShade : MethodName := ⟨RX10, "fadedShade", "(I)I"⟩
abbrev cX10_ouncesInAll : ByteArray := prog_12_method_5_code
def yX10_ouncesInAll : MethodName := ⟨RX10, "ouncesInAll", "()I"⟩
abbrev cX10_hanksInBits : ByteArray := prog_12_method_6_code
def yX10_hanksInBits : MethodName := ⟨RX10, "hanksInBits", "()I"⟩
abbrev cX10_keepImage : ByteArray := prog_12_method_7_code
def yX10_keepImage : MethodName := ⟨RX10, "keepImage", "()V"⟩
abbrev cX10_layBack : ByteArray := prog_12_method_8_code
def yX10_layBack : MethodName := ⟨RX10, "layBack", "()V"⟩
def RX11 : String := "SleeveDarker"
def TX11 : u_T := fun k => match k with
  | 0 => ("SleeveDarker", "wool", "LSleeveDarker$Wool;", true)
  | 1 => ("SleeveDarker", "coats", "[LSleeveDarker$Coat;", true)
  | 2 => ("SleeveDarker", "coatCount", "I", false)
  | 3 => ("SleeveDarker", "reader", "LSleeveDarker$Reader;", true)
  | 4 => ("SleeveDarker", "texts", "[LSleeveDarker$Text;", true)
  | 5 => ("SleeveDarker", "textCount", "I", false)
  | 6 => ("SleeveDarker", "rule", "LSleeveDarker$Text;", false)
  | 7 => ("SleeveDarker", "ruleNumber", "I", false)
  | 8 => ("SleeveDarker", "cutter", "LSleeveDarker$Cutter;", true)
  | 9 => ("SleeveDarker", "planner", "LSleeveDarker$Planner;", true)
  | 10 => ("SleeveDarker", "imageKept", "Z", false)
  | 11 => ("SleeveDarker", "imageCoats", "I", false)
  | 12 => ("SleeveDarker", "imageRule", "I", false)
  | 13 => ("SleeveDarker", "sheets", "[[I", true)
  | 14 => ("SleeveDarker", "sheetSort", "[I", true)
  | _ => ("SleeveDarker", "sheetSize", "[I", true)
def tyX11 : Nat → FieldType := fun k => match k with
  | 0 => .object "SleeveDarker$Wool"
  | 1 => .array (.object "SleeveDarker$Coat")
  | 2 => .int
  | 3 => .object "SleeveDarker$Reader"
  | 4 => .array (.object "SleeveDarker$Text")
  | 5 => .int
  | 6 => .object "SleeveDarker$Text"
  | 7 => .int
  | 8 => .object "SleeveDarker$Cutter"
  | 9 => .object "SleeveDarker$Planner"
  | 10 => .boolean
  | 11 => .int
  | 12 => .int
  | 13 => .array (.array .int)
  | 14 => .array .int
  | _ => .array .int
abbrev wsX110 : List Cond := u_ws RX11 TX11 16
theorem nmX11 : ∀ a, a < 16 → ∀ b, b < 16 → a ≠ b → (TX11 a).2.1 ≠ (TX11 b).2.1 := by decide +kernel
theorem tyX11_ok : ∀ k, k < 16 → parseFieldDescriptor (TX11 k).2.2.1 = some (tyX11 k) := by decide +kernel
abbrev cX11_init : ByteArray := prog_1_method_1_code
def yX11_init : MethodName := ⟨RX11, "<init>", "()V"⟩
abbrev cX11_hank : ByteArray := prog_1_method_2_code
def yX11_hank : MethodName := ⟨RX11, "hank", "(III)I"⟩
abbrev cX11_ounces : ByteArray := prog_1_method_3_code
def yX11_ounces : MethodName := ⟨RX11, "ounces", "(II)I"⟩
abbrev cX11_fade : ByteArray := prog_1_method_4_code
def yX11_fade : MethodName := ⟨RX11, "fade", "(II)I"⟩
abbrev cX11_coat : ByteArray := prog_1_method_5_code
def yX11_coat : MethodName := ⟨RX11, "coat", "(III)I"⟩
abbrev cX11_told : ByteArray := prog_1_method_6_code
def yX11_told : MethodName := ⟨RX11, "told", "(II)I"⟩
abbrev cX11_hankTold : ByteArray := prog_1_method_7_code
def yX11_hankTold : MethodName := ⟨RX11, "hankTold", "(II)I"⟩
abbrev cX11_feed : ByteArray := prog_1_method_8_code
def yX11_feed : MethodName := ⟨RX11, "feed", "(IJ)I"⟩
abbrev cX11_text : ByteArray := prog_1_method_9_code
def yX11_text : MethodName := ⟨RX11, "text", "()I"⟩
abbrev cX11_force : ByteArray := prog_1_method_10_code
def yX11_force : MethodName := ⟨RX11, "force", "(I)I"⟩
abbrev cX11_seen : ByteArray := prog_1_method_11_code
def yX11_seen : MethodName := ⟨RX11, "seen", "(II)I"⟩
abbrev cX11_mayMeet : ByteArray := prog_1_method_12_code
def yX11_mayMeet : MethodName := ⟨RX11, "mayMeet", "(III)I"⟩
abbrev cX11_between : ByteArray := prog_1_method_13_code
def yX11_between : MethodName := ⟨RX11, "between", "(III)I"⟩
abbrev cX11_range : ByteArray := prog_1_method_14_code
def yX11_range : MethodName := ⟨RX11, "range", "(I)I"⟩
abbrev cX11_judge : ByteArray := prog_1_method_15_code
def yX11_judge : MethodName := ⟨RX11, "judge", "(II)I"⟩
abbrev cX11_can : ByteArray := prog_1_method_16_code
def yX11_can : MethodName := ⟨RX11, "can", "(II)I"⟩
abbrev cX11_knit : ByteArray := prog_1_method_17_code
def yX11_knit : MethodName := ⟨RX11, "knit", "(III)I"⟩
abbrev cX11_undo : ByteArray := prog_1_method_18_code
def yX11_undo : MethodName := ⟨RX11, "undo", "(I)I"⟩
abbrev cX11_most : ByteArray := prog_1_method_19_code
def yX11_most : MethodName := ⟨RX11, "most", "(I)I"⟩
abbrev cX11_more : ByteArray := prog_1_method_20_code
def yX11_more : MethodName := ⟨RX11, "more", "(I)I"⟩
abbrev cX11_late : ByteArray := prog_1_method_21_code
def yX11_late : MethodName := ⟨RX11, "late", "(I)I"⟩
abbrev cX11_image : ByteArray := prog_1_method_22_code
def yX11_image : MethodName := ⟨RX11, "image", "()I"⟩
abbrev cX11_back : ByteArray := prog_1_method_23_code
def yX11_back : MethodName := ⟨RX11, "back", "()I"⟩
abbrev cX11_count : ByteArray := prog_1_method_24_code
def yX11_count : MethodName := ⟨RX11, "count", "(I)I"⟩
abbrev cX11_sheet : ByteArray := prog_1_method_25_code
def yX11_sheet : MethodName := ⟨RX11, "sheet", "(III)I"⟩
abbrev cX11_cell : ByteArray := prog_1_method_26_code
def yX11_cell : MethodName := ⟨RX11, "cell", "(III)I"⟩
abbrev cX11_copy : ByteArray := prog_1_method_27_code
def yX11_copy : MethodName := ⟨RX11, "copy", "(IIIII)I"⟩
abbrev cX11_hanks : ByteArray := prog_1_method_28_code
def yX11_hanks : MethodName := ⟨RX11, "hanks", "(IIII)I"⟩
abbrev cX11_taken : ByteArray := prog_1_method_29_code
def yX11_taken : MethodName := ⟨RX11, "taken", "(II)I"⟩
abbrev cX11_isWithin : ByteArray := prog_1_method_30_code
def yX11_isWithin : MethodName := ⟨RX11, "isWithin", "(III)Z"⟩
abbrev cX11_hasBit : ByteArray := prog_1_method_31_code
def yX11_hasBit : MethodName := ⟨RX11, "hasBit", "(II)Z"⟩
abbrev cX11_clamp : ByteArray := prog_1_method_32_code
def yX11_clamp : MethodName := ⟨RX11, "clamp", "(II)I"⟩
abbrev cX11_hankOf : ByteArray := prog_1_method_33_code
def yX11_hankOf : MethodName := ⟨RX11, "hankOf", "(II)I"⟩
abbrev cX11_newCoat : ByteArray := prog_1_method_34_code
def yX11_newCoat : MethodName := ⟨RX11, "newCoat", "(III)LSleeveDarker$Coat;"⟩
abbrev cX11_isOfKind : ByteArray := prog_1_method_35_code
def yX11_isOfKind : MethodName := ⟨RX11, "isOfKind", "(LSleeveDarker$Coat;I)Z"⟩
abbrev cX11_coatAt : ByteArray := prog_1_method_36_code
def yX11_coatAt : MethodName := ⟨RX11, "coatAt", "(I)LSleeveDarker$Coat;"⟩
abbrev cX11_useRule : ByteArray := prog_1_method_37_code
def yX11_useRule : MethodName := ⟨RX11, "useRule", "(I)V"⟩
abbrev cX11_lastDay : ByteArray := prog_1_method_38_code
def yX11_lastDay : MethodName := ⟨RX11, "lastDay", "()I"⟩
abbrev cX11_doneCount : ByteArray := prog_1_method_39_code
def yX11_doneCount : MethodName := ⟨RX11, "doneCount", "()I"⟩
abbrev cX11_keptByInAll : ByteArray := prog_1_method_40_code
def yX11_keptByInAll : MethodName := ⟨RX11, "keptByInAll", "()I"⟩
abbrev cX11_isSheet : ByteArray := prog_1_method_41_code
def yX11_isSheet : MethodName := ⟨RX11, "isSheet", "(I)Z"⟩
abbrev cX11_hasRun : ByteArray := prog_1_method_42_code
def yX11_hasRun : MethodName := ⟨RX11, "hasRun", "(III)Z"⟩
abbrev cX11_cutToSort : ByteArray := prog_1_method_43_code
def yX11_cutToSort : MethodName := ⟨RX11, "cutToSort", "(II)I"⟩
def RX12 : String := "SleeveDarkerModel"
def TX12 : u_T := fun k => match k with
  | 0 => ("SleeveDarkerModel", "code", "I", false)
  | 1 => ("SleeveDarkerModel", "hanks", "I", false)
  | 2 => ("SleeveDarkerModel", "ounces", "[I", true)
  | 3 => ("SleeveDarkerModel", "shade", "[I", true)
  | 4 => ("SleeveDarkerModel", "vat", "[I", true)
  | 5 => ("SleeveDarkerModel", "faded", "[I", true)
  | 6 => ("SleeveDarkerModel", "coats", "I", false)
  | 7 => ("SleeveDarkerModel", "kind", "[I", true)
  | 8 => ("SleeveDarkerModel", "wide", "[I", true)
  | 9 => ("SleeveDarkerModel", "number", "[I", true)
  | 10 => ("SleeveDarkerModel", "value", "[I", true)
  | 11 => ("SleeveDarkerModel", "isDone", "[Z", true)
  | 12 => ("SleeveDarkerModel", "doneBy", "[I", true)
  | 13 => ("SleeveDarkerModel", "doneOn", "[I", true)
  | 14 => ("SleeveDarkerModel", "tape", "[B", true)
  | 15 => ("SleeveDarkerModel", "taped", "I", false)
  | 16 => ("SleeveDarkerModel", "texts", "I", false)
  | 17 => ("SleeveDarkerModel", "inForce", "I", false)
  | 18 => ("SleeveDarkerModel", "act", "[I", true)
  | 19 => ("SleeveDarkerModel", "with", "[I", true)
  | 20 => ("SleeveDarkerModel", "endOf", "[I", true)
  | 21 => ("SleeveDarkerModel", "laid", "I", false)
  | 22 => ("SleeveDarkerModel", "fault", "I", false)
  | 23 => ("SleeveDarkerModel", "open", "I", false)
  | 24 => ("SleeveDarkerModel", "from", "I", false)
  | 25 => ("SleeveDarkerModel", "to", "I", false)
  | 26 => ("SleeveDarkerModel", "sortNow", "I", false)
  | 27 => ("SleeveDarkerModel", "isNow", "I", false)
  | 28 => ("SleeveDarkerModel", "pile", "[I", true)
  | 29 => ("SleeveDarkerModel", "facts", "[I", true)
  | 30 => ("SleeveDarkerModel", "digit", "[I", true)
  | 31 => ("SleeveDarkerModel", "given", "[I", true)
  | 32 => ("SleeveDarkerModel", "bestParting", "I", false)
  | 33 => ("SleeveDarkerModel", "bestBits", "I", false)
  | 34 => ("SleeveDarkerModel", "canMany", "I", false)
  | 35 => ("SleeveDarkerModel", "mayTwo", "[Z", true)
  | 36 => ("SleeveDarkerModel", "mostSum", "I", false)
  | 37 => ("SleeveDarkerModel", "mostOrder", "I", false)
  | 38 => ("SleeveDarkerModel", "mostCoats", "I", false)
  | 39 => ("SleeveDarkerModel", "hasImage", "Z", false)
  | 40 => ("SleeveDarkerModel", "keptHanks", "I", false)
  | 41 => ("SleeveDarkerModel", "keptCoats", "I", false)
  | 42 => ("SleeveDarkerModel", "keptRule", "I", false)
  | 43 => ("SleeveDarkerModel", "keptOunces", "[I", true)
  | 44 => ("SleeveDarkerModel", "keptFaded", "[I", true)
  | 45 => ("SleeveDarkerModel", "keptDone", "[Z", true)
  | 46 => ("SleeveDarkerModel", "keptBy", "[I", true)
  | 47 => ("SleeveDarkerModel", "keptOn", "[I", true)
  | 48 => ("SleeveDarkerModel", "sheetSort", "[I", true)
  | 49 => ("SleeveDarkerModel", "sheetSize", "[I", true)
  | 50 => ("SleeveDarkerModel", "items", "[I", true)
  | _ => ("SleeveDarkerModel", "moving", "[I", true)
def tyX12 : Nat → FieldType := fun k => match k with
  | 0 => .int
  | 1 => .int
  | 2 => .array .int
  | 3 => .array .int
  | 4 => .array .int
  | 5 => .array .int
  | 6 => .int
  | 7 => .array .int
  | 8 => .array .int
  | 9 => .array .int
  | 10 => .array .int
  | 11 => .array .boolean
  | 12 => .array .int
  | 13 => .array .int
  | 14 => .array .byte
  | 15 => .int
  | 16 => .int
  | 17 => .int
  | 18 => .array .int
  | 19 => .array .int
  | 20 => .array .int
  | 21 => .int
  | 22 => .int
  | 23 => .int
  | 24 => .int
  | 25 => .int
  | 26 => .int
  | 27 => .int
  | 28 => .array .int
  | 29 => .array .int
  | 30 => .array .int
  | 31 => .array .int
  | 32 => .int
  | 33 => .int
  | 34 => .int
  | 35 => .array .boolean
  | 36 => .int
  | 37 => .int
  | 38 => .int
  | 39 => .boolean
  | 40 => .int
  | 41 => .int
  | 42 => .int
  | 43 => .array .int
  | 44 => .array .int
  | 45 => .array .boolean
  | 46 => .array .int
  | 47 => .array .int
  | 48 => .array .int
  | 49 => .array .int
  | 50 => .array .int
  | _ => .array .int
abbrev wsX120 : List Cond := u_ws RX12 TX12 52
theorem nmX12 : ∀ a, a < 52 → ∀ b, b < 52 → a ≠ b → (TX12 a).2.1 ≠ (TX12 b).2.1 := by decide +kernel
theorem tyX12_ok : ∀ k, k < 52 → parseFieldDescriptor (TX12 k).2.2.1 = some (tyX12 k) := by decide +kernel
abbrev cX12_init : ByteArray := prog_14_method_1_code
def yX12_init : MethodName := ⟨RX12, "<init>", "()V"⟩
abbrev cX12_in : ByteArray := prog_14_method_3_code
def yX12_in : MethodName := ⟨RX12, "in", "(III)Z"⟩
abbrev cX12_held : ByteArray := prog_14_method_4_code
def yX12_held : MethodName := ⟨RX12, "held", "(II)I"⟩
abbrev cX12_isHank : ByteArray := prog_14_method_5_code
def yX12_isHank : MethodName := ⟨RX12, "isHank", "(I)Z"⟩
abbrev cX12_isCoat : ByteArray := prog_14_method_6_code
def yX12_isCoat : MethodName := ⟨RX12, "isCoat", "(I)Z"⟩
abbrev cX12_hank : ByteArray := prog_14_method_7_code
def yX12_hank : MethodName := ⟨RX12, "hank", "(III)I"⟩
abbrev cX12_ounces : ByteArray := prog_14_method_8_code
def yX12_ounces : MethodName := ⟨RX12, "ounces", "(II)I"⟩
abbrev cX12_fade : ByteArray := prog_14_method_9_code
def yX12_fade : MethodName := ⟨RX12, "fade", "(II)I"⟩
abbrev cX12_coat : ByteArray := prog_14_method_10_code
def yX12_coat : MethodName := ⟨RX12, "coat", "(III)I"⟩
abbrev cX12_shadeOf : ByteArray := prog_14_method_11_code
def yX12_shadeOf : MethodName := ⟨RX12, "shadeOf", "(I)I"⟩
abbrev cX12_takes : ByteArray := prog_14_method_12_code
def yX12_takes : MethodName := ⟨RX12, "takes", "(II)I"⟩
abbrev cX12_takesAll : ByteArray := prog_14_method_13_code
def yX12_takesAll : MethodName := ⟨RX12, "takesAll", "(I)I"⟩
abbrev cX12_bears : ByteArray := prog_14_method_14_code
def yX12_bears : MethodName := ⟨RX12, "bears", "(II)I"⟩
abbrev cX12_brings : ByteArray := prog_14_method_15_code
def yX12_brings : MethodName := ⟨RX12, "brings", "(I)I"⟩
abbrev cX12_oneOf : ByteArray := prog_14_method_16_code
def yX12_oneOf : MethodName := ⟨RX12, "oneOf", "(I)I"⟩
abbrev cX12_otherOf : ByteArray := prog_14_method_17_code
def yX12_otherOf : MethodName := ⟨RX12, "otherOf", "(I)I"⟩
abbrev cX12_told : ByteArray := prog_14_method_18_code
def yX12_told : MethodName := ⟨RX12, "told", "(II)I"⟩
abbrev cX12_hankTold : ByteArray := prog_14_method_19_code
def yX12_hankTold : MethodName := ⟨RX12, "hankTold", "(II)I"⟩
abbrev cX12_feed : ByteArray := prog_14_method_20_code
def yX12_feed : MethodName := ⟨RX12, "feed", "(IJ)I"⟩
abbrev cX12_isLetter : ByteArray := prog_14_method_21_code
def yX12_isLetter : MethodName := ⟨RX12, "isLetter", "(I)Z"⟩
abbrev cX12_isDigit : ByteArray := prog_14_method_22_code
def yX12_isDigit : MethodName := ⟨RX12, "isDigit", "(I)Z"⟩
abbrev cX12_isWord : ByteArray := prog_14_method_23_code
def yX12_isWord : MethodName := ⟨RX12, "isWord", "(IIIIIII)Z"⟩
abbrev cX12_wordNow : ByteArray := prog_14_method_24_code
def yX12_wordNow : MethodName := ⟨RX12, "wordNow", "()I"⟩
abbrev cX12_next : ByteArray := prog_14_method_25_code
def yX12_next : MethodName := ⟨RX12, "next", "()V"⟩
abbrev cX12_wrong : ByteArray := prog_14_method_26_code
def yX12_wrong : MethodName := ⟨RX12, "wrong", "()V"⟩
abbrev cX12_isSign : ByteArray := prog_14_method_27_code
def yX12_isSign : MethodName := ⟨RX12, "isSign", "(I)Z"⟩
abbrev cX12_isKey : ByteArray := prog_14_method_28_code
def yX12_isKey : MethodName := ⟨RX12, "isKey", "(I)Z"⟩
abbrev cX12_addStep : ByteArray := prog_14_method_29_code
def yX12_addStep : MethodName := ⟨RX12, "addStep", "(II)V"⟩
abbrev cX12_opens : ByteArray := prog_14_method_30_code
def yX12_opens : MethodName := ⟨RX12, "opens", "()Z"⟩
abbrev cX12_either : ByteArray := prog_14_method_31_code
def yX12_either : MethodName := ⟨RX12, "either", "()V"⟩
abbrev cX12_all : ByteArray := prog_14_method_32_code
def yX12_all : MethodName := ⟨RX12, "all", "()V"⟩
abbrev cX12_denied : ByteArray := prog_14_method_33_code
def yX12_denied : MethodName := ⟨RX12, "denied", "()V"⟩
abbrev cX12_sum : ByteArray := prog_14_method_34_code
def yX12_sum : MethodName := ⟨RX12, "sum", "()V"⟩
abbrev cX12_term : ByteArray := prog_14_method_35_code
def yX12_term : MethodName := ⟨RX12, "term", "()V"⟩
abbrev cX12_one : ByteArray := prog_14_method_36_code
def yX12_one : MethodName := ⟨RX12, "one", "()V"⟩
abbrev cX12_rule : ByteArray := prog_14_method_37_code
def yX12_rule : MethodName := ⟨RX12, "rule", "(I)V"⟩
abbrev cX12_text : ByteArray := prog_14_method_38_code
def yX12_text : MethodName := ⟨RX12, "text", "()I"⟩
abbrev cX12_force : ByteArray := prog_14_method_39_code
def yX12_force : MethodName := ⟨RX12, "force", "(I)I"⟩
abbrev cX12_twoOf : ByteArray := prog_14_method_40_code
def yX12_twoOf : MethodName := ⟨RX12, "twoOf", "(III)I"⟩
abbrev cX12_gives : ByteArray := prog_14_method_41_code
def yX12_gives : MethodName := ⟨RX12, "gives", "(I)I"⟩
abbrev cX12_findFacts : ByteArray := prog_14_method_42_code
def yX12_findFacts : MethodName := ⟨RX12, "findFacts", "(IIIIII)V"⟩
abbrev cX12_bear : ByteArray := prog_14_method_43_code
def yX12_bear : MethodName := ⟨RX12, "bear", "(II)I"⟩
abbrev cX12_keep : ByteArray := prog_14_method_44_code
def yX12_keep : MethodName := ⟨RX12, "keep", "(I)I"⟩
abbrev cX12_seenOf : ByteArray := prog_14_method_45_code
def yX12_seenOf : MethodName := ⟨RX12, "seenOf", "(II)I"⟩
abbrev cX12_seen : ByteArray := prog_14_method_46_code
def yX12_seen : MethodName := ⟨RX12, "seen", "(II)I"⟩
abbrev cX12_doMeet : ByteArray := prog_14_method_47_code
def yX12_doMeet : MethodName := ⟨RX12, "doMeet", "(IIII)Z"⟩
abbrev cX12_mayMeet : ByteArray := prog_14_method_48_code
def yX12_mayMeet : MethodName := ⟨RX12, "mayMeet", "(III)I"⟩
abbrev cX12_between : ByteArray := prog_14_method_49_code
def yX12_between : MethodName := ⟨RX12, "between", "(III)I"⟩
abbrev cX12_range : ByteArray := prog_14_method_50_code
def yX12_range : MethodName := ⟨RX12, "range", "(I)I"⟩
abbrev cX12_findDigits : ByteArray := prog_14_method_51_code
def yX12_findDigits : MethodName := ⟨RX12, "findDigits", "(I)V"⟩
abbrev cX12_judged : ByteArray := prog_14_method_52_code
def yX12_judged : MethodName := ⟨RX12, "judged", "(II)I"⟩
abbrev cX12_judge : ByteArray := prog_14_method_53_code
def yX12_judge : MethodName := ⟨RX12, "judge", "(II)I"⟩
abbrev cX12_findMay : ByteArray := prog_14_method_54_code
def yX12_findMay : MethodName := ⟨RX12, "findMay", "(I)V"⟩
abbrev cX12_isGood : ByteArray := prog_14_method_55_code
def yX12_isGood : MethodName := ⟨RX12, "isGood", "(II)Z"⟩
abbrev cX12_findCan : ByteArray := prog_14_method_56_code
def yX12_findCan : MethodName := ⟨RX12, "findCan", "(I)V"⟩
abbrev cX12_can : ByteArray := prog_14_method_57_code
def yX12_can : MethodName := ⟨RX12, "can", "(II)I"⟩
abbrev cX12_take : ByteArray := prog_14_method_58_code
def yX12_take : MethodName := ⟨RX12, "take", "(III)V"⟩
abbrev cX12_lastDay : ByteArray := prog_14_method_59_code
def yX12_lastDay : MethodName := ⟨RX12, "lastDay", "()I"⟩
abbrev cX12_knit : ByteArray := prog_14_method_60_code
def yX12_knit : MethodName := ⟨RX12, "knit", "(III)I"⟩
abbrev cX12_undo : ByteArray := prog_14_method_61_code
def yX12_undo : MethodName := ⟨RX12, "undo", "(I)I"⟩
abbrev cX12_goOn : ByteArray := prog_14_method_62_code
def yX12_goOn : MethodName := ⟨RX12, "goOn", "(IIII)V"⟩
abbrev cX12_findMost : ByteArray := prog_14_method_63_code
def yX12_findMost : MethodName := ⟨RX12, "findMost", "()V"⟩
abbrev cX12_allOunces : ByteArray := prog_14_method_64_code
def yX12_allOunces : MethodName := ⟨RX12, "allOunces", "()I"⟩
abbrev cX12_most : ByteArray := prog_14_method_65_code
def yX12_most : MethodName := ⟨RX12, "most", "(I)I"⟩
abbrev cX12_more : ByteArray := prog_14_method_66_code
def yX12_more : MethodName := ⟨RX12, "more", "(I)I"⟩
abbrev cX12_late : ByteArray := prog_14_method_67_code
def yX12_late : MethodName := ⟨RX12, "late", "(I)I"⟩
abbrev cX12_doneMany : ByteArray := prog_14_method_68_code
def yX12_doneMany : MethodName := ⟨RX12, "doneMany", "()I"⟩
abbrev cX12_image : ByteArray := prog_14_method_69_code
def yX12_image : MethodName := ⟨RX12, "image", "()I"⟩
abbrev cX12_back : ByteArray := prog_14_method_70_code
def yX12_back : MethodName := ⟨RX12, "back", "()I"⟩
abbrev cX12_count : ByteArray := prog_14_method_71_code
def yX12_count : MethodName := ⟨RX12, "count", "(I)I"⟩
abbrev cX12_isSheet : ByteArray := prog_14_method_72_code
def yX12_isSheet : MethodName := ⟨RX12, "isSheet", "(I)Z"⟩
abbrev cX12_sheet : ByteArray := prog_14_method_73_code
def yX12_sheet : MethodName := ⟨RX12, "sheet", "(III)I"⟩
abbrev cX12_cell : ByteArray := prog_14_method_74_code
def yX12_cell : MethodName := ⟨RX12, "cell", "(III)I"⟩
abbrev cX12_copy : ByteArray := prog_14_method_75_code
def yX12_copy : MethodName := ⟨RX12, "copy", "(IIIII)I"⟩
abbrev cX12_hanks : ByteArray := prog_14_method_76_code
def yX12_hanks : MethodName := ⟨RX12, "hanks", "(IIII)I"⟩
abbrev cX12_isUnder : ByteArray := prog_14_method_77_code
def yX12_isUnder : MethodName := ⟨RX12, "isUnder", "(II)Z"⟩
abbrev cX12_taken : ByteArray := prog_14_method_78_code
def yX12_taken : MethodName := ⟨RX12, "taken", "(II)I"⟩
def RJx145de : String := "java/io/Serializable"
def TJx145de : u_T := fun k => match k with
  | _ => ("", "", "", false)
def tyJx145de : Nat → FieldType := fun k => match k with
  | _ => .int
abbrev wsJx145de0 : List Cond := u_ws RJx145de TJx145de 0
theorem nmJx145de : ∀ a, a < 0 → ∀ b, b < 0 → a ≠ b → (TJx145de a).2.1 ≠ (TJx145de b).2.1 := by decide +kernel
theorem tyJx145de_ok : ∀ k, k < 0 → parseFieldDescriptor (TJx145de k).2.2.1 = some (tyJx145de k) := by decide +kernel
def RJx9f9b0 : String := "java/lang/CharSequence"
def TJx9f9b0 : u_T := fun k => match k with
  | _ => ("", "", "", false)
def tyJx9f9b0 : Nat → FieldType := fun k => match k with
  | _ => .int
abbrev wsJx9f9b00 : List Cond := u_ws RJx9f9b0 TJx9f9b0 0
theorem nmJx9f9b0 : ∀ a, a < 0 → ∀ b, b < 0 → a ≠ b → (TJx9f9b0 a).2.1 ≠ (TJx9f9b0 b).2.1 := by decide +kernel
theorem tyJx9f9b0_ok : ∀ k, k < 0 → parseFieldDescriptor (TJx9f9b0 k).2.2.1 = some (tyJx9f9b0 k) := by decide +kernel
def RJ11 : String := "java/lang/Character"
def TJ11 : u_T := fun k => match k with
  | _ => ("", "", "", false)
def tyJ11 : Nat → FieldType := fun k => match k with
  | _ => .int
abbrev wsJ110 : List Cond := u_ws RJ11 TJ11 0
theorem nmJ11 : ∀ a, a < 0 → ∀ b, b < 0 → a ≠ b → (TJ11 a).2.1 ≠ (TJ11 b).2.1 := by decide +kernel
theorem tyJ11_ok : ∀ k, k < 0 → parseFieldDescriptor (TJ11 k).2.2.1 = some (tyJ11 k) := by decide +kernel
abbrev cJ11_isValidCodePoint_9a6ad : ByteArray := prog_15_method_11_code
def yJ11_isValidCodePoint_9a6ad : MethodName := ⟨RJ11, "isValidCodePoint", "(I)Z"⟩
abbrev cJ11_highSurrogate_5068e : ByteArray := prog_15_method_28_code
def yJ11_highSurrogate_5068e : MethodName := ⟨RJ11, "highSurrogate", "(I)C"⟩
abbrev cJ11_lowSurrogate_5068e : ByteArray := prog_15_method_29_code
def yJ11_lowSurrogate_5068e : MethodName := ⟨RJ11, "lowSurrogate", "(I)C"⟩
def RJx8e188 : String := "java/lang/Cloneable"
def TJx8e188 : u_T := fun k => match k with
  | _ => ("", "", "", false)
def tyJx8e188 : Nat → FieldType := fun k => match k with
  | _ => .int
abbrev wsJx8e1880 : List Cond := u_ws RJx8e188 TJx8e188 0
theorem nmJx8e188 : ∀ a, a < 0 → ∀ b, b < 0 → a ≠ b → (TJx8e188 a).2.1 ≠ (TJx8e188 b).2.1 := by decide +kernel
theorem tyJx8e188_ok : ∀ k, k < 0 → parseFieldDescriptor (TJx8e188 k).2.2.1 = some (tyJx8e188 k) := by decide +kernel
def RJxb160c : String := "java/lang/Comparable"
def TJxb160c : u_T := fun k => match k with
  | _ => ("", "", "", false)
def tyJxb160c : Nat → FieldType := fun k => match k with
  | _ => .int
abbrev wsJxb160c0 : List Cond := u_ws RJxb160c TJxb160c 0
theorem nmJxb160c : ∀ a, a < 0 → ∀ b, b < 0 → a ≠ b → (TJxb160c a).2.1 ≠ (TJxb160c b).2.1 := by decide +kernel
theorem tyJxb160c_ok : ∀ k, k < 0 → parseFieldDescriptor (TJxb160c k).2.2.1 = some (tyJxb160c k) := by decide +kernel
def RJ9 : String := "java/lang/Math"
def TJ9 : u_T := fun k => match k with
  | _ => ("", "", "", false)
def tyJ9 : Nat → FieldType := fun k => match k with
  | _ => .int
abbrev wsJ90 : List Cond := u_ws RJ9 TJ9 0
theorem nmJ9 : ∀ a, a < 0 → ∀ b, b < 0 → a ≠ b → (TJ9 a).2.1 ≠ (TJ9 b).2.1 := by decide +kernel
theorem tyJ9_ok : ∀ k, k < 0 → parseFieldDescriptor (TJ9 k).2.2.1 = some (tyJ9 k) := by decide +kernel
abbrev cJ9_abs_0f7a4 : ByteArray := prog_17_method_59_code
def yJ9_abs_0f7a4 : MethodName := ⟨RJ9, "abs", "(I)I"⟩
abbrev cJ9_max_7cf53 : ByteArray := prog_17_method_65_code
def yJ9_max_7cf53 : MethodName := ⟨RJ9, "max", "(II)I"⟩
abbrev cJ9_min_7cf53 : ByteArray := prog_17_method_69_code
def yJ9_min_7cf53 : MethodName := ⟨RJ9, "min", "(II)I"⟩
def RJ0 : String := "java/lang/String"
def TJ0 : u_T := fun k => match k with
  | _ => ("", "", "", false)
def tyJ0 : Nat → FieldType := fun k => match k with
  | _ => .int
abbrev wsJ00 : List Cond := u_ws RJ0 TJ0 0
theorem nmJ0 : ∀ a, a < 0 → ∀ b, b < 0 → a ≠ b → (TJ0 a).2.1 ≠ (TJ0 b).2.1 := by decide +kernel
theorem tyJ0_ok : ∀ k, k < 0 → parseFieldDescriptor (TJ0 k).2.2.1 = some (tyJ0 k) := by decide +kernel
abbrev cJ0_length_8abf5 : ByteArray := prog_18_method_54_code
def yJ0_length_8abf5 : MethodName := ⟨RJ0, "length", "()I"⟩
abbrev cJ0_charAt_5068e : ByteArray := prog_18_method_56_code
def yJ0_charAt_5068e : MethodName := ⟨RJ0, "charAt", "(I)C"⟩
abbrev cJ0_indexOf_0f7a4 : ByteArray := prog_18_method_79_code
def yJ0_indexOf_0f7a4 : MethodName := ⟨RJ0, "indexOf", "(I)I"⟩
abbrev cJ0_indexOf_7cf53 : ByteArray := prog_18_method_80_code
def yJ0_indexOf_7cf53 : MethodName := ⟨RJ0, "indexOf", "(II)I"⟩
abbrev cJ0_coder_7d493 : ByteArray := prog_18_method_152_code
def yJ0_coder_7d493 : MethodName := ⟨RJ0, "coder", "()B"⟩
abbrev cJ0_isLatin1_aae02 : ByteArray := prog_18_method_154_code
def yJ0_isLatin1_aae02 : MethodName := ⟨RJ0, "isLatin1", "()Z"⟩
abbrev cJ0_checkIndex_df160 : ByteArray := prog_18_method_155_code
def yJ0_checkIndex_df160 : MethodName := ⟨RJ0, "checkIndex", "(II)V"⟩
abbrev cJ0_checkBoundsBeginEnd_23922 : ByteArray := prog_18_method_158_code
def yJ0_checkBoundsBeginEnd_23922 : MethodName := ⟨RJ0, "checkBoundsBeginEnd", "(III)V"⟩
def RJ1 : String := "java/lang/StringLatin1"
def TJ1 : u_T := fun k => match k with
  | _ => ("", "", "", false)
def tyJ1 : Nat → FieldType := fun k => match k with
  | _ => .int
abbrev wsJ10 : List Cond := u_ws RJ1 TJ1 0
theorem nmJ1 : ∀ a, a < 0 → ∀ b, b < 0 → a ≠ b → (TJ1 a).2.1 ≠ (TJ1 b).2.1 := by decide +kernel
theorem tyJ1_ok : ∀ k, k < 0 → parseFieldDescriptor (TJ1 k).2.2.1 = some (tyJ1 k) := by decide +kernel
abbrev cJ1_charAt_3b067 : ByteArray := prog_19_method_2_code
def yJ1_charAt_3b067 : MethodName := ⟨RJ1, "charAt", "([BI)C"⟩
abbrev cJ1_canEncode_9a6ad : ByteArray := prog_19_method_4_code
def yJ1_canEncode_9a6ad : MethodName := ⟨RJ1, "canEncode", "(I)Z"⟩
abbrev cJ1_indexOf_4cfef : ByteArray := prog_19_method_22_code
def yJ1_indexOf_4cfef : MethodName := ⟨RJ1, "indexOf", "([BIII)I"⟩
abbrev cJ1_indexOfChar_4cfef : ByteArray := prog_19_method_23_code
def yJ1_indexOfChar_4cfef : MethodName := ⟨RJ1, "indexOfChar", "([BIII)I"⟩
def RJ2 : String := "java/lang/StringUTF16"
def TJ2 : u_T := fun k => match k with
  | _ => ("", "", "", false)
def tyJ2 : Nat → FieldType := fun k => match k with
  | _ => .int
abbrev wsJ20 : List Cond := u_ws RJ2 TJ2 0
theorem nmJ2 : ∀ a, a < 0 → ∀ b, b < 0 → a ≠ b → (TJ2 a).2.1 ≠ (TJ2 b).2.1 := by decide +kernel
theorem tyJ2_ok : ∀ k, k < 0 → parseFieldDescriptor (TJ2 k).2.2.1 = some (tyJ2 k) := by decide +kernel
abbrev cJ2_getChar_3b067 : ByteArray := prog_20_method_5_code
def yJ2_getChar_3b067 : MethodName := ⟨RJ2, "getChar", "([BI)C"⟩
abbrev cJ2_length_9d52b : ByteArray := prog_20_method_6_code
def yJ2_length_9d52b : MethodName := ⟨RJ2, "length", "([B)I"⟩
abbrev cJ2_indexOf_4cfef : ByteArray := prog_20_method_40_code
def yJ2_indexOf_4cfef : MethodName := ⟨RJ2, "indexOf", "([BIII)I"⟩
abbrev cJ2_indexOfChar_4cfef : ByteArray := prog_20_method_47_code
def yJ2_indexOfChar_4cfef : MethodName := ⟨RJ2, "indexOfChar", "([BIII)I"⟩
abbrev cJ2_indexOfCharUnsafe_4cfef : ByteArray := prog_20_method_48_code
def yJ2_indexOfCharUnsafe_4cfef : MethodName := ⟨RJ2, "indexOfCharUnsafe", "([BIII)I"⟩
abbrev cJ2_indexOfSupplementary_4cfef : ByteArray := prog_20_method_49_code
def yJ2_indexOfSupplementary_4cfef : MethodName := ⟨RJ2, "indexOfSupplementary", "([BIII)I"⟩
abbrev cJ2_charAt_3b067 : ByteArray := prog_20_method_83_code
def yJ2_charAt_3b067 : MethodName := ⟨RJ2, "charAt", "([BI)C"⟩
abbrev cJ2_checkIndex_2214a : ByteArray := prog_20_method_91_code
def yJ2_checkIndex_2214a : MethodName := ⟨RJ2, "checkIndex", "(I[B)V"⟩
abbrev cJ2_checkBoundsBeginEnd_d044e : ByteArray := prog_20_method_93_code
def yJ2_checkBoundsBeginEnd_d044e : MethodName := ⟨RJ2, "checkBoundsBeginEnd", "(II[B)V"⟩
def RJ10 : String := "java/lang/System"
def TJ10 : u_T := fun k => match k with
  | _ => ("", "", "", false)
def tyJ10 : Nat → FieldType := fun k => match k with
  | _ => .int
abbrev wsJ100 : List Cond := u_ws RJ10 TJ10 0
theorem nmJ10 : ∀ a, a < 0 → ∀ b, b < 0 → a ≠ b → (TJ10 a).2.1 ≠ (TJ10 b).2.1 := by decide +kernel
theorem tyJ10_ok : ∀ k, k < 0 → parseFieldDescriptor (TJ10 k).2.2.1 = some (tyJ10 k) := by decide +kernel
def RJxfd54e : String := "java/lang/constant/Constable"
def TJxfd54e : u_T := fun k => match k with
  | _ => ("", "", "", false)
def tyJxfd54e : Nat → FieldType := fun k => match k with
  | _ => .int
abbrev wsJxfd54e0 : List Cond := u_ws RJxfd54e TJxfd54e 0
theorem nmJxfd54e : ∀ a, a < 0 → ∀ b, b < 0 → a ≠ b → (TJxfd54e a).2.1 ≠ (TJxfd54e b).2.1 := by decide +kernel
theorem tyJxfd54e_ok : ∀ k, k < 0 → parseFieldDescriptor (TJxfd54e k).2.2.1 = some (tyJxfd54e k) := by decide +kernel
def RJx3cf43 : String := "java/lang/constant/ConstantDesc"
def TJx3cf43 : u_T := fun k => match k with
  | _ => ("", "", "", false)
def tyJx3cf43 : Nat → FieldType := fun k => match k with
  | _ => .int
abbrev wsJx3cf430 : List Cond := u_ws RJx3cf43 TJx3cf43 0
theorem nmJx3cf43 : ∀ a, a < 0 → ∀ b, b < 0 → a ≠ b → (TJx3cf43 a).2.1 ≠ (TJx3cf43 b).2.1 := by decide +kernel
theorem tyJx3cf43_ok : ∀ k, k < 0 → parseFieldDescriptor (TJx3cf43 k).2.2.1 = some (tyJx3cf43 k) := by decide +kernel
def RJ7 : String := "java/util/Arrays"
def TJ7 : u_T := fun k => match k with
  | _ => ("", "", "", false)
def tyJ7 : Nat → FieldType := fun k => match k with
  | _ => .int
abbrev wsJ70 : List Cond := u_ws RJ7 TJ7 0
theorem nmJ7 : ∀ a, a < 0 → ∀ b, b < 0 → a ≠ b → (TJ7 a).2.1 ≠ (TJ7 b).2.1 := by decide +kernel
theorem tyJ7_ok : ∀ k, k < 0 → parseFieldDescriptor (TJ7 k).2.2.1 = some (tyJ7 k) := by decide +kernel
abbrev cJ7_fill_53178 : ByteArray := prog_22_method_103_code
def yJ7_fill_53178 : MethodName := ⟨RJ7, "fill", "([II)V"⟩
abbrev cJ7_copyOf_59c91 : ByteArray := prog_22_method_123_code
def yJ7_copyOf_59c91 : MethodName := ⟨RJ7, "copyOf", "([II)[I"⟩
def RJ3 : String := "jdk/internal/util/Preconditions"
def TJ3 : u_T := fun k => match k with
  | _ => ("", "", "", false)
def tyJ3 : Nat → FieldType := fun k => match k with
  | _ => .int
abbrev wsJ30 : List Cond := u_ws RJ3 TJ3 0
theorem nmJ3 : ∀ a, a < 0 → ∀ b, b < 0 → a ≠ b → (TJ3 a).2.1 ≠ (TJ3 b).2.1 := by decide +kernel
theorem tyJ3_ok : ∀ k, k < 0 → parseFieldDescriptor (TJ3 k).2.2.1 = some (tyJ3 k) := by decide +kernel
abbrev cJ3_checkIndex_8e157 : ByteArray := prog_23_method_11_code
def yJ3_checkIndex_8e157 : MethodName := ⟨RJ3, "checkIndex", "(IILjava/util/function/BiFunction;)I"⟩
abbrev cJ3_checkFromToIndex_8c36e : ByteArray := prog_23_method_12_code
def yJ3_checkFromToIndex_8c36e : MethodName := ⟨RJ3, "checkFromToIndex", "(IIILjava/util/function/BiFunction;)I"⟩
def RL : String := "SleeveDarkerLaw"
abbrev cL_law : ByteArray := code
def yL_law : MethodName := ⟨RL, "law", "([I)Z"⟩
abbrev vwCl : List vw_C := [(RX0, TX0, 10), (RX1, TX1, 10), (RX2, TX2, 10), (RX3, TX3, 12), (RX4, TX4, 10), (RX5, TX5, 6), (RX6, TX6, 10), (RX7, TX7, 10), (RX8, TX8, 10), (RX9, TX9, 4), (RX10, TX10, 8), (RX11, TX11, 16), (RX12, TX12, 52)]
end
section
theorem dX0_init_0 : decode cX0_init 0 = .ok (.aload_n 0, 1) := by decide +kernel
theorem dX0_init_1 : decode cX0_init 1 = .ok (.iload_n 1, 1) := by decide +kernel
theorem dX0_init_2 : decode cX0_init 2 = .ok (.iload_n 2, 1) := by decide +kernel
theorem dX0_init_3 : decode cX0_init 3 = .ok (.iload_n 3, 1) := by decide +kernel
theorem dX0_init_4 : decode cX0_init 4 = .ok (.iload 4, 2) := by decide +kernel
theorem dX0_init_6 : decode cX0_init 6 = .ok (.invokespecial 1, 3) := by decide +kernel
theorem dX0_init_9 : decode cX0_init 9 = .ok (.return_, 1) := by decide +kernel
theorem dX0_takes_0 : decode cX0_takes 0 = .ok (.aload_n 0, 1) := by decide +kernel
theorem dX0_takes_1 : decode cX0_takes 1 = .ok (.getfield 7, 3) := by decide +kernel
theorem dX0_takes_4 : decode cX0_takes 4 = .ok (.iload_n 1, 1) := by decide +kernel
theorem dX0_takes_5 : decode cX0_takes 5 = .ok (.invokestatic 13, 3) := by decide +kernel
theorem dX0_takes_8 : decode cX0_takes 8 = .ok (.ifCond .eq 7, 3) := by decide +kernel
theorem dX0_takes_11 : decode cX0_takes 11 = .ok (.iconst 0, 1) := by decide +kernel
theorem dX0_takes_12 : decode cX0_takes 12 = .ok (.goto 8, 3) := by decide +kernel
theorem dX0_takes_15 : decode cX0_takes 15 = .ok (.aload_n 0, 1) := by decide +kernel
theorem dX0_takes_16 : decode cX0_takes 16 = .ok (.iload_n 1, 1) := by decide +kernel
theorem dX0_takes_17 : decode cX0_takes 17 = .ok (.invokespecial 19, 3) := by decide +kernel
theorem dX0_takes_20 : decode cX0_takes 20 = .ok (.ireturn, 1) := by decide +kernel
theorem dX1_init_0 : decode cX1_init 0 = .ok (.aload_n 0, 1) := by decide +kernel
theorem dX1_init_1 : decode cX1_init 1 = .ok (.iload_n 1, 1) := by decide +kernel
theorem dX1_init_2 : decode cX1_init 2 = .ok (.iload_n 2, 1) := by decide +kernel
theorem dX1_init_3 : decode cX1_init 3 = .ok (.iload_n 3, 1) := by decide +kernel
theorem dX1_init_4 : decode cX1_init 4 = .ok (.iload 4, 2) := by decide +kernel
theorem dX1_init_6 : decode cX1_init 6 = .ok (.invokespecial 1, 3) := by decide +kernel
theorem dX1_init_9 : decode cX1_init 9 = .ok (.return_, 1) := by decide +kernel
theorem dX1_bears_0 : decode cX1_bears 0 = .ok (.aload_n 0, 1) := by decide +kernel
theorem dX1_bears_1 : decode cX1_bears 1 = .ok (.iload_n 1, 1) := by decide +kernel
theorem dX1_bears_2 : decode cX1_bears 2 = .ok (.invokespecial 7, 3) := by decide +kernel
theorem dX1_bears_5 : decode cX1_bears 5 = .ok (.iconst 1, 1) := by decide +kernel
theorem dX1_bears_6 : decode cX1_bears 6 = .ok (.iadd, 1) := by decide +kernel
theorem dX1_bears_7 : decode cX1_bears 7 = .ok (.ireturn, 1) := by decide +kernel
theorem dX2_init_0 : decode cX2_init 0 = .ok (.aload_n 0, 1) := by decide +kernel
theorem dX2_init_1 : decode cX2_init 1 = .ok (.invokespecial 3, 3) := by decide +kernel
theorem dX2_init_4 : decode cX2_init 4 = .ok (.aload_n 0, 1) := by decide +kernel
theorem dX2_init_5 : decode cX2_init 5 = .ok (.iload_n 1, 1) := by decide +kernel
theorem dX2_init_6 : decode cX2_init 6 = .ok (.putfield 9, 3) := by decide +kernel
theorem dX2_init_9 : decode cX2_init 9 = .ok (.aload_n 0, 1) := by decide +kernel
theorem dX2_init_10 : decode cX2_init 10 = .ok (.iload_n 2, 1) := by decide +kernel
theorem dX2_init_11 : decode cX2_init 11 = .ok (.putfield 15, 3) := by decide +kernel
theorem dX2_init_14 : decode cX2_init 14 = .ok (.aload_n 0, 1) := by decide +kernel
theorem dX2_init_15 : decode cX2_init 15 = .ok (.iload_n 3, 1) := by decide +kernel
theorem dX2_init_16 : decode cX2_init 16 = .ok (.putfield 18, 3) := by decide +kernel
theorem dX2_init_19 : decode cX2_init 19 = .ok (.aload_n 0, 1) := by decide +kernel
theorem dX2_init_20 : decode cX2_init 20 = .ok (.iload 4, 2) := by decide +kernel
theorem dX2_init_22 : decode cX2_init 22 = .ok (.putfield 21, 3) := by decide +kernel
theorem dX2_init_25 : decode cX2_init 25 = .ok (.return_, 1) := by decide +kernel
theorem dX2_takes_0 : decode cX2_takes 0 = .ok (.iload_n 1, 1) := by decide +kernel
theorem dX2_takes_1 : decode cX2_takes 1 = .ok (.iconst 2, 1) := by decide +kernel
theorem dX2_takes_2 : decode cX2_takes 2 = .ok (.if_icmp .ge 10, 3) := by decide +kernel
theorem dX2_takes_5 : decode cX2_takes 5 = .ok (.aload_n 0, 1) := by decide +kernel
theorem dX2_takes_6 : decode cX2_takes 6 = .ok (.getfield 15, 3) := by decide +kernel
theorem dX2_takes_9 : decode cX2_takes 9 = .ok (.iconst 1, 1) := by decide +kernel
theorem dX2_takes_10 : decode cX2_takes 10 = .ok (.iadd, 1) := by decide +kernel
theorem dX2_takes_11 : decode cX2_takes 11 = .ok (.ireturn, 1) := by decide +kernel
theorem dX2_takes_12 : decode cX2_takes 12 = .ok (.iload_n 1, 1) := by decide +kernel
theorem dX2_takes_13 : decode cX2_takes 13 = .ok (.iconst 4, 1) := by decide +kernel
theorem dX2_takes_14 : decode cX2_takes 14 = .ok (.if_icmp .ge 12, 3) := by decide +kernel
theorem dX2_takes_17 : decode cX2_takes 17 = .ok (.iconst 2, 1) := by decide +kernel
theorem dX2_takes_18 : decode cX2_takes 18 = .ok (.aload_n 0, 1) := by decide +kernel
theorem dX2_takes_19 : decode cX2_takes 19 = .ok (.getfield 15, 3) := by decide +kernel
theorem dX2_takes_22 : decode cX2_takes 22 = .ok (.imul, 1) := by decide +kernel
theorem dX2_takes_23 : decode cX2_takes 23 = .ok (.goto 4, 3) := by decide +kernel
theorem dX2_takes_26 : decode cX2_takes 26 = .ok (.iconst 1, 1) := by decide +kernel
theorem dX2_takes_27 : decode cX2_takes 27 = .ok (.ireturn, 1) := by decide +kernel
theorem dX2_bears_0 : decode cX2_bears 0 = .ok (.iload_n 1, 1) := by decide +kernel
theorem dX2_bears_1 : decode cX2_bears 1 = .ok (.ifCond .ne 5, 3) := by decide +kernel
theorem dX2_bears_4 : decode cX2_bears 4 = .ok (.iconst 0, 1) := by decide +kernel
theorem dX2_bears_5 : decode cX2_bears 5 = .ok (.ireturn, 1) := by decide +kernel
theorem dX2_bears_6 : decode cX2_bears 6 = .ok (.iload_n 1, 1) := by decide +kernel
theorem dX2_bears_7 : decode cX2_bears 7 = .ok (.iconst 3, 1) := by decide +kernel
theorem dX2_bears_8 : decode cX2_bears 8 = .ok (.if_icmp .ge 7, 3) := by decide +kernel
theorem dX2_bears_11 : decode cX2_bears 11 = .ok (.iconst 2, 1) := by decide +kernel
theorem dX2_bears_12 : decode cX2_bears 12 = .ok (.goto 4, 3) := by decide +kernel
theorem dX2_bears_15 : decode cX2_bears 15 = .ok (.iconst 4, 1) := by decide +kernel
theorem dX2_bears_16 : decode cX2_bears 16 = .ok (.ireturn, 1) := by decide +kernel
theorem dX2_brings_0 : decode cX2_brings 0 = .ok (.aload_n 0, 1) := by decide +kernel
theorem dX2_brings_1 : decode cX2_brings 1 = .ok (.getfield 21, 3) := by decide +kernel
theorem dX2_brings_4 : decode cX2_brings 4 = .ok (.ireturn, 1) := by decide +kernel
theorem dX2_takesInAll_0 : decode cX2_takesInAll 0 = .ok (.iconst 0, 1) := by decide +kernel
theorem dX2_takesInAll_1 : decode cX2_takesInAll 1 = .ok (.istore_n 1, 1) := by decide +kernel
theorem dX2_takesInAll_2 : decode cX2_takesInAll 2 = .ok (.iconst 0, 1) := by decide +kernel
theorem dX2_takesInAll_3 : decode cX2_takesInAll 3 = .ok (.istore_n 2, 1) := by decide +kernel
theorem dX2_takesInAll_4 : decode cX2_takesInAll 4 = .ok (.iload_n 2, 1) := by decide +kernel
theorem dX2_takesInAll_5 : decode cX2_takesInAll 5 = .ok (.iconst 5, 1) := by decide +kernel
theorem dX2_takesInAll_6 : decode cX2_takesInAll 6 = .ok (.if_icmp .ge 17, 3) := by decide +kernel
theorem dX2_takesInAll_9 : decode cX2_takesInAll 9 = .ok (.iload_n 1, 1) := by decide +kernel
theorem dX2_takesInAll_10 : decode cX2_takesInAll 10 = .ok (.aload_n 0, 1) := by decide +kernel
theorem dX2_takesInAll_11 : decode cX2_takesInAll 11 = .ok (.iload_n 2, 1) := by decide +kernel
theorem dX2_takesInAll_12 : decode cX2_takesInAll 12 = .ok (.invokevirtual 24, 3) := by decide +kernel
theorem dX2_takesInAll_15 : decode cX2_takesInAll 15 = .ok (.iadd, 1) := by decide +kernel
theorem dX2_takesInAll_16 : decode cX2_takesInAll 16 = .ok (.istore_n 1, 1) := by decide +kernel
theorem dX2_takesInAll_17 : decode cX2_takesInAll 17 = .ok (.iinc 2 1, 3) := by decide +kernel
theorem dX2_takesInAll_20 : decode cX2_takesInAll 20 = .ok (.goto (-16), 3) := by decide +kernel
theorem dX2_takesInAll_23 : decode cX2_takesInAll 23 = .ok (.iload_n 1, 1) := by decide +kernel
theorem dX2_takesInAll_24 : decode cX2_takesInAll 24 = .ok (.ireturn, 1) := by decide +kernel
theorem dX2_finish_0 : decode cX2_finish 0 = .ok (.aload_n 0, 1) := by decide +kernel
theorem dX2_finish_1 : decode cX2_finish 1 = .ok (.iconst 1, 1) := by decide +kernel
theorem dX2_finish_2 : decode cX2_finish 2 = .ok (.putfield 28, 3) := by decide +kernel
theorem dX2_finish_5 : decode cX2_finish 5 = .ok (.aload_n 0, 1) := by decide +kernel
theorem dX2_finish_6 : decode cX2_finish 6 = .ok (.iload_n 1, 1) := by decide +kernel
theorem dX2_finish_7 : decode cX2_finish 7 = .ok (.putfield 32, 3) := by decide +kernel
theorem dX2_finish_10 : decode cX2_finish 10 = .ok (.aload_n 0, 1) := by decide +kernel
theorem dX2_finish_11 : decode cX2_finish 11 = .ok (.iload_n 2, 1) := by decide +kernel
theorem dX2_finish_12 : decode cX2_finish 12 = .ok (.putfield 35, 3) := by decide +kernel
theorem dX2_finish_15 : decode cX2_finish 15 = .ok (.return_, 1) := by decide +kernel
theorem dX2_keepImage_0 : decode cX2_keepImage 0 = .ok (.aload_n 0, 1) := by decide +kernel
theorem dX2_keepImage_1 : decode cX2_keepImage 1 = .ok (.aload_n 0, 1) := by decide +kernel
theorem dX2_keepImage_2 : decode cX2_keepImage 2 = .ok (.getfield 28, 3) := by decide +kernel
theorem dX2_keepImage_5 : decode cX2_keepImage 5 = .ok (.putfield 38, 3) := by decide +kernel
theorem dX2_keepImage_8 : decode cX2_keepImage 8 = .ok (.aload_n 0, 1) := by decide +kernel
theorem dX2_keepImage_9 : decode cX2_keepImage 9 = .ok (.aload_n 0, 1) := by decide +kernel
theorem dX2_keepImage_10 : decode cX2_keepImage 10 = .ok (.getfield 32, 3) := by decide +kernel
theorem dX2_keepImage_13 : decode cX2_keepImage 13 = .ok (.putfield 41, 3) := by decide +kernel
theorem dX2_keepImage_16 : decode cX2_keepImage 16 = .ok (.aload_n 0, 1) := by decide +kernel
theorem dX2_keepImage_17 : decode cX2_keepImage 17 = .ok (.aload_n 0, 1) := by decide +kernel
theorem dX2_keepImage_18 : decode cX2_keepImage 18 = .ok (.getfield 35, 3) := by decide +kernel
theorem dX2_keepImage_21 : decode cX2_keepImage 21 = .ok (.putfield 44, 3) := by decide +kernel
theorem dX2_keepImage_24 : decode cX2_keepImage 24 = .ok (.return_, 1) := by decide +kernel
theorem dX2_layBack_0 : decode cX2_layBack 0 = .ok (.aload_n 0, 1) := by decide +kernel
theorem dX2_layBack_1 : decode cX2_layBack 1 = .ok (.aload_n 0, 1) := by decide +kernel
theorem dX2_layBack_2 : decode cX2_layBack 2 = .ok (.getfield 38, 3) := by decide +kernel
theorem dX2_layBack_5 : decode cX2_layBack 5 = .ok (.putfield 28, 3) := by decide +kernel
theorem dX2_layBack_8 : decode cX2_layBack 8 = .ok (.aload_n 0, 1) := by decide +kernel
theorem dX2_layBack_9 : decode cX2_layBack 9 = .ok (.aload_n 0, 1) := by decide +kernel
theorem dX2_layBack_10 : decode cX2_layBack 10 = .ok (.getfield 41, 3) := by decide +kernel
theorem dX2_layBack_13 : decode cX2_layBack 13 = .ok (.putfield 32, 3) := by decide +kernel
theorem dX2_layBack_16 : decode cX2_layBack 16 = .ok (.aload_n 0, 1) := by decide +kernel
theorem dX2_layBack_17 : decode cX2_layBack 17 = .ok (.aload_n 0, 1) := by decide +kernel
theorem dX2_layBack_18 : decode cX2_layBack 18 = .ok (.getfield 44, 3) := by decide +kernel
theorem dX2_layBack_21 : decode cX2_layBack 21 = .ok (.putfield 35, 3) := by decide +kernel
theorem dX2_layBack_24 : decode cX2_layBack 24 = .ok (.return_, 1) := by decide +kernel
theorem dX3_init_0 : decode cX3_init 0 = .ok (.aload_n 0, 1) := by decide +kernel
theorem dX3_init_1 : decode cX3_init 1 = .ok (.invokespecial 3, 3) := by decide +kernel
theorem dX3_init_4 : decode cX3_init 4 = .ok (.aload_n 0, 1) := by decide +kernel
theorem dX3_init_5 : decode cX3_init 5 = .ok (.bipush 6, 2) := by decide +kernel
theorem dX3_init_7 : decode cX3_init 7 = .ok (.newarray .int, 2) := by decide +kernel
theorem dX3_init_9 : decode cX3_init 9 = .ok (.putfield 9, 3) := by decide +kernel
theorem dX3_init_12 : decode cX3_init 12 = .ok (.aload_n 0, 1) := by decide +kernel
theorem dX3_init_13 : decode cX3_init 13 = .ok (.bipush 6, 2) := by decide +kernel
theorem dX3_init_15 : decode cX3_init 15 = .ok (.newarray .int, 2) := by decide +kernel
theorem dX3_init_17 : decode cX3_init 17 = .ok (.putfield 15, 3) := by decide +kernel
theorem dX3_init_20 : decode cX3_init 20 = .ok (.aload_n 0, 1) := by decide +kernel
theorem dX3_init_21 : decode cX3_init 21 = .ok (.bipush 36, 2) := by decide +kernel
theorem dX3_init_23 : decode cX3_init 23 = .ok (.newarray .int, 2) := by decide +kernel
theorem dX3_init_25 : decode cX3_init 25 = .ok (.putfield 18, 3) := by decide +kernel
theorem dX3_init_28 : decode cX3_init 28 = .ok (.aload_n 0, 1) := by decide +kernel
theorem dX3_init_29 : decode cX3_init 29 = .ok (.iconst 5, 1) := by decide +kernel
theorem dX3_init_30 : decode cX3_init 30 = .ok (.newarray .int, 2) := by decide +kernel
theorem dX3_init_32 : decode cX3_init 32 = .ok (.putfield 21, 3) := by decide +kernel
theorem dX3_init_35 : decode cX3_init 35 = .ok (.aload_n 0, 1) := by decide +kernel
theorem dX3_init_36 : decode cX3_init 36 = .ok (.bipush 6, 2) := by decide +kernel
theorem dX3_init_38 : decode cX3_init 38 = .ok (.newarray .int, 2) := by decide +kernel
theorem dX3_init_40 : decode cX3_init 40 = .ok (.putfield 24, 3) := by decide +kernel
theorem dX3_init_43 : decode cX3_init 43 = .ok (.aload_n 0, 1) := by decide +kernel
theorem dX3_init_44 : decode cX3_init 44 = .ok (.iconst 5, 1) := by decide +kernel
theorem dX3_init_45 : decode cX3_init 45 = .ok (.newarray .int, 2) := by decide +kernel
theorem dX3_init_47 : decode cX3_init 47 = .ok (.putfield 27, 3) := by decide +kernel
theorem dX3_init_50 : decode cX3_init 50 = .ok (.return_, 1) := by decide +kernel
theorem dX3_layOut_0 : decode cX3_layOut 0 = .ok (.aload_n 0, 1) := by decide +kernel
theorem dX3_layOut_1 : decode cX3_layOut 1 = .ok (.aload_n 3, 1) := by decide +kernel
theorem dX3_layOut_2 : decode cX3_layOut 2 = .ok (.getfield 30, 3) := by decide +kernel
theorem dX3_layOut_5 : decode cX3_layOut 5 = .ok (.putfield 36, 3) := by decide +kernel
theorem dX3_layOut_8 : decode cX3_layOut 8 = .ok (.iconst 0, 1) := by decide +kernel
theorem dX3_layOut_9 : decode cX3_layOut 9 = .ok (.istore 5, 2) := by decide +kernel
theorem dX3_layOut_11 : decode cX3_layOut 11 = .ok (.iload 5, 2) := by decide +kernel
theorem dX3_layOut_13 : decode cX3_layOut 13 = .ok (.iconst 5, 1) := by decide +kernel
theorem dX3_layOut_14 : decode cX3_layOut 14 = .ok (.if_icmp .ge 22, 3) := by decide +kernel
theorem dX3_layOut_17 : decode cX3_layOut 17 = .ok (.aload_n 0, 1) := by decide +kernel
theorem dX3_layOut_18 : decode cX3_layOut 18 = .ok (.getfield 21, 3) := by decide +kernel
theorem dX3_layOut_21 : decode cX3_layOut 21 = .ok (.iload 5, 2) := by decide +kernel
theorem dX3_layOut_23 : decode cX3_layOut 23 = .ok (.aload_n 1, 1) := by decide +kernel
theorem dX3_layOut_24 : decode cX3_layOut 24 = .ok (.iload 5, 2) := by decide +kernel
theorem dX3_layOut_26 : decode cX3_layOut 26 = .ok (.invokevirtual 39, 3) := by decide +kernel
theorem dX3_layOut_29 : decode cX3_layOut 29 = .ok (.iastore, 1) := by decide +kernel
theorem dX3_layOut_30 : decode cX3_layOut 30 = .ok (.iinc 5 1, 3) := by decide +kernel
theorem dX3_layOut_33 : decode cX3_layOut 33 = .ok (.goto (-22), 3) := by decide +kernel
theorem dX3_layOut_36 : decode cX3_layOut 36 = .ok (.iconst 0, 1) := by decide +kernel
theorem dX3_layOut_37 : decode cX3_layOut 37 = .ok (.istore 5, 2) := by decide +kernel
theorem dX3_layOut_39 : decode cX3_layOut 39 = .ok (.iload 5, 2) := by decide +kernel
theorem dX3_layOut_41 : decode cX3_layOut 41 = .ok (.bipush 6, 2) := by decide +kernel
theorem dX3_layOut_43 : decode cX3_layOut 43 = .ok (.if_icmp .ge 23, 3) := by decide +kernel
theorem dX3_layOut_46 : decode cX3_layOut 46 = .ok (.aload_n 0, 1) := by decide +kernel
theorem dX3_layOut_47 : decode cX3_layOut 47 = .ok (.getfield 24, 3) := by decide +kernel
theorem dX3_layOut_50 : decode cX3_layOut 50 = .ok (.iload 5, 2) := by decide +kernel
theorem dX3_layOut_52 : decode cX3_layOut 52 = .ok (.aload_n 2, 1) := by decide +kernel
theorem dX3_layOut_53 : decode cX3_layOut 53 = .ok (.aload_n 1, 1) := by decide +kernel
theorem dX3_layOut_54 : decode cX3_layOut 54 = .ok (.iload 5, 2) := by decide +kernel
theorem dX3_layOut_56 : decode cX3_layOut 56 = .ok (.invokevirtual 44, 3) := by decide +kernel
theorem dX3_layOut_59 : decode cX3_layOut 59 = .ok (.iastore, 1) := by decide +kernel
theorem dX3_layOut_60 : decode cX3_layOut 60 = .ok (.iinc 5 1, 3) := by decide +kernel
theorem dX3_layOut_63 : decode cX3_layOut 63 = .ok (.goto (-24), 3) := by decide +kernel
theorem dX3_layOut_66 : decode cX3_layOut 66 = .ok (.iconst 0, 1) := by decide +kernel
theorem dX3_layOut_67 : decode cX3_layOut 67 = .ok (.istore 5, 2) := by decide +kernel
theorem dX3_layOut_69 : decode cX3_layOut 69 = .ok (.iload 5, 2) := by decide +kernel
theorem dX3_layOut_71 : decode cX3_layOut 71 = .ok (.aload_n 0, 1) := by decide +kernel
theorem dX3_layOut_72 : decode cX3_layOut 72 = .ok (.getfield 36, 3) := by decide +kernel
theorem dX3_layOut_75 : decode cX3_layOut 75 = .ok (.if_icmp .ge 85, 3) := by decide +kernel
theorem dX3_layOut_78 : decode cX3_layOut 78 = .ok (.aload_n 0, 1) := by decide +kernel
theorem dX3_layOut_79 : decode cX3_layOut 79 = .ok (.getfield 9, 3) := by decide +kernel
theorem dX3_layOut_82 : decode cX3_layOut 82 = .ok (.iload 5, 2) := by decide +kernel
theorem dX3_layOut_84 : decode cX3_layOut 84 = .ok (.aload 4, 2) := by decide +kernel
theorem dX3_layOut_86 : decode cX3_layOut 86 = .ok (.iload 5, 2) := by decide +kernel
theorem dX3_layOut_88 : decode cX3_layOut 88 = .ok (.iaload, 1) := by decide +kernel
theorem dX3_layOut_89 : decode cX3_layOut 89 = .ok (.iastore, 1) := by decide +kernel
theorem dX3_layOut_90 : decode cX3_layOut 90 = .ok (.iload 5, 2) := by decide +kernel
theorem dX3_layOut_92 : decode cX3_layOut 92 = .ok (.iconst 1, 1) := by decide +kernel
theorem dX3_layOut_93 : decode cX3_layOut 93 = .ok (.iadd, 1) := by decide +kernel
theorem dX3_layOut_94 : decode cX3_layOut 94 = .ok (.istore 6, 2) := by decide +kernel
theorem dX3_layOut_96 : decode cX3_layOut 96 = .ok (.iload 6, 2) := by decide +kernel
theorem dX3_layOut_98 : decode cX3_layOut 98 = .ok (.aload_n 0, 1) := by decide +kernel
theorem dX3_layOut_99 : decode cX3_layOut 99 = .ok (.getfield 36, 3) := by decide +kernel
theorem dX3_layOut_102 : decode cX3_layOut 102 = .ok (.if_icmp .ge 52, 3) := by decide +kernel
theorem dX3_layOut_105 : decode cX3_layOut 105 = .ok (.aload_n 2, 1) := by decide +kernel
theorem dX3_layOut_106 : decode cX3_layOut 106 = .ok (.aload_n 3, 1) := by decide +kernel
theorem dX3_layOut_107 : decode cX3_layOut 107 = .ok (.aload 4, 2) := by decide +kernel
theorem dX3_layOut_109 : decode cX3_layOut 109 = .ok (.iload 5, 2) := by decide +kernel
theorem dX3_layOut_111 : decode cX3_layOut 111 = .ok (.iload 6, 2) := by decide +kernel
theorem dX3_layOut_113 : decode cX3_layOut 113 = .ok (.invokevirtual 50, 3) := by decide +kernel
theorem dX3_layOut_116 : decode cX3_layOut 116 = .ok (.istore 7, 2) := by decide +kernel
theorem dX3_layOut_118 : decode cX3_layOut 118 = .ok (.aload_n 0, 1) := by decide +kernel
theorem dX3_layOut_119 : decode cX3_layOut 119 = .ok (.getfield 18, 3) := by decide +kernel
theorem dX3_layOut_122 : decode cX3_layOut 122 = .ok (.iload 5, 2) := by decide +kernel
theorem dX3_layOut_124 : decode cX3_layOut 124 = .ok (.bipush 6, 2) := by decide +kernel
theorem dX3_layOut_126 : decode cX3_layOut 126 = .ok (.imul, 1) := by decide +kernel
theorem dX3_layOut_127 : decode cX3_layOut 127 = .ok (.iload 6, 2) := by decide +kernel
theorem dX3_layOut_129 : decode cX3_layOut 129 = .ok (.iadd, 1) := by decide +kernel
theorem dX3_layOut_130 : decode cX3_layOut 130 = .ok (.iload 7, 2) := by decide +kernel
theorem dX3_layOut_132 : decode cX3_layOut 132 = .ok (.iastore, 1) := by decide +kernel
theorem dX3_layOut_133 : decode cX3_layOut 133 = .ok (.aload_n 0, 1) := by decide +kernel
theorem dX3_layOut_134 : decode cX3_layOut 134 = .ok (.getfield 18, 3) := by decide +kernel
theorem dX3_layOut_137 : decode cX3_layOut 137 = .ok (.iload 6, 2) := by decide +kernel
theorem dX3_layOut_139 : decode cX3_layOut 139 = .ok (.bipush 6, 2) := by decide +kernel
theorem dX3_layOut_141 : decode cX3_layOut 141 = .ok (.imul, 1) := by decide +kernel
theorem dX3_layOut_142 : decode cX3_layOut 142 = .ok (.iload 5, 2) := by decide +kernel
theorem dX3_layOut_144 : decode cX3_layOut 144 = .ok (.iadd, 1) := by decide +kernel
theorem dX3_layOut_145 : decode cX3_layOut 145 = .ok (.iload 7, 2) := by decide +kernel
theorem dX3_layOut_147 : decode cX3_layOut 147 = .ok (.iastore, 1) := by decide +kernel
theorem dX3_layOut_148 : decode cX3_layOut 148 = .ok (.iinc 6 1, 3) := by decide +kernel
theorem dX3_layOut_151 : decode cX3_layOut 151 = .ok (.goto (-55), 3) := by decide +kernel
theorem dX3_layOut_154 : decode cX3_layOut 154 = .ok (.iinc 5 1, 3) := by decide +kernel
theorem dX3_layOut_157 : decode cX3_layOut 157 = .ok (.goto (-88), 3) := by decide +kernel
theorem dX3_layOut_160 : decode cX3_layOut 160 = .ok (.return_, 1) := by decide +kernel
theorem dX3_fitTogether_0 : decode cX3_fitTogether 0 = .ok (.iload_n 2, 1) := by decide +kernel
theorem dX3_fitTogether_1 : decode cX3_fitTogether 1 = .ok (.iload_n 3, 1) := by decide +kernel
theorem dX3_fitTogether_2 : decode cX3_fitTogether 2 = .ok (.if_icmp .eq 23, 3) := by decide +kernel
theorem dX3_fitTogether_5 : decode cX3_fitTogether 5 = .ok (.aload_n 0, 1) := by decide +kernel
theorem dX3_fitTogether_6 : decode cX3_fitTogether 6 = .ok (.getfield 18, 3) := by decide +kernel
theorem dX3_fitTogether_9 : decode cX3_fitTogether 9 = .ok (.iload_n 2, 1) := by decide +kernel
theorem dX3_fitTogether_10 : decode cX3_fitTogether 10 = .ok (.bipush 6, 2) := by decide +kernel
theorem dX3_fitTogether_12 : decode cX3_fitTogether 12 = .ok (.imul, 1) := by decide +kernel
theorem dX3_fitTogether_13 : decode cX3_fitTogether 13 = .ok (.iload_n 3, 1) := by decide +kernel
theorem dX3_fitTogether_14 : decode cX3_fitTogether 14 = .ok (.iadd, 1) := by decide +kernel
theorem dX3_fitTogether_15 : decode cX3_fitTogether 15 = .ok (.iaload, 1) := by decide +kernel
theorem dX3_fitTogether_16 : decode cX3_fitTogether 16 = .ok (.aload_n 0, 1) := by decide +kernel
theorem dX3_fitTogether_17 : decode cX3_fitTogether 17 = .ok (.getfield 24, 3) := by decide +kernel
theorem dX3_fitTogether_20 : decode cX3_fitTogether 20 = .ok (.iload_n 1, 1) := by decide +kernel
theorem dX3_fitTogether_21 : decode cX3_fitTogether 21 = .ok (.iaload, 1) := by decide +kernel
theorem dX3_fitTogether_22 : decode cX3_fitTogether 22 = .ok (.if_icmp .gt 7, 3) := by decide +kernel
theorem dX3_fitTogether_25 : decode cX3_fitTogether 25 = .ok (.iconst 1, 1) := by decide +kernel
theorem dX3_fitTogether_26 : decode cX3_fitTogether 26 = .ok (.goto 4, 3) := by decide +kernel
theorem dX3_fitTogether_29 : decode cX3_fitTogether 29 = .ok (.iconst 0, 1) := by decide +kernel
theorem dX3_fitTogether_30 : decode cX3_fitTogether 30 = .ok (.ireturn, 1) := by decide +kernel
theorem dX3_firstWrong_0 : decode cX3_firstWrong 0 = .ok (.aload_n 0, 1) := by decide +kernel
theorem dX3_firstWrong_1 : decode cX3_firstWrong 1 = .ok (.getfield 15, 3) := by decide +kernel
theorem dX3_firstWrong_4 : decode cX3_firstWrong 4 = .ok (.iconst 0, 1) := by decide +kernel
theorem dX3_firstWrong_5 : decode cX3_firstWrong 5 = .ok (.invokestatic 54, 3) := by decide +kernel
theorem dX3_firstWrong_8 : decode cX3_firstWrong 8 = .ok (.iconst 0, 1) := by decide +kernel
theorem dX3_firstWrong_9 : decode cX3_firstWrong 9 = .ok (.istore_n 2, 1) := by decide +kernel
theorem dX3_firstWrong_10 : decode cX3_firstWrong 10 = .ok (.iload_n 2, 1) := by decide +kernel
theorem dX3_firstWrong_11 : decode cX3_firstWrong 11 = .ok (.iconst 5, 1) := by decide +kernel
theorem dX3_firstWrong_12 : decode cX3_firstWrong 12 = .ok (.if_icmp .ge 58, 3) := by decide +kernel
theorem dX3_firstWrong_15 : decode cX3_firstWrong 15 = .ok (.aload_n 0, 1) := by decide +kernel
theorem dX3_firstWrong_16 : decode cX3_firstWrong 16 = .ok (.getfield 27, 3) := by decide +kernel
theorem dX3_firstWrong_19 : decode cX3_firstWrong 19 = .ok (.iload_n 2, 1) := by decide +kernel
theorem dX3_firstWrong_20 : decode cX3_firstWrong 20 = .ok (.iload_n 1, 1) := by decide +kernel
theorem dX3_firstWrong_21 : decode cX3_firstWrong 21 = .ok (.iload_n 2, 1) := by decide +kernel
theorem dX3_firstWrong_22 : decode cX3_firstWrong 22 = .ok (.invokestatic 60, 3) := by decide +kernel
theorem dX3_firstWrong_25 : decode cX3_firstWrong 25 = .ok (.iastore, 1) := by decide +kernel
theorem dX3_firstWrong_26 : decode cX3_firstWrong 26 = .ok (.aload_n 0, 1) := by decide +kernel
theorem dX3_firstWrong_27 : decode cX3_firstWrong 27 = .ok (.getfield 27, 3) := by decide +kernel
theorem dX3_firstWrong_30 : decode cX3_firstWrong 30 = .ok (.iload_n 2, 1) := by decide +kernel
theorem dX3_firstWrong_31 : decode cX3_firstWrong 31 = .ok (.iaload, 1) := by decide +kernel
theorem dX3_firstWrong_32 : decode cX3_firstWrong 32 = .ok (.aload_n 0, 1) := by decide +kernel
theorem dX3_firstWrong_33 : decode cX3_firstWrong 33 = .ok (.getfield 36, 3) := by decide +kernel
theorem dX3_firstWrong_36 : decode cX3_firstWrong 36 = .ok (.if_icmp .lt 8, 3) := by decide +kernel
theorem dX3_firstWrong_39 : decode cX3_firstWrong 39 = .ok (.bipush 10, 2) := by decide +kernel
theorem dX3_firstWrong_41 : decode cX3_firstWrong 41 = .ok (.iload_n 2, 1) := by decide +kernel
theorem dX3_firstWrong_42 : decode cX3_firstWrong 42 = .ok (.iadd, 1) := by decide +kernel
theorem dX3_firstWrong_43 : decode cX3_firstWrong 43 = .ok (.ireturn, 1) := by decide +kernel
theorem dX3_firstWrong_44 : decode cX3_firstWrong 44 = .ok (.aload_n 0, 1) := by decide +kernel
theorem dX3_firstWrong_45 : decode cX3_firstWrong 45 = .ok (.getfield 15, 3) := by decide +kernel
theorem dX3_firstWrong_48 : decode cX3_firstWrong 48 = .ok (.aload_n 0, 1) := by decide +kernel
theorem dX3_firstWrong_49 : decode cX3_firstWrong 49 = .ok (.getfield 27, 3) := by decide +kernel
theorem dX3_firstWrong_52 : decode cX3_firstWrong 52 = .ok (.iload_n 2, 1) := by decide +kernel
theorem dX3_firstWrong_53 : decode cX3_firstWrong 53 = .ok (.iaload, 1) := by decide +kernel
theorem dX3_firstWrong_54 : decode cX3_firstWrong 54 = .ok (.dup2, 1) := by decide +kernel
theorem dX3_firstWrong_55 : decode cX3_firstWrong 55 = .ok (.iaload, 1) := by decide +kernel
theorem dX3_firstWrong_56 : decode cX3_firstWrong 56 = .ok (.aload_n 0, 1) := by decide +kernel
theorem dX3_firstWrong_57 : decode cX3_firstWrong 57 = .ok (.getfield 21, 3) := by decide +kernel
theorem dX3_firstWrong_60 : decode cX3_firstWrong 60 = .ok (.iload_n 2, 1) := by decide +kernel
theorem dX3_firstWrong_61 : decode cX3_firstWrong 61 = .ok (.iaload, 1) := by decide +kernel
theorem dX3_firstWrong_62 : decode cX3_firstWrong 62 = .ok (.iadd, 1) := by decide +kernel
theorem dX3_firstWrong_63 : decode cX3_firstWrong 63 = .ok (.iastore, 1) := by decide +kernel
theorem dX3_firstWrong_64 : decode cX3_firstWrong 64 = .ok (.iinc 2 1, 3) := by decide +kernel
theorem dX3_firstWrong_67 : decode cX3_firstWrong 67 = .ok (.goto (-57), 3) := by decide +kernel
theorem dX3_firstWrong_70 : decode cX3_firstWrong 70 = .ok (.iconst 0, 1) := by decide +kernel
theorem dX3_firstWrong_71 : decode cX3_firstWrong 71 = .ok (.istore_n 2, 1) := by decide +kernel
theorem dX3_firstWrong_72 : decode cX3_firstWrong 72 = .ok (.iload_n 2, 1) := by decide +kernel
theorem dX3_firstWrong_73 : decode cX3_firstWrong 73 = .ok (.aload_n 0, 1) := by decide +kernel
theorem dX3_firstWrong_74 : decode cX3_firstWrong 74 = .ok (.getfield 36, 3) := by decide +kernel
theorem dX3_firstWrong_77 : decode cX3_firstWrong 77 = .ok (.if_icmp .ge 29, 3) := by decide +kernel
theorem dX3_firstWrong_80 : decode cX3_firstWrong 80 = .ok (.aload_n 0, 1) := by decide +kernel
theorem dX3_firstWrong_81 : decode cX3_firstWrong 81 = .ok (.getfield 15, 3) := by decide +kernel
theorem dX3_firstWrong_84 : decode cX3_firstWrong 84 = .ok (.iload_n 2, 1) := by decide +kernel
theorem dX3_firstWrong_85 : decode cX3_firstWrong 85 = .ok (.iaload, 1) := by decide +kernel
theorem dX3_firstWrong_86 : decode cX3_firstWrong 86 = .ok (.aload_n 0, 1) := by decide +kernel
theorem dX3_firstWrong_87 : decode cX3_firstWrong 87 = .ok (.getfield 9, 3) := by decide +kernel
theorem dX3_firstWrong_90 : decode cX3_firstWrong 90 = .ok (.iload_n 2, 1) := by decide +kernel
theorem dX3_firstWrong_91 : decode cX3_firstWrong 91 = .ok (.iaload, 1) := by decide +kernel
theorem dX3_firstWrong_92 : decode cX3_firstWrong 92 = .ok (.if_icmp .le 8, 3) := by decide +kernel
theorem dX3_firstWrong_95 : decode cX3_firstWrong 95 = .ok (.bipush 20, 2) := by decide +kernel
theorem dX3_firstWrong_97 : decode cX3_firstWrong 97 = .ok (.iload_n 2, 1) := by decide +kernel
theorem dX3_firstWrong_98 : decode cX3_firstWrong 98 = .ok (.iadd, 1) := by decide +kernel
theorem dX3_firstWrong_99 : decode cX3_firstWrong 99 = .ok (.ireturn, 1) := by decide +kernel
theorem dX3_firstWrong_100 : decode cX3_firstWrong 100 = .ok (.iinc 2 1, 3) := by decide +kernel
theorem dX3_firstWrong_103 : decode cX3_firstWrong 103 = .ok (.goto (-31), 3) := by decide +kernel
theorem dX3_firstWrong_106 : decode cX3_firstWrong 106 = .ok (.iconst 0, 1) := by decide +kernel
theorem dX3_firstWrong_107 : decode cX3_firstWrong 107 = .ok (.istore_n 2, 1) := by decide +kernel
theorem dX3_firstWrong_108 : decode cX3_firstWrong 108 = .ok (.iload_n 2, 1) := by decide +kernel
theorem dX3_firstWrong_109 : decode cX3_firstWrong 109 = .ok (.bipush 6, 2) := by decide +kernel
theorem dX3_firstWrong_111 : decode cX3_firstWrong 111 = .ok (.if_icmp .ge 42, 3) := by decide +kernel
theorem dX3_firstWrong_114 : decode cX3_firstWrong 114 = .ok (.aload_n 0, 1) := by decide +kernel
theorem dX3_firstWrong_115 : decode cX3_firstWrong 115 = .ok (.iload_n 2, 1) := by decide +kernel
theorem dX3_firstWrong_116 : decode cX3_firstWrong 116 = .ok (.aload_n 0, 1) := by decide +kernel
theorem dX3_firstWrong_117 : decode cX3_firstWrong 117 = .ok (.getfield 27, 3) := by decide +kernel
theorem dX3_firstWrong_120 : decode cX3_firstWrong 120 = .ok (.getstatic 64, 3) := by decide +kernel
theorem dX3_firstWrong_123 : decode cX3_firstWrong 123 = .ok (.iload_n 2, 1) := by decide +kernel
theorem dX3_firstWrong_124 : decode cX3_firstWrong 124 = .ok (.iaload, 1) := by decide +kernel
theorem dX3_firstWrong_125 : decode cX3_firstWrong 125 = .ok (.iaload, 1) := by decide +kernel
theorem dX3_firstWrong_126 : decode cX3_firstWrong 126 = .ok (.aload_n 0, 1) := by decide +kernel
theorem dX3_firstWrong_127 : decode cX3_firstWrong 127 = .ok (.getfield 27, 3) := by decide +kernel
theorem dX3_firstWrong_130 : decode cX3_firstWrong 130 = .ok (.getstatic 67, 3) := by decide +kernel
theorem dX3_firstWrong_133 : decode cX3_firstWrong 133 = .ok (.iload_n 2, 1) := by decide +kernel
theorem dX3_firstWrong_134 : decode cX3_firstWrong 134 = .ok (.iaload, 1) := by decide +kernel
theorem dX3_firstWrong_135 : decode cX3_firstWrong 135 = .ok (.iaload, 1) := by decide +kernel
theorem dX3_firstWrong_136 : decode cX3_firstWrong 136 = .ok (.invokevirtual 70, 3) := by decide +kernel
theorem dX3_firstWrong_139 : decode cX3_firstWrong 139 = .ok (.ifCond .ne 8, 3) := by decide +kernel
theorem dX3_firstWrong_142 : decode cX3_firstWrong 142 = .ok (.bipush 40, 2) := by decide +kernel
theorem dX3_firstWrong_144 : decode cX3_firstWrong 144 = .ok (.iload_n 2, 1) := by decide +kernel
theorem dX3_firstWrong_145 : decode cX3_firstWrong 145 = .ok (.iadd, 1) := by decide +kernel
theorem dX3_firstWrong_146 : decode cX3_firstWrong 146 = .ok (.ireturn, 1) := by decide +kernel
theorem dX3_firstWrong_147 : decode cX3_firstWrong 147 = .ok (.iinc 2 1, 3) := by decide +kernel
theorem dX3_firstWrong_150 : decode cX3_firstWrong 150 = .ok (.goto (-42), 3) := by decide +kernel
theorem dX3_firstWrong_153 : decode cX3_firstWrong 153 = .ok (.iconst (-1), 1) := by decide +kernel
theorem dX3_firstWrong_154 : decode cX3_firstWrong 154 = .ok (.ireturn, 1) := by decide +kernel
theorem dX3_takeAway_0 : decode cX3_takeAway 0 = .ok (.iconst 0, 1) := by decide +kernel
theorem dX3_takeAway_1 : decode cX3_takeAway 1 = .ok (.istore_n 3, 1) := by decide +kernel
theorem dX3_takeAway_2 : decode cX3_takeAway 2 = .ok (.iload_n 3, 1) := by decide +kernel
theorem dX3_takeAway_3 : decode cX3_takeAway 3 = .ok (.iconst 5, 1) := by decide +kernel
theorem dX3_takeAway_4 : decode cX3_takeAway 4 = .ok (.if_icmp .ge 25, 3) := by decide +kernel
theorem dX3_takeAway_7 : decode cX3_takeAway 7 = .ok (.aload_n 2, 1) := by decide +kernel
theorem dX3_takeAway_8 : decode cX3_takeAway 8 = .ok (.iload_n 1, 1) := by decide +kernel
theorem dX3_takeAway_9 : decode cX3_takeAway 9 = .ok (.iload_n 3, 1) := by decide +kernel
theorem dX3_takeAway_10 : decode cX3_takeAway 10 = .ok (.invokestatic 60, 3) := by decide +kernel
theorem dX3_takeAway_13 : decode cX3_takeAway 13 = .ok (.dup2, 1) := by decide +kernel
theorem dX3_takeAway_14 : decode cX3_takeAway 14 = .ok (.iaload, 1) := by decide +kernel
theorem dX3_takeAway_15 : decode cX3_takeAway 15 = .ok (.aload_n 0, 1) := by decide +kernel
theorem dX3_takeAway_16 : decode cX3_takeAway 16 = .ok (.getfield 21, 3) := by decide +kernel
theorem dX3_takeAway_19 : decode cX3_takeAway 19 = .ok (.iload_n 3, 1) := by decide +kernel
theorem dX3_takeAway_20 : decode cX3_takeAway 20 = .ok (.iaload, 1) := by decide +kernel
theorem dX3_takeAway_21 : decode cX3_takeAway 21 = .ok (.isub, 1) := by decide +kernel
theorem dX3_takeAway_22 : decode cX3_takeAway 22 = .ok (.iastore, 1) := by decide +kernel
theorem dX3_takeAway_23 : decode cX3_takeAway 23 = .ok (.iinc 3 1, 3) := by decide +kernel
theorem dX3_takeAway_26 : decode cX3_takeAway 26 = .ok (.goto (-24), 3) := by decide +kernel
theorem dX3_takeAway_29 : decode cX3_takeAway 29 = .ok (.return_, 1) := by decide +kernel
theorem dX3_findBest_0 : decode cX3_findBest 0 = .ok (.aload_n 0, 1) := by decide +kernel
theorem dX3_findBest_1 : decode cX3_findBest 1 = .ok (.iconst (-1), 1) := by decide +kernel
theorem dX3_findBest_2 : decode cX3_findBest 2 = .ok (.putfield 74, 3) := by decide +kernel
theorem dX3_findBest_5 : decode cX3_findBest 5 = .ok (.aload_n 0, 1) := by decide +kernel
theorem dX3_findBest_6 : decode cX3_findBest 6 = .ok (.iconst (-1), 1) := by decide +kernel
theorem dX3_findBest_7 : decode cX3_findBest 7 = .ok (.putfield 77, 3) := by decide +kernel
theorem dX3_findBest_10 : decode cX3_findBest 10 = .ok (.aload_n 0, 1) := by decide +kernel
theorem dX3_findBest_11 : decode cX3_findBest 11 = .ok (.iconst 0, 1) := by decide +kernel
theorem dX3_findBest_12 : decode cX3_findBest 12 = .ok (.putfield 80, 3) := by decide +kernel
theorem dX3_findBest_15 : decode cX3_findBest 15 = .ok (.aload_n 0, 1) := by decide +kernel
theorem dX3_findBest_16 : decode cX3_findBest 16 = .ok (.iload_n 1, 1) := by decide +kernel
theorem dX3_findBest_17 : decode cX3_findBest 17 = .ok (.putfield 83, 3) := by decide +kernel
theorem dX3_findBest_20 : decode cX3_findBest 20 = .ok (.aload_n 0, 1) := by decide +kernel
theorem dX3_findBest_21 : decode cX3_findBest 21 = .ok (.iconst 0, 1) := by decide +kernel
theorem dX3_findBest_22 : decode cX3_findBest 22 = .ok (.putfield 87, 3) := by decide +kernel
theorem dX3_findBest_25 : decode cX3_findBest 25 = .ok (.aload_n 0, 1) := by decide +kernel
theorem dX3_findBest_26 : decode cX3_findBest 26 = .ok (.getfield 15, 3) := by decide +kernel
theorem dX3_findBest_29 : decode cX3_findBest 29 = .ok (.iconst 0, 1) := by decide +kernel
theorem dX3_findBest_30 : decode cX3_findBest 30 = .ok (.invokestatic 54, 3) := by decide +kernel
theorem dX3_findBest_33 : decode cX3_findBest 33 = .ok (.aload_n 0, 1) := by decide +kernel
theorem dX3_findBest_34 : decode cX3_findBest 34 = .ok (.iconst 0, 1) := by decide +kernel
theorem dX3_findBest_35 : decode cX3_findBest 35 = .ok (.iconst 0, 1) := by decide +kernel
theorem dX3_findBest_36 : decode cX3_findBest 36 = .ok (.invokevirtual 90, 3) := by decide +kernel
theorem dX3_findBest_39 : decode cX3_findBest 39 = .ok (.return_, 1) := by decide +kernel
theorem dX3_pickFrom_0 : decode cX3_pickFrom 0 = .ok (.iload_n 1, 1) := by decide +kernel
theorem dX3_pickFrom_1 : decode cX3_pickFrom 1 = .ok (.iconst 5, 1) := by decide +kernel
theorem dX3_pickFrom_2 : decode cX3_pickFrom 2 = .ok (.if_icmp .lt 9, 3) := by decide +kernel
theorem dX3_pickFrom_5 : decode cX3_pickFrom 5 = .ok (.aload_n 0, 1) := by decide +kernel
theorem dX3_pickFrom_6 : decode cX3_pickFrom 6 = .ok (.iload_n 2, 1) := by decide +kernel
theorem dX3_pickFrom_7 : decode cX3_pickFrom 7 = .ok (.invokevirtual 94, 3) := by decide +kernel
theorem dX3_pickFrom_10 : decode cX3_pickFrom 10 = .ok (.return_, 1) := by decide +kernel
theorem dX3_pickFrom_11 : decode cX3_pickFrom 11 = .ok (.iconst 0, 1) := by decide +kernel
theorem dX3_pickFrom_12 : decode cX3_pickFrom 12 = .ok (.istore_n 3, 1) := by decide +kernel
theorem dX3_pickFrom_13 : decode cX3_pickFrom 13 = .ok (.iload_n 3, 1) := by decide +kernel
theorem dX3_pickFrom_14 : decode cX3_pickFrom 14 = .ok (.aload_n 0, 1) := by decide +kernel
theorem dX3_pickFrom_15 : decode cX3_pickFrom 15 = .ok (.getfield 36, 3) := by decide +kernel
theorem dX3_pickFrom_18 : decode cX3_pickFrom 18 = .ok (.if_icmp .ge 97, 3) := by decide +kernel
theorem dX3_pickFrom_21 : decode cX3_pickFrom 21 = .ok (.aload_n 0, 1) := by decide +kernel
theorem dX3_pickFrom_22 : decode cX3_pickFrom 22 = .ok (.getfield 87, 3) := by decide +kernel
theorem dX3_pickFrom_25 : decode cX3_pickFrom 25 = .ok (.ifCond .ne 90, 3) := by decide +kernel
theorem dX3_pickFrom_28 : decode cX3_pickFrom 28 = .ok (.aload_n 0, 1) := by decide +kernel
theorem dX3_pickFrom_29 : decode cX3_pickFrom 29 = .ok (.getfield 15, 3) := by decide +kernel
theorem dX3_pickFrom_32 : decode cX3_pickFrom 32 = .ok (.iload_n 3, 1) := by decide +kernel
theorem dX3_pickFrom_33 : decode cX3_pickFrom 33 = .ok (.iaload, 1) := by decide +kernel
theorem dX3_pickFrom_34 : decode cX3_pickFrom 34 = .ok (.aload_n 0, 1) := by decide +kernel
theorem dX3_pickFrom_35 : decode cX3_pickFrom 35 = .ok (.getfield 21, 3) := by decide +kernel
theorem dX3_pickFrom_38 : decode cX3_pickFrom 38 = .ok (.iload_n 1, 1) := by decide +kernel
theorem dX3_pickFrom_39 : decode cX3_pickFrom 39 = .ok (.iaload, 1) := by decide +kernel
theorem dX3_pickFrom_40 : decode cX3_pickFrom 40 = .ok (.iadd, 1) := by decide +kernel
theorem dX3_pickFrom_41 : decode cX3_pickFrom 41 = .ok (.aload_n 0, 1) := by decide +kernel
theorem dX3_pickFrom_42 : decode cX3_pickFrom 42 = .ok (.getfield 9, 3) := by decide +kernel
theorem dX3_pickFrom_45 : decode cX3_pickFrom 45 = .ok (.iload_n 3, 1) := by decide +kernel
theorem dX3_pickFrom_46 : decode cX3_pickFrom 46 = .ok (.iaload, 1) := by decide +kernel
theorem dX3_pickFrom_47 : decode cX3_pickFrom 47 = .ok (.if_icmp .gt 62, 3) := by decide +kernel
theorem dX3_pickFrom_50 : decode cX3_pickFrom 50 = .ok (.aload_n 0, 1) := by decide +kernel
theorem dX3_pickFrom_51 : decode cX3_pickFrom 51 = .ok (.iload_n 1, 1) := by decide +kernel
theorem dX3_pickFrom_52 : decode cX3_pickFrom 52 = .ok (.iload_n 3, 1) := by decide +kernel
theorem dX3_pickFrom_53 : decode cX3_pickFrom 53 = .ok (.invokevirtual 98, 3) := by decide +kernel
theorem dX3_pickFrom_56 : decode cX3_pickFrom 56 = .ok (.ifCond .eq 53, 3) := by decide +kernel
theorem dX3_pickFrom_59 : decode cX3_pickFrom 59 = .ok (.aload_n 0, 1) := by decide +kernel
theorem dX3_pickFrom_60 : decode cX3_pickFrom 60 = .ok (.getfield 27, 3) := by decide +kernel
theorem dX3_pickFrom_63 : decode cX3_pickFrom 63 = .ok (.iload_n 1, 1) := by decide +kernel
theorem dX3_pickFrom_64 : decode cX3_pickFrom 64 = .ok (.iload_n 3, 1) := by decide +kernel
theorem dX3_pickFrom_65 : decode cX3_pickFrom 65 = .ok (.iastore, 1) := by decide +kernel
theorem dX3_pickFrom_66 : decode cX3_pickFrom 66 = .ok (.aload_n 0, 1) := by decide +kernel
theorem dX3_pickFrom_67 : decode cX3_pickFrom 67 = .ok (.getfield 15, 3) := by decide +kernel
theorem dX3_pickFrom_70 : decode cX3_pickFrom 70 = .ok (.iload_n 3, 1) := by decide +kernel
theorem dX3_pickFrom_71 : decode cX3_pickFrom 71 = .ok (.dup2, 1) := by decide +kernel
theorem dX3_pickFrom_72 : decode cX3_pickFrom 72 = .ok (.iaload, 1) := by decide +kernel
theorem dX3_pickFrom_73 : decode cX3_pickFrom 73 = .ok (.aload_n 0, 1) := by decide +kernel
theorem dX3_pickFrom_74 : decode cX3_pickFrom 74 = .ok (.getfield 21, 3) := by decide +kernel
theorem dX3_pickFrom_77 : decode cX3_pickFrom 77 = .ok (.iload_n 1, 1) := by decide +kernel
theorem dX3_pickFrom_78 : decode cX3_pickFrom 78 = .ok (.iaload, 1) := by decide +kernel
theorem dX3_pickFrom_79 : decode cX3_pickFrom 79 = .ok (.iadd, 1) := by decide +kernel
theorem dX3_pickFrom_80 : decode cX3_pickFrom 80 = .ok (.iastore, 1) := by decide +kernel
theorem dX3_pickFrom_81 : decode cX3_pickFrom 81 = .ok (.aload_n 0, 1) := by decide +kernel
theorem dX3_pickFrom_82 : decode cX3_pickFrom 82 = .ok (.iload_n 1, 1) := by decide +kernel
theorem dX3_pickFrom_83 : decode cX3_pickFrom 83 = .ok (.iconst 1, 1) := by decide +kernel
theorem dX3_pickFrom_84 : decode cX3_pickFrom 84 = .ok (.iadd, 1) := by decide +kernel
theorem dX3_pickFrom_85 : decode cX3_pickFrom 85 = .ok (.iload_n 2, 1) := by decide +kernel
theorem dX3_pickFrom_86 : decode cX3_pickFrom 86 = .ok (.bipush 6, 2) := by decide +kernel
theorem dX3_pickFrom_88 : decode cX3_pickFrom 88 = .ok (.imul, 1) := by decide +kernel
theorem dX3_pickFrom_89 : decode cX3_pickFrom 89 = .ok (.iload_n 3, 1) := by decide +kernel
theorem dX3_pickFrom_90 : decode cX3_pickFrom 90 = .ok (.iadd, 1) := by decide +kernel
theorem dX3_pickFrom_91 : decode cX3_pickFrom 91 = .ok (.invokevirtual 90, 3) := by decide +kernel
theorem dX3_pickFrom_94 : decode cX3_pickFrom 94 = .ok (.aload_n 0, 1) := by decide +kernel
theorem dX3_pickFrom_95 : decode cX3_pickFrom 95 = .ok (.getfield 15, 3) := by decide +kernel
theorem dX3_pickFrom_98 : decode cX3_pickFrom 98 = .ok (.iload_n 3, 1) := by decide +kernel
theorem dX3_pickFrom_99 : decode cX3_pickFrom 99 = .ok (.dup2, 1) := by decide +kernel
theorem dX3_pickFrom_100 : decode cX3_pickFrom 100 = .ok (.iaload, 1) := by decide +kernel
theorem dX3_pickFrom_101 : decode cX3_pickFrom 101 = .ok (.aload_n 0, 1) := by decide +kernel
theorem dX3_pickFrom_102 : decode cX3_pickFrom 102 = .ok (.getfield 21, 3) := by decide +kernel
theorem dX3_pickFrom_105 : decode cX3_pickFrom 105 = .ok (.iload_n 1, 1) := by decide +kernel
theorem dX3_pickFrom_106 : decode cX3_pickFrom 106 = .ok (.iaload, 1) := by decide +kernel
theorem dX3_pickFrom_107 : decode cX3_pickFrom 107 = .ok (.isub, 1) := by decide +kernel
theorem dX3_pickFrom_108 : decode cX3_pickFrom 108 = .ok (.iastore, 1) := by decide +kernel
theorem dX3_pickFrom_109 : decode cX3_pickFrom 109 = .ok (.iinc 3 1, 3) := by decide +kernel
theorem dX3_pickFrom_112 : decode cX3_pickFrom 112 = .ok (.goto (-99), 3) := by decide +kernel
theorem dX3_pickFrom_115 : decode cX3_pickFrom 115 = .ok (.return_, 1) := by decide +kernel
theorem dX3_fitsBelow_0 : decode cX3_fitsBelow 0 = .ok (.iconst 0, 1) := by decide +kernel
theorem dX3_fitsBelow_1 : decode cX3_fitsBelow 1 = .ok (.istore_n 3, 1) := by decide +kernel
theorem dX3_fitsBelow_2 : decode cX3_fitsBelow 2 = .ok (.iload_n 3, 1) := by decide +kernel
theorem dX3_fitsBelow_3 : decode cX3_fitsBelow 3 = .ok (.bipush 6, 2) := by decide +kernel
theorem dX3_fitsBelow_5 : decode cX3_fitsBelow 5 = .ok (.if_icmp .ge 39, 3) := by decide +kernel
theorem dX3_fitsBelow_8 : decode cX3_fitsBelow 8 = .ok (.getstatic 67, 3) := by decide +kernel
theorem dX3_fitsBelow_11 : decode cX3_fitsBelow 11 = .ok (.iload_n 3, 1) := by decide +kernel
theorem dX3_fitsBelow_12 : decode cX3_fitsBelow 12 = .ok (.iaload, 1) := by decide +kernel
theorem dX3_fitsBelow_13 : decode cX3_fitsBelow 13 = .ok (.iload_n 1, 1) := by decide +kernel
theorem dX3_fitsBelow_14 : decode cX3_fitsBelow 14 = .ok (.if_icmp .ne 24, 3) := by decide +kernel
theorem dX3_fitsBelow_17 : decode cX3_fitsBelow 17 = .ok (.aload_n 0, 1) := by decide +kernel
theorem dX3_fitsBelow_18 : decode cX3_fitsBelow 18 = .ok (.iload_n 3, 1) := by decide +kernel
theorem dX3_fitsBelow_19 : decode cX3_fitsBelow 19 = .ok (.aload_n 0, 1) := by decide +kernel
theorem dX3_fitsBelow_20 : decode cX3_fitsBelow 20 = .ok (.getfield 27, 3) := by decide +kernel
theorem dX3_fitsBelow_23 : decode cX3_fitsBelow 23 = .ok (.getstatic 64, 3) := by decide +kernel
theorem dX3_fitsBelow_26 : decode cX3_fitsBelow 26 = .ok (.iload_n 3, 1) := by decide +kernel
theorem dX3_fitsBelow_27 : decode cX3_fitsBelow 27 = .ok (.iaload, 1) := by decide +kernel
theorem dX3_fitsBelow_28 : decode cX3_fitsBelow 28 = .ok (.iaload, 1) := by decide +kernel
theorem dX3_fitsBelow_29 : decode cX3_fitsBelow 29 = .ok (.iload_n 2, 1) := by decide +kernel
theorem dX3_fitsBelow_30 : decode cX3_fitsBelow 30 = .ok (.invokevirtual 70, 3) := by decide +kernel
theorem dX3_fitsBelow_33 : decode cX3_fitsBelow 33 = .ok (.ifCond .ne 5, 3) := by decide +kernel
theorem dX3_fitsBelow_36 : decode cX3_fitsBelow 36 = .ok (.iconst 0, 1) := by decide +kernel
theorem dX3_fitsBelow_37 : decode cX3_fitsBelow 37 = .ok (.ireturn, 1) := by decide +kernel
theorem dX3_fitsBelow_38 : decode cX3_fitsBelow 38 = .ok (.iinc 3 1, 3) := by decide +kernel
theorem dX3_fitsBelow_41 : decode cX3_fitsBelow 41 = .ok (.goto (-39), 3) := by decide +kernel
theorem dX3_fitsBelow_44 : decode cX3_fitsBelow 44 = .ok (.iconst 1, 1) := by decide +kernel
theorem dX3_fitsBelow_45 : decode cX3_fitsBelow 45 = .ok (.ireturn, 1) := by decide +kernel
theorem dX3_weigh_0 : decode cX3_weigh 0 = .ok (.iconst 0, 1) := by decide +kernel
theorem dX3_weigh_1 : decode cX3_weigh 1 = .ok (.istore_n 2, 1) := by decide +kernel
theorem dX3_weigh_2 : decode cX3_weigh 2 = .ok (.iconst 0, 1) := by decide +kernel
theorem dX3_weigh_3 : decode cX3_weigh 3 = .ok (.istore_n 3, 1) := by decide +kernel
theorem dX3_weigh_4 : decode cX3_weigh 4 = .ok (.iload_n 3, 1) := by decide +kernel
theorem dX3_weigh_5 : decode cX3_weigh 5 = .ok (.aload_n 0, 1) := by decide +kernel
theorem dX3_weigh_6 : decode cX3_weigh 6 = .ok (.getfield 36, 3) := by decide +kernel
theorem dX3_weigh_9 : decode cX3_weigh 9 = .ok (.if_icmp .ge 44, 3) := by decide +kernel
theorem dX3_weigh_12 : decode cX3_weigh 12 = .ok (.aload_n 0, 1) := by decide +kernel
theorem dX3_weigh_13 : decode cX3_weigh 13 = .ok (.getfield 9, 3) := by decide +kernel
theorem dX3_weigh_16 : decode cX3_weigh 16 = .ok (.iload_n 3, 1) := by decide +kernel
theorem dX3_weigh_17 : decode cX3_weigh 17 = .ok (.iaload, 1) := by decide +kernel
theorem dX3_weigh_18 : decode cX3_weigh 18 = .ok (.aload_n 0, 1) := by decide +kernel
theorem dX3_weigh_19 : decode cX3_weigh 19 = .ok (.getfield 15, 3) := by decide +kernel
theorem dX3_weigh_22 : decode cX3_weigh 22 = .ok (.iload_n 3, 1) := by decide +kernel
theorem dX3_weigh_23 : decode cX3_weigh 23 = .ok (.iaload, 1) := by decide +kernel
theorem dX3_weigh_24 : decode cX3_weigh 24 = .ok (.isub, 1) := by decide +kernel
theorem dX3_weigh_25 : decode cX3_weigh 25 = .ok (.istore 4, 2) := by decide +kernel
theorem dX3_weigh_27 : decode cX3_weigh 27 = .ok (.aload_n 0, 1) := by decide +kernel
theorem dX3_weigh_28 : decode cX3_weigh 28 = .ok (.getfield 15, 3) := by decide +kernel
theorem dX3_weigh_31 : decode cX3_weigh 31 = .ok (.iload_n 3, 1) := by decide +kernel
theorem dX3_weigh_32 : decode cX3_weigh 32 = .ok (.iaload, 1) := by decide +kernel
theorem dX3_weigh_33 : decode cX3_weigh 33 = .ok (.ifCond .le 14, 3) := by decide +kernel
theorem dX3_weigh_36 : decode cX3_weigh 36 = .ok (.iload 4, 2) := by decide +kernel
theorem dX3_weigh_38 : decode cX3_weigh 38 = .ok (.iconst 2, 1) := by decide +kernel
theorem dX3_weigh_39 : decode cX3_weigh 39 = .ok (.if_icmp .gt 8, 3) := by decide +kernel
theorem dX3_weigh_42 : decode cX3_weigh 42 = .ok (.iload_n 2, 1) := by decide +kernel
theorem dX3_weigh_43 : decode cX3_weigh 43 = .ok (.iload 4, 2) := by decide +kernel
theorem dX3_weigh_45 : decode cX3_weigh 45 = .ok (.iadd, 1) := by decide +kernel
theorem dX3_weigh_46 : decode cX3_weigh 46 = .ok (.istore_n 2, 1) := by decide +kernel
theorem dX3_weigh_47 : decode cX3_weigh 47 = .ok (.iinc 3 1, 3) := by decide +kernel
theorem dX3_weigh_50 : decode cX3_weigh 50 = .ok (.goto (-46), 3) := by decide +kernel
theorem dX3_weigh_53 : decode cX3_weigh 53 = .ok (.aload_n 0, 1) := by decide +kernel
theorem dX3_weigh_54 : decode cX3_weigh 54 = .ok (.dup, 1) := by decide +kernel
theorem dX3_weigh_55 : decode cX3_weigh 55 = .ok (.getfield 80, 3) := by decide +kernel
theorem dX3_weigh_58 : decode cX3_weigh 58 = .ok (.iconst 1, 1) := by decide +kernel
theorem dX3_weigh_59 : decode cX3_weigh 59 = .ok (.iadd, 1) := by decide +kernel
theorem dX3_weigh_60 : decode cX3_weigh 60 = .ok (.putfield 80, 3) := by decide +kernel
theorem dX3_weigh_63 : decode cX3_weigh 63 = .ok (.aload_n 0, 1) := by decide +kernel
theorem dX3_weigh_64 : decode cX3_weigh 64 = .ok (.getfield 74, 3) := by decide +kernel
theorem dX3_weigh_67 : decode cX3_weigh 67 = .ok (.iconst (-1), 1) := by decide +kernel
theorem dX3_weigh_68 : decode cX3_weigh 68 = .ok (.if_icmp .eq 11, 3) := by decide +kernel
theorem dX3_weigh_71 : decode cX3_weigh 71 = .ok (.iload_n 2, 1) := by decide +kernel
theorem dX3_weigh_72 : decode cX3_weigh 72 = .ok (.aload_n 0, 1) := by decide +kernel
theorem dX3_weigh_73 : decode cX3_weigh 73 = .ok (.getfield 77, 3) := by decide +kernel
theorem dX3_weigh_76 : decode cX3_weigh 76 = .ok (.if_icmp .ge 13, 3) := by decide +kernel
theorem dX3_weigh_79 : decode cX3_weigh 79 = .ok (.aload_n 0, 1) := by decide +kernel
theorem dX3_weigh_80 : decode cX3_weigh 80 = .ok (.iload_n 1, 1) := by decide +kernel
theorem dX3_weigh_81 : decode cX3_weigh 81 = .ok (.putfield 74, 3) := by decide +kernel
theorem dX3_weigh_84 : decode cX3_weigh 84 = .ok (.aload_n 0, 1) := by decide +kernel
theorem dX3_weigh_85 : decode cX3_weigh 85 = .ok (.iload_n 2, 1) := by decide +kernel
theorem dX3_weigh_86 : decode cX3_weigh 86 = .ok (.putfield 77, 3) := by decide +kernel
theorem dX3_weigh_89 : decode cX3_weigh 89 = .ok (.aload_n 0, 1) := by decide +kernel
theorem dX3_weigh_90 : decode cX3_weigh 90 = .ok (.aload_n 0, 1) := by decide +kernel
theorem dX3_weigh_91 : decode cX3_weigh 91 = .ok (.getfield 77, 3) := by decide +kernel
theorem dX3_weigh_94 : decode cX3_weigh 94 = .ok (.ifCond .ne 14, 3) := by decide +kernel
theorem dX3_weigh_97 : decode cX3_weigh 97 = .ok (.aload_n 0, 1) := by decide +kernel
theorem dX3_weigh_98 : decode cX3_weigh 98 = .ok (.getfield 83, 3) := by decide +kernel
theorem dX3_weigh_101 : decode cX3_weigh 101 = .ok (.ifCond .ne 7, 3) := by decide +kernel
theorem dX3_weigh_104 : decode cX3_weigh 104 = .ok (.iconst 1, 1) := by decide +kernel
theorem dX3_weigh_105 : decode cX3_weigh 105 = .ok (.goto 4, 3) := by decide +kernel
theorem dX3_weigh_108 : decode cX3_weigh 108 = .ok (.iconst 0, 1) := by decide +kernel
theorem dX3_weigh_109 : decode cX3_weigh 109 = .ok (.putfield 87, 3) := by decide +kernel
theorem dX3_weigh_112 : decode cX3_weigh 112 = .ok (.return_, 1) := by decide +kernel
theorem dX4_init_0 : decode cX4_init 0 = .ok (.aload_n 0, 1) := by decide +kernel
theorem dX4_init_1 : decode cX4_init 1 = .ok (.iload_n 1, 1) := by decide +kernel
theorem dX4_init_2 : decode cX4_init 2 = .ok (.iload_n 2, 1) := by decide +kernel
theorem dX4_init_3 : decode cX4_init 3 = .ok (.iload_n 3, 1) := by decide +kernel
theorem dX4_init_4 : decode cX4_init 4 = .ok (.iload 4, 2) := by decide +kernel
theorem dX4_init_6 : decode cX4_init 6 = .ok (.invokespecial 1, 3) := by decide +kernel
theorem dX4_init_9 : decode cX4_init 9 = .ok (.return_, 1) := by decide +kernel
theorem dX4_takes_0 : decode cX4_takes 0 = .ok (.aload_n 0, 1) := by decide +kernel
theorem dX4_takes_1 : decode cX4_takes 1 = .ok (.iload_n 1, 1) := by decide +kernel
theorem dX4_takes_2 : decode cX4_takes 2 = .ok (.invokespecial 7, 3) := by decide +kernel
theorem dX4_takes_5 : decode cX4_takes 5 = .ok (.iconst 1, 1) := by decide +kernel
theorem dX4_takes_6 : decode cX4_takes 6 = .ok (.iadd, 1) := by decide +kernel
theorem dX4_takes_7 : decode cX4_takes 7 = .ok (.ireturn, 1) := by decide +kernel
theorem dX4_bears_0 : decode cX4_bears 0 = .ok (.aload_n 0, 1) := by decide +kernel
theorem dX4_bears_1 : decode cX4_bears 1 = .ok (.iload_n 1, 1) := by decide +kernel
theorem dX4_bears_2 : decode cX4_bears 2 = .ok (.invokespecial 11, 3) := by decide +kernel
theorem dX4_bears_5 : decode cX4_bears 5 = .ok (.iconst 1, 1) := by decide +kernel
theorem dX4_bears_6 : decode cX4_bears 6 = .ok (.isub, 1) := by decide +kernel
theorem dX4_bears_7 : decode cX4_bears 7 = .ok (.iconst 0, 1) := by decide +kernel
theorem dX4_bears_8 : decode cX4_bears 8 = .ok (.invokestatic 14, 3) := by decide +kernel
theorem dX4_bears_11 : decode cX4_bears 11 = .ok (.ireturn, 1) := by decide +kernel
theorem dX4_brings_0 : decode cX4_brings 0 = .ok (.aload_n 0, 1) := by decide +kernel
theorem dX4_brings_1 : decode cX4_brings 1 = .ok (.invokespecial 20, 3) := by decide +kernel
theorem dX4_brings_4 : decode cX4_brings 4 = .ok (.aload_n 0, 1) := by decide +kernel
theorem dX4_brings_5 : decode cX4_brings 5 = .ok (.getfield 24, 3) := by decide +kernel
theorem dX4_brings_8 : decode cX4_brings 8 = .ok (.iadd, 1) := by decide +kernel
theorem dX4_brings_9 : decode cX4_brings 9 = .ok (.ireturn, 1) := by decide +kernel
theorem dX5_init_0 : decode cX5_init 0 = .ok (.aload_n 0, 1) := by decide +kernel
theorem dX5_init_1 : decode cX5_init 1 = .ok (.invokespecial 3, 3) := by decide +kernel
theorem dX5_init_4 : decode cX5_init 4 = .ok (.aload_n 0, 1) := by decide +kernel
theorem dX5_init_5 : decode cX5_init 5 = .ok (.new 9, 3) := by decide +kernel
theorem dX5_init_8 : decode cX5_init 8 = .ok (.dup, 1) := by decide +kernel
theorem dX5_init_9 : decode cX5_init 9 = .ok (.invokespecial 11, 3) := by decide +kernel
theorem dX5_init_12 : decode cX5_init 12 = .ok (.putfield 12, 3) := by decide +kernel
theorem dX5_init_15 : decode cX5_init 15 = .ok (.aload_n 0, 1) := by decide +kernel
theorem dX5_init_16 : decode cX5_init 16 = .ok (.iconst 3, 1) := by decide +kernel
theorem dX5_init_17 : decode cX5_init 17 = .ok (.anewarray 18, 3) := by decide +kernel
theorem dX5_init_20 : decode cX5_init 20 = .ok (.putfield 20, 3) := by decide +kernel
theorem dX5_init_23 : decode cX5_init 23 = .ok (.aload_n 0, 1) := by decide +kernel
theorem dX5_init_24 : decode cX5_init 24 = .ok (.iconst 4, 1) := by decide +kernel
theorem dX5_init_25 : decode cX5_init 25 = .ok (.bipush 6, 2) := by decide +kernel
theorem dX5_init_27 : decode cX5_init 27 = .ok (.multianewarray 24 2, 4) := by decide +kernel
theorem dX5_init_31 : decode cX5_init 31 = .ok (.putfield 26, 3) := by decide +kernel
theorem dX5_init_34 : decode cX5_init 34 = .ok (.return_, 1) := by decide +kernel
theorem dX5_plan_0 : decode cX5_plan 0 = .ok (.aload_n 0, 1) := by decide +kernel
theorem dX5_plan_1 : decode cX5_plan 1 = .ok (.aload_n 1, 1) := by decide +kernel
theorem dX5_plan_2 : decode cX5_plan 2 = .ok (.invokevirtual 29, 3) := by decide +kernel
theorem dX5_plan_5 : decode cX5_plan 5 = .ok (.aload_n 0, 1) := by decide +kernel
theorem dX5_plan_6 : decode cX5_plan 6 = .ok (.iconst 0, 1) := by decide +kernel
theorem dX5_plan_7 : decode cX5_plan 7 = .ok (.putfield 33, 3) := by decide +kernel
theorem dX5_plan_10 : decode cX5_plan 10 = .ok (.aload_n 0, 1) := by decide +kernel
theorem dX5_plan_11 : decode cX5_plan 11 = .ok (.iconst 0, 1) := by decide +kernel
theorem dX5_plan_12 : decode cX5_plan 12 = .ok (.putfield 37, 3) := by decide +kernel
theorem dX5_plan_15 : decode cX5_plan 15 = .ok (.aload_n 0, 1) := by decide +kernel
theorem dX5_plan_16 : decode cX5_plan 16 = .ok (.iconst 0, 1) := by decide +kernel
theorem dX5_plan_17 : decode cX5_plan 17 = .ok (.putfield 40, 3) := by decide +kernel
theorem dX5_plan_20 : decode cX5_plan 20 = .ok (.aload_n 3, 1) := by decide +kernel
theorem dX5_plan_21 : decode cX5_plan 21 = .ok (.getfield 43, 3) := by decide +kernel
theorem dX5_plan_24 : decode cX5_plan 24 = .ok (.iconst 0, 1) := by decide +kernel
theorem dX5_plan_25 : decode cX5_plan 25 = .ok (.aload_n 0, 1) := by decide +kernel
theorem dX5_plan_26 : decode cX5_plan 26 = .ok (.getfield 26, 3) := by decide +kernel
theorem dX5_plan_29 : decode cX5_plan 29 = .ok (.iconst 0, 1) := by decide +kernel
theorem dX5_plan_30 : decode cX5_plan 30 = .ok (.aaload, 1) := by decide +kernel
theorem dX5_plan_31 : decode cX5_plan 31 = .ok (.iconst 0, 1) := by decide +kernel
theorem dX5_plan_32 : decode cX5_plan 32 = .ok (.bipush 6, 2) := by decide +kernel
theorem dX5_plan_34 : decode cX5_plan 34 = .ok (.invokestatic 48, 3) := by decide +kernel
theorem dX5_plan_37 : decode cX5_plan 37 = .ok (.aload_n 3, 1) := by decide +kernel
theorem dX5_plan_38 : decode cX5_plan 38 = .ok (.iload 4, 2) := by decide +kernel
theorem dX5_plan_40 : decode cX5_plan 40 = .ok (.invokevirtual 54, 3) := by decide +kernel
theorem dX5_plan_43 : decode cX5_plan 43 = .ok (.ifCond .eq 17, 3) := by decide +kernel
theorem dX5_plan_46 : decode cX5_plan 46 = .ok (.aload_n 0, 1) := by decide +kernel
theorem dX5_plan_47 : decode cX5_plan 47 = .ok (.getfield 26, 3) := by decide +kernel
theorem dX5_plan_50 : decode cX5_plan 50 = .ok (.iconst 0, 1) := by decide +kernel
theorem dX5_plan_51 : decode cX5_plan 51 = .ok (.aaload, 1) := by decide +kernel
theorem dX5_plan_52 : decode cX5_plan 52 = .ok (.iload 4, 2) := by decide +kernel
theorem dX5_plan_54 : decode cX5_plan 54 = .ok (.dup2, 1) := by decide +kernel
theorem dX5_plan_55 : decode cX5_plan 55 = .ok (.iaload, 1) := by decide +kernel
theorem dX5_plan_56 : decode cX5_plan 56 = .ok (.iload 5, 2) := by decide +kernel
theorem dX5_plan_58 : decode cX5_plan 58 = .ok (.iadd, 1) := by decide +kernel
theorem dX5_plan_59 : decode cX5_plan 59 = .ok (.iastore, 1) := by decide +kernel
theorem dX5_plan_60 : decode cX5_plan 60 = .ok (.aload_n 0, 1) := by decide +kernel
theorem dX5_plan_61 : decode cX5_plan 61 = .ok (.aload_n 2, 1) := by decide +kernel
theorem dX5_plan_62 : decode cX5_plan 62 = .ok (.aload_n 3, 1) := by decide +kernel
theorem dX5_plan_63 : decode cX5_plan 63 = .ok (.iconst 0, 1) := by decide +kernel
theorem dX5_plan_64 : decode cX5_plan 64 = .ok (.iconst 0, 1) := by decide +kernel
theorem dX5_plan_65 : decode cX5_plan 65 = .ok (.iconst 0, 1) := by decide +kernel
theorem dX5_plan_66 : decode cX5_plan 66 = .ok (.iconst 0, 1) := by decide +kernel
theorem dX5_plan_67 : decode cX5_plan 67 = .ok (.invokevirtual 58, 3) := by decide +kernel
theorem dX5_plan_70 : decode cX5_plan 70 = .ok (.return_, 1) := by decide +kernel
theorem dX5_bound_0 : decode cX5_bound 0 = .ok (.aload_n 0, 1) := by decide +kernel
theorem dX5_bound_1 : decode cX5_bound 1 = .ok (.aload_n 1, 1) := by decide +kernel
theorem dX5_bound_2 : decode cX5_bound 2 = .ok (.invokevirtual 29, 3) := by decide +kernel
theorem dX5_bound_5 : decode cX5_bound 5 = .ok (.iconst 0, 1) := by decide +kernel
theorem dX5_bound_6 : decode cX5_bound 6 = .ok (.istore_n 3, 1) := by decide +kernel
theorem dX5_bound_7 : decode cX5_bound 7 = .ok (.aload_n 0, 1) := by decide +kernel
theorem dX5_bound_8 : decode cX5_bound 8 = .ok (.getfield 20, 3) := by decide +kernel
theorem dX5_bound_11 : decode cX5_bound 11 = .ok (.astore 4, 2) := by decide +kernel
theorem dX5_bound_13 : decode cX5_bound 13 = .ok (.aload 4, 2) := by decide +kernel
theorem dX5_bound_15 : decode cX5_bound 15 = .ok (.arraylength, 1) := by decide +kernel
theorem dX5_bound_16 : decode cX5_bound 16 = .ok (.istore 5, 2) := by decide +kernel
theorem dX5_bound_18 : decode cX5_bound 18 = .ok (.iconst 0, 1) := by decide +kernel
theorem dX5_bound_19 : decode cX5_bound 19 = .ok (.istore 6, 2) := by decide +kernel
theorem dX5_bound_21 : decode cX5_bound 21 = .ok (.iload 6, 2) := by decide +kernel
theorem dX5_bound_23 : decode cX5_bound 23 = .ok (.iload 5, 2) := by decide +kernel
theorem dX5_bound_25 : decode cX5_bound 25 = .ok (.if_icmp .ge 46, 3) := by decide +kernel
theorem dX5_bound_28 : decode cX5_bound 28 = .ok (.aload 4, 2) := by decide +kernel
theorem dX5_bound_30 : decode cX5_bound 30 = .ok (.iload 6, 2) := by decide +kernel
theorem dX5_bound_32 : decode cX5_bound 32 = .ok (.aaload, 1) := by decide +kernel
theorem dX5_bound_33 : decode cX5_bound 33 = .ok (.astore 7, 2) := by decide +kernel
theorem dX5_bound_35 : decode cX5_bound 35 = .ok (.aload 7, 2) := by decide +kernel
theorem dX5_bound_37 : decode cX5_bound 37 = .ok (.ifnull 28, 3) := by decide +kernel
theorem dX5_bound_40 : decode cX5_bound 40 = .ok (.aload 7, 2) := by decide +kernel
theorem dX5_bound_42 : decode cX5_bound 42 = .ok (.invokevirtual 62, 3) := by decide +kernel
theorem dX5_bound_45 : decode cX5_bound 45 = .ok (.ifCond .le 20, 3) := by decide +kernel
theorem dX5_bound_48 : decode cX5_bound 48 = .ok (.aload 7, 2) := by decide +kernel
theorem dX5_bound_50 : decode cX5_bound 50 = .ok (.invokevirtual 66, 3) := by decide +kernel
theorem dX5_bound_53 : decode cX5_bound 53 = .ok (.iload_n 2, 1) := by decide +kernel
theorem dX5_bound_54 : decode cX5_bound 54 = .ok (.if_icmp .gt 11, 3) := by decide +kernel
theorem dX5_bound_57 : decode cX5_bound 57 = .ok (.iload_n 3, 1) := by decide +kernel
theorem dX5_bound_58 : decode cX5_bound 58 = .ok (.aload 7, 2) := by decide +kernel
theorem dX5_bound_60 : decode cX5_bound 60 = .ok (.invokevirtual 62, 3) := by decide +kernel
theorem dX5_bound_63 : decode cX5_bound 63 = .ok (.iadd, 1) := by decide +kernel
theorem dX5_bound_64 : decode cX5_bound 64 = .ok (.istore_n 3, 1) := by decide +kernel
theorem dX5_bound_65 : decode cX5_bound 65 = .ok (.iinc 6 1, 3) := by decide +kernel
theorem dX5_bound_68 : decode cX5_bound 68 = .ok (.goto (-47), 3) := by decide +kernel
theorem dX5_bound_71 : decode cX5_bound 71 = .ok (.iload_n 3, 1) := by decide +kernel
theorem dX5_bound_72 : decode cX5_bound 72 = .ok (.ireturn, 1) := by decide +kernel
theorem dX5_keepOpen_0 : decode cX5_keepOpen 0 = .ok (.iconst 0, 1) := by decide +kernel
theorem dX5_keepOpen_1 : decode cX5_keepOpen 1 = .ok (.istore_n 2, 1) := by decide +kernel
theorem dX5_keepOpen_2 : decode cX5_keepOpen 2 = .ok (.iload_n 2, 1) := by decide +kernel
theorem dX5_keepOpen_3 : decode cX5_keepOpen 3 = .ok (.iconst 3, 1) := by decide +kernel
theorem dX5_keepOpen_4 : decode cX5_keepOpen 4 = .ok (.if_icmp .ge 45, 3) := by decide +kernel
theorem dX5_keepOpen_7 : decode cX5_keepOpen 7 = .ok (.iload_n 2, 1) := by decide +kernel
theorem dX5_keepOpen_8 : decode cX5_keepOpen 8 = .ok (.aload_n 1, 1) := by decide +kernel
theorem dX5_keepOpen_9 : decode cX5_keepOpen 9 = .ok (.arraylength, 1) := by decide +kernel
theorem dX5_keepOpen_10 : decode cX5_keepOpen 10 = .ok (.if_icmp .ge 9, 3) := by decide +kernel
theorem dX5_keepOpen_13 : decode cX5_keepOpen 13 = .ok (.aload_n 1, 1) := by decide +kernel
theorem dX5_keepOpen_14 : decode cX5_keepOpen 14 = .ok (.iload_n 2, 1) := by decide +kernel
theorem dX5_keepOpen_15 : decode cX5_keepOpen 15 = .ok (.aaload, 1) := by decide +kernel
theorem dX5_keepOpen_16 : decode cX5_keepOpen 16 = .ok (.goto 4, 3) := by decide +kernel
theorem dX5_keepOpen_19 : decode cX5_keepOpen 19 = .ok (.aconst_null, 1) := by decide +kernel
theorem dX5_keepOpen_20 : decode cX5_keepOpen 20 = .ok (.astore_n 3, 1) := by decide +kernel
theorem dX5_keepOpen_21 : decode cX5_keepOpen 21 = .ok (.aload_n 0, 1) := by decide +kernel
theorem dX5_keepOpen_22 : decode cX5_keepOpen 22 = .ok (.getfield 20, 3) := by decide +kernel
theorem dX5_keepOpen_25 : decode cX5_keepOpen 25 = .ok (.iload_n 2, 1) := by decide +kernel
theorem dX5_keepOpen_26 : decode cX5_keepOpen 26 = .ok (.aload_n 3, 1) := by decide +kernel
theorem dX5_keepOpen_27 : decode cX5_keepOpen 27 = .ok (.ifnull 14, 3) := by decide +kernel
theorem dX5_keepOpen_30 : decode cX5_keepOpen 30 = .ok (.aload_n 3, 1) := by decide +kernel
theorem dX5_keepOpen_31 : decode cX5_keepOpen 31 = .ok (.getfield 69, 3) := by decide +kernel
theorem dX5_keepOpen_34 : decode cX5_keepOpen 34 = .ok (.ifCond .ne 7, 3) := by decide +kernel
theorem dX5_keepOpen_37 : decode cX5_keepOpen 37 = .ok (.aload_n 3, 1) := by decide +kernel
theorem dX5_keepOpen_38 : decode cX5_keepOpen 38 = .ok (.goto 4, 3) := by decide +kernel
theorem dX5_keepOpen_41 : decode cX5_keepOpen 41 = .ok (.aconst_null, 1) := by decide +kernel
theorem dX5_keepOpen_42 : decode cX5_keepOpen 42 = .ok (.aastore, 1) := by decide +kernel
theorem dX5_keepOpen_43 : decode cX5_keepOpen 43 = .ok (.iinc 2 1, 3) := by decide +kernel
theorem dX5_keepOpen_46 : decode cX5_keepOpen 46 = .ok (.goto (-44), 3) := by decide +kernel
theorem dX5_keepOpen_49 : decode cX5_keepOpen 49 = .ok (.return_, 1) := by decide +kernel
theorem dX5_goOn_0 : decode cX5_goOn 0 = .ok (.aload_n 0, 1) := by decide +kernel
theorem dX5_goOn_1 : decode cX5_goOn 1 = .ok (.iload_n 3, 1) := by decide +kernel
theorem dX5_goOn_2 : decode cX5_goOn 2 = .ok (.iload 5, 2) := by decide +kernel
theorem dX5_goOn_4 : decode cX5_goOn 4 = .ok (.iload 6, 2) := by decide +kernel
theorem dX5_goOn_6 : decode cX5_goOn 6 = .ok (.invokevirtual 73, 3) := by decide +kernel
theorem dX5_goOn_9 : decode cX5_goOn 9 = .ok (.ifCond .eq 20, 3) := by decide +kernel
theorem dX5_goOn_12 : decode cX5_goOn 12 = .ok (.aload_n 0, 1) := by decide +kernel
theorem dX5_goOn_13 : decode cX5_goOn 13 = .ok (.iload 6, 2) := by decide +kernel
theorem dX5_goOn_15 : decode cX5_goOn 15 = .ok (.putfield 33, 3) := by decide +kernel
theorem dX5_goOn_18 : decode cX5_goOn 18 = .ok (.aload_n 0, 1) := by decide +kernel
theorem dX5_goOn_19 : decode cX5_goOn 19 = .ok (.iload 5, 2) := by decide +kernel
theorem dX5_goOn_21 : decode cX5_goOn 21 = .ok (.putfield 37, 3) := by decide +kernel
theorem dX5_goOn_24 : decode cX5_goOn 24 = .ok (.aload_n 0, 1) := by decide +kernel
theorem dX5_goOn_25 : decode cX5_goOn 25 = .ok (.iload_n 3, 1) := by decide +kernel
theorem dX5_goOn_26 : decode cX5_goOn 26 = .ok (.putfield 40, 3) := by decide +kernel
theorem dX5_goOn_29 : decode cX5_goOn 29 = .ok (.iload_n 3, 1) := by decide +kernel
theorem dX5_goOn_30 : decode cX5_goOn 30 = .ok (.iconst 3, 1) := by decide +kernel
theorem dX5_goOn_31 : decode cX5_goOn 31 = .ok (.if_icmp .lt 4, 3) := by decide +kernel
theorem dX5_goOn_34 : decode cX5_goOn 34 = .ok (.return_, 1) := by decide +kernel
theorem dX5_goOn_35 : decode cX5_goOn 35 = .ok (.iconst 0, 1) := by decide +kernel
theorem dX5_goOn_36 : decode cX5_goOn 36 = .ok (.istore 7, 2) := by decide +kernel
theorem dX5_goOn_38 : decode cX5_goOn 38 = .ok (.iload 7, 2) := by decide +kernel
theorem dX5_goOn_40 : decode cX5_goOn 40 = .ok (.iconst 3, 1) := by decide +kernel
theorem dX5_goOn_41 : decode cX5_goOn 41 = .ok (.if_icmp .ge 149, 3) := by decide +kernel
theorem dX5_goOn_44 : decode cX5_goOn 44 = .ok (.aload_n 0, 1) := by decide +kernel
theorem dX5_goOn_45 : decode cX5_goOn 45 = .ok (.getfield 20, 3) := by decide +kernel
theorem dX5_goOn_48 : decode cX5_goOn 48 = .ok (.iload 7, 2) := by decide +kernel
theorem dX5_goOn_50 : decode cX5_goOn 50 = .ok (.aaload, 1) := by decide +kernel
theorem dX5_goOn_51 : decode cX5_goOn 51 = .ok (.astore 8, 2) := by decide +kernel
theorem dX5_goOn_53 : decode cX5_goOn 53 = .ok (.aload 8, 2) := by decide +kernel
theorem dX5_goOn_55 : decode cX5_goOn 55 = .ok (.ifnull 129, 3) := by decide +kernel
theorem dX5_goOn_58 : decode cX5_goOn 58 = .ok (.iload 4, 2) := by decide +kernel
theorem dX5_goOn_60 : decode cX5_goOn 60 = .ok (.iload 7, 2) := by decide +kernel
theorem dX5_goOn_62 : decode cX5_goOn 62 = .ok (.invokestatic 77, 3) := by decide +kernel
theorem dX5_goOn_65 : decode cX5_goOn 65 = .ok (.ifCond .eq 6, 3) := by decide +kernel
theorem dX5_goOn_68 : decode cX5_goOn 68 = .ok (.goto 116, 3) := by decide +kernel
theorem dX5_goOn_71 : decode cX5_goOn 71 = .ok (.aload_n 0, 1) := by decide +kernel
theorem dX5_goOn_72 : decode cX5_goOn 72 = .ok (.getfield 12, 3) := by decide +kernel
theorem dX5_goOn_75 : decode cX5_goOn 75 = .ok (.aload 8, 2) := by decide +kernel
theorem dX5_goOn_77 : decode cX5_goOn 77 = .ok (.aload_n 1, 1) := by decide +kernel
theorem dX5_goOn_78 : decode cX5_goOn 78 = .ok (.aload_n 2, 1) := by decide +kernel
theorem dX5_goOn_79 : decode cX5_goOn 79 = .ok (.aload_n 0, 1) := by decide +kernel
theorem dX5_goOn_80 : decode cX5_goOn 80 = .ok (.getfield 26, 3) := by decide +kernel
theorem dX5_goOn_83 : decode cX5_goOn 83 = .ok (.iload_n 3, 1) := by decide +kernel
theorem dX5_goOn_84 : decode cX5_goOn 84 = .ok (.aaload, 1) := by decide +kernel
theorem dX5_goOn_85 : decode cX5_goOn 85 = .ok (.invokevirtual 81, 3) := by decide +kernel
theorem dX5_goOn_88 : decode cX5_goOn 88 = .ok (.aload_n 0, 1) := by decide +kernel
theorem dX5_goOn_89 : decode cX5_goOn 89 = .ok (.getfield 12, 3) := by decide +kernel
theorem dX5_goOn_92 : decode cX5_goOn 92 = .ok (.iconst 0, 1) := by decide +kernel
theorem dX5_goOn_93 : decode cX5_goOn 93 = .ok (.invokevirtual 85, 3) := by decide +kernel
theorem dX5_goOn_96 : decode cX5_goOn 96 = .ok (.aload_n 0, 1) := by decide +kernel
theorem dX5_goOn_97 : decode cX5_goOn 97 = .ok (.getfield 12, 3) := by decide +kernel
theorem dX5_goOn_100 : decode cX5_goOn 100 = .ok (.getfield 89, 3) := by decide +kernel
theorem dX5_goOn_103 : decode cX5_goOn 103 = .ok (.iconst (-1), 1) := by decide +kernel
theorem dX5_goOn_104 : decode cX5_goOn 104 = .ok (.if_icmp .eq 80, 3) := by decide +kernel
theorem dX5_goOn_107 : decode cX5_goOn 107 = .ok (.aload_n 0, 1) := by decide +kernel
theorem dX5_goOn_108 : decode cX5_goOn 108 = .ok (.getfield 26, 3) := by decide +kernel
theorem dX5_goOn_111 : decode cX5_goOn 111 = .ok (.iload_n 3, 1) := by decide +kernel
theorem dX5_goOn_112 : decode cX5_goOn 112 = .ok (.aaload, 1) := by decide +kernel
theorem dX5_goOn_113 : decode cX5_goOn 113 = .ok (.iconst 0, 1) := by decide +kernel
theorem dX5_goOn_114 : decode cX5_goOn 114 = .ok (.aload_n 0, 1) := by decide +kernel
theorem dX5_goOn_115 : decode cX5_goOn 115 = .ok (.getfield 26, 3) := by decide +kernel
theorem dX5_goOn_118 : decode cX5_goOn 118 = .ok (.iload_n 3, 1) := by decide +kernel
theorem dX5_goOn_119 : decode cX5_goOn 119 = .ok (.iconst 1, 1) := by decide +kernel
theorem dX5_goOn_120 : decode cX5_goOn 120 = .ok (.iadd, 1) := by decide +kernel
theorem dX5_goOn_121 : decode cX5_goOn 121 = .ok (.aaload, 1) := by decide +kernel
theorem dX5_goOn_122 : decode cX5_goOn 122 = .ok (.iconst 0, 1) := by decide +kernel
theorem dX5_goOn_123 : decode cX5_goOn 123 = .ok (.bipush 6, 2) := by decide +kernel
theorem dX5_goOn_125 : decode cX5_goOn 125 = .ok (.invokestatic 48, 3) := by decide +kernel
theorem dX5_goOn_128 : decode cX5_goOn 128 = .ok (.aload_n 0, 1) := by decide +kernel
theorem dX5_goOn_129 : decode cX5_goOn 129 = .ok (.getfield 12, 3) := by decide +kernel
theorem dX5_goOn_132 : decode cX5_goOn 132 = .ok (.aload_n 0, 1) := by decide +kernel
theorem dX5_goOn_133 : decode cX5_goOn 133 = .ok (.getfield 12, 3) := by decide +kernel
theorem dX5_goOn_136 : decode cX5_goOn 136 = .ok (.getfield 89, 3) := by decide +kernel
theorem dX5_goOn_139 : decode cX5_goOn 139 = .ok (.aload_n 0, 1) := by decide +kernel
theorem dX5_goOn_140 : decode cX5_goOn 140 = .ok (.getfield 26, 3) := by decide +kernel
theorem dX5_goOn_143 : decode cX5_goOn 143 = .ok (.iload_n 3, 1) := by decide +kernel
theorem dX5_goOn_144 : decode cX5_goOn 144 = .ok (.iconst 1, 1) := by decide +kernel
theorem dX5_goOn_145 : decode cX5_goOn 145 = .ok (.iadd, 1) := by decide +kernel
theorem dX5_goOn_146 : decode cX5_goOn 146 = .ok (.aaload, 1) := by decide +kernel
theorem dX5_goOn_147 : decode cX5_goOn 147 = .ok (.invokevirtual 92, 3) := by decide +kernel
theorem dX5_goOn_150 : decode cX5_goOn 150 = .ok (.aload_n 0, 1) := by decide +kernel
theorem dX5_goOn_151 : decode cX5_goOn 151 = .ok (.aload_n 1, 1) := by decide +kernel
theorem dX5_goOn_152 : decode cX5_goOn 152 = .ok (.aload_n 2, 1) := by decide +kernel
theorem dX5_goOn_153 : decode cX5_goOn 153 = .ok (.iload_n 3, 1) := by decide +kernel
theorem dX5_goOn_154 : decode cX5_goOn 154 = .ok (.iconst 1, 1) := by decide +kernel
theorem dX5_goOn_155 : decode cX5_goOn 155 = .ok (.iadd, 1) := by decide +kernel
theorem dX5_goOn_156 : decode cX5_goOn 156 = .ok (.iload 4, 2) := by decide +kernel
theorem dX5_goOn_158 : decode cX5_goOn 158 = .ok (.iconst 1, 1) := by decide +kernel
theorem dX5_goOn_159 : decode cX5_goOn 159 = .ok (.iload 7, 2) := by decide +kernel
theorem dX5_goOn_161 : decode cX5_goOn 161 = .ok (.ishl, 1) := by decide +kernel
theorem dX5_goOn_162 : decode cX5_goOn 162 = .ok (.ior, 1) := by decide +kernel
theorem dX5_goOn_163 : decode cX5_goOn 163 = .ok (.iload 5, 2) := by decide +kernel
theorem dX5_goOn_165 : decode cX5_goOn 165 = .ok (.bipush 10, 2) := by decide +kernel
theorem dX5_goOn_167 : decode cX5_goOn 167 = .ok (.imul, 1) := by decide +kernel
theorem dX5_goOn_168 : decode cX5_goOn 168 = .ok (.iload 7, 2) := by decide +kernel
theorem dX5_goOn_170 : decode cX5_goOn 170 = .ok (.iadd, 1) := by decide +kernel
theorem dX5_goOn_171 : decode cX5_goOn 171 = .ok (.iconst 1, 1) := by decide +kernel
theorem dX5_goOn_172 : decode cX5_goOn 172 = .ok (.iadd, 1) := by decide +kernel
theorem dX5_goOn_173 : decode cX5_goOn 173 = .ok (.iload 6, 2) := by decide +kernel
theorem dX5_goOn_175 : decode cX5_goOn 175 = .ok (.aload 8, 2) := by decide +kernel
theorem dX5_goOn_177 : decode cX5_goOn 177 = .ok (.invokevirtual 62, 3) := by decide +kernel
theorem dX5_goOn_180 : decode cX5_goOn 180 = .ok (.iadd, 1) := by decide +kernel
theorem dX5_goOn_181 : decode cX5_goOn 181 = .ok (.invokevirtual 58, 3) := by decide +kernel
theorem dX5_goOn_184 : decode cX5_goOn 184 = .ok (.iinc 7 1, 3) := by decide +kernel
theorem dX5_goOn_187 : decode cX5_goOn 187 = .ok (.goto (-149), 3) := by decide +kernel
theorem dX5_goOn_190 : decode cX5_goOn 190 = .ok (.return_, 1) := by decide +kernel
theorem dX5_isBetter_0 : decode cX5_isBetter 0 = .ok (.iload_n 3, 1) := by decide +kernel
theorem dX5_isBetter_1 : decode cX5_isBetter 1 = .ok (.aload_n 0, 1) := by decide +kernel
theorem dX5_isBetter_2 : decode cX5_isBetter 2 = .ok (.getfield 33, 3) := by decide +kernel
theorem dX5_isBetter_5 : decode cX5_isBetter 5 = .ok (.if_icmp .eq 17, 3) := by decide +kernel
theorem dX5_isBetter_8 : decode cX5_isBetter 8 = .ok (.iload_n 3, 1) := by decide +kernel
theorem dX5_isBetter_9 : decode cX5_isBetter 9 = .ok (.aload_n 0, 1) := by decide +kernel
theorem dX5_isBetter_10 : decode cX5_isBetter 10 = .ok (.getfield 33, 3) := by decide +kernel
theorem dX5_isBetter_13 : decode cX5_isBetter 13 = .ok (.if_icmp .le 7, 3) := by decide +kernel
theorem dX5_isBetter_16 : decode cX5_isBetter 16 = .ok (.iconst 1, 1) := by decide +kernel
theorem dX5_isBetter_17 : decode cX5_isBetter 17 = .ok (.goto 4, 3) := by decide +kernel
theorem dX5_isBetter_20 : decode cX5_isBetter 20 = .ok (.iconst 0, 1) := by decide +kernel
theorem dX5_isBetter_21 : decode cX5_isBetter 21 = .ok (.ireturn, 1) := by decide +kernel
theorem dX5_isBetter_22 : decode cX5_isBetter 22 = .ok (.iload_n 1, 1) := by decide +kernel
theorem dX5_isBetter_23 : decode cX5_isBetter 23 = .ok (.aload_n 0, 1) := by decide +kernel
theorem dX5_isBetter_24 : decode cX5_isBetter 24 = .ok (.getfield 40, 3) := by decide +kernel
theorem dX5_isBetter_27 : decode cX5_isBetter 27 = .ok (.if_icmp .lt 19, 3) := by decide +kernel
theorem dX5_isBetter_30 : decode cX5_isBetter 30 = .ok (.iload_n 1, 1) := by decide +kernel
theorem dX5_isBetter_31 : decode cX5_isBetter 31 = .ok (.aload_n 0, 1) := by decide +kernel
theorem dX5_isBetter_32 : decode cX5_isBetter 32 = .ok (.getfield 40, 3) := by decide +kernel
theorem dX5_isBetter_35 : decode cX5_isBetter 35 = .ok (.if_icmp .ne 15, 3) := by decide +kernel
theorem dX5_isBetter_38 : decode cX5_isBetter 38 = .ok (.iload_n 2, 1) := by decide +kernel
theorem dX5_isBetter_39 : decode cX5_isBetter 39 = .ok (.aload_n 0, 1) := by decide +kernel
theorem dX5_isBetter_40 : decode cX5_isBetter 40 = .ok (.getfield 37, 3) := by decide +kernel
theorem dX5_isBetter_43 : decode cX5_isBetter 43 = .ok (.if_icmp .ge 7, 3) := by decide +kernel
theorem dX5_isBetter_46 : decode cX5_isBetter 46 = .ok (.iconst 1, 1) := by decide +kernel
theorem dX5_isBetter_47 : decode cX5_isBetter 47 = .ok (.goto 4, 3) := by decide +kernel
theorem dX5_isBetter_50 : decode cX5_isBetter 50 = .ok (.iconst 0, 1) := by decide +kernel
theorem dX5_isBetter_51 : decode cX5_isBetter 51 = .ok (.ireturn, 1) := by decide +kernel
theorem dX6_init_0 : decode cX6_init 0 = .ok (.aload_n 0, 1) := by decide +kernel
theorem dX6_init_1 : decode cX6_init 1 = .ok (.iload_n 1, 1) := by decide +kernel
theorem dX6_init_2 : decode cX6_init 2 = .ok (.iload_n 2, 1) := by decide +kernel
theorem dX6_init_3 : decode cX6_init 3 = .ok (.iload_n 3, 1) := by decide +kernel
theorem dX6_init_4 : decode cX6_init 4 = .ok (.iload 4, 2) := by decide +kernel
theorem dX6_init_6 : decode cX6_init 6 = .ok (.invokespecial 1, 3) := by decide +kernel
theorem dX6_init_9 : decode cX6_init 9 = .ok (.return_, 1) := by decide +kernel
theorem dX6_bears_0 : decode cX6_bears 0 = .ok (.aload_n 0, 1) := by decide +kernel
theorem dX6_bears_1 : decode cX6_bears 1 = .ok (.iload_n 1, 1) := by decide +kernel
theorem dX6_bears_2 : decode cX6_bears 2 = .ok (.invokespecial 7, 3) := by decide +kernel
theorem dX6_bears_5 : decode cX6_bears 5 = .ok (.iconst 2, 1) := by decide +kernel
theorem dX6_bears_6 : decode cX6_bears 6 = .ok (.idiv, 1) := by decide +kernel
theorem dX6_bears_7 : decode cX6_bears 7 = .ok (.ireturn, 1) := by decide +kernel
theorem dX6_brings_0 : decode cX6_brings 0 = .ok (.iconst 2, 1) := by decide +kernel
theorem dX6_brings_1 : decode cX6_brings 1 = .ok (.aload_n 0, 1) := by decide +kernel
theorem dX6_brings_2 : decode cX6_brings 2 = .ok (.invokespecial 11, 3) := by decide +kernel
theorem dX6_brings_5 : decode cX6_brings 5 = .ok (.imul, 1) := by decide +kernel
theorem dX6_brings_6 : decode cX6_brings 6 = .ok (.ireturn, 1) := by decide +kernel
theorem dX6_daysLate_0 : decode cX6_daysLate 0 = .ok (.aload_n 0, 1) := by decide +kernel
theorem dX6_daysLate_1 : decode cX6_daysLate 1 = .ok (.getfield 15, 3) := by decide +kernel
theorem dX6_daysLate_4 : decode cX6_daysLate 4 = .ok (.ifCond .eq 10, 3) := by decide +kernel
theorem dX6_daysLate_7 : decode cX6_daysLate 7 = .ok (.aload_n 0, 1) := by decide +kernel
theorem dX6_daysLate_8 : decode cX6_daysLate 8 = .ok (.getfield 21, 3) := by decide +kernel
theorem dX6_daysLate_11 : decode cX6_daysLate 11 = .ok (.goto 4, 3) := by decide +kernel
theorem dX6_daysLate_14 : decode cX6_daysLate 14 = .ok (.iload_n 1, 1) := by decide +kernel
theorem dX6_daysLate_15 : decode cX6_daysLate 15 = .ok (.aload_n 0, 1) := by decide +kernel
theorem dX6_daysLate_16 : decode cX6_daysLate 16 = .ok (.getfield 25, 3) := by decide +kernel
theorem dX6_daysLate_19 : decode cX6_daysLate 19 = .ok (.isub, 1) := by decide +kernel
theorem dX6_daysLate_20 : decode cX6_daysLate 20 = .ok (.iconst 0, 1) := by decide +kernel
theorem dX6_daysLate_21 : decode cX6_daysLate 21 = .ok (.invokestatic 28, 3) := by decide +kernel
theorem dX6_daysLate_24 : decode cX6_daysLate 24 = .ok (.ireturn, 1) := by decide +kernel
theorem dX7_init_0 : decode cX7_init 0 = .ok (.aload_n 0, 1) := by decide +kernel
theorem dX7_init_1 : decode cX7_init 1 = .ok (.invokespecial 5, 3) := by decide +kernel
theorem dX7_init_4 : decode cX7_init 4 = .ok (.aload_n 0, 1) := by decide +kernel
theorem dX7_init_5 : decode cX7_init 5 = .ok (.sipush 160, 3) := by decide +kernel
theorem dX7_init_8 : decode cX7_init 8 = .ok (.newarray .byte, 2) := by decide +kernel
theorem dX7_init_10 : decode cX7_init 10 = .ok (.putfield 11, 3) := by decide +kernel
theorem dX7_init_13 : decode cX7_init 13 = .ok (.aload_n 0, 1) := by decide +kernel
theorem dX7_init_14 : decode cX7_init 14 = .ok (.sipush 160, 3) := by decide +kernel
theorem dX7_init_17 : decode cX7_init 17 = .ok (.newarray .int, 2) := by decide +kernel
theorem dX7_init_19 : decode cX7_init 19 = .ok (.putfield 15, 3) := by decide +kernel
theorem dX7_init_22 : decode cX7_init 22 = .ok (.return_, 1) := by decide +kernel
theorem dX7_addByte_0 : decode cX7_addByte 0 = .ok (.aload_n 0, 1) := by decide +kernel
theorem dX7_addByte_1 : decode cX7_addByte 1 = .ok (.getfield 19, 3) := by decide +kernel
theorem dX7_addByte_4 : decode cX7_addByte 4 = .ok (.sipush 160, 3) := by decide +kernel
theorem dX7_addByte_7 : decode cX7_addByte 7 = .ok (.if_icmp .ge 23, 3) := by decide +kernel
theorem dX7_addByte_10 : decode cX7_addByte 10 = .ok (.aload_n 0, 1) := by decide +kernel
theorem dX7_addByte_11 : decode cX7_addByte 11 = .ok (.getfield 11, 3) := by decide +kernel
theorem dX7_addByte_14 : decode cX7_addByte 14 = .ok (.aload_n 0, 1) := by decide +kernel
theorem dX7_addByte_15 : decode cX7_addByte 15 = .ok (.getfield 19, 3) := by decide +kernel
theorem dX7_addByte_18 : decode cX7_addByte 18 = .ok (.iload_n 1, 1) := by decide +kernel
theorem dX7_addByte_19 : decode cX7_addByte 19 = .ok (.bastore, 1) := by decide +kernel
theorem dX7_addByte_20 : decode cX7_addByte 20 = .ok (.aload_n 0, 1) := by decide +kernel
theorem dX7_addByte_21 : decode cX7_addByte 21 = .ok (.dup, 1) := by decide +kernel
theorem dX7_addByte_22 : decode cX7_addByte 22 = .ok (.getfield 19, 3) := by decide +kernel
theorem dX7_addByte_25 : decode cX7_addByte 25 = .ok (.iconst 1, 1) := by decide +kernel
theorem dX7_addByte_26 : decode cX7_addByte 26 = .ok (.iadd, 1) := by decide +kernel
theorem dX7_addByte_27 : decode cX7_addByte 27 = .ok (.putfield 19, 3) := by decide +kernel
theorem dX7_addByte_30 : decode cX7_addByte 30 = .ok (.return_, 1) := by decide +kernel
theorem dX7_readTape_0 : decode cX7_readTape 0 = .ok (.aload_n 0, 1) := by decide +kernel
theorem dX7_readTape_1 : decode cX7_readTape 1 = .ok (.iconst (-1), 1) := by decide +kernel
theorem dX7_readTape_2 : decode cX7_readTape 2 = .ok (.putfield 23, 3) := by decide +kernel
theorem dX7_readTape_5 : decode cX7_readTape 5 = .ok (.aload_n 0, 1) := by decide +kernel
theorem dX7_readTape_6 : decode cX7_readTape 6 = .ok (.iconst 0, 1) := by decide +kernel
theorem dX7_readTape_7 : decode cX7_readTape 7 = .ok (.putfield 26, 3) := by decide +kernel
theorem dX7_readTape_10 : decode cX7_readTape 10 = .ok (.aload_n 0, 1) := by decide +kernel
theorem dX7_readTape_11 : decode cX7_readTape 11 = .ok (.iconst 0, 1) := by decide +kernel
theorem dX7_readTape_12 : decode cX7_readTape 12 = .ok (.putfield 29, 3) := by decide +kernel
theorem dX7_readTape_15 : decode cX7_readTape 15 = .ok (.aload_n 0, 1) := by decide +kernel
theorem dX7_readTape_16 : decode cX7_readTape 16 = .ok (.iconst 0, 1) := by decide +kernel
theorem dX7_readTape_17 : decode cX7_readTape 17 = .ok (.putfield 32, 3) := by decide +kernel
theorem dX7_readTape_20 : decode cX7_readTape 20 = .ok (.aload_n 0, 1) := by decide +kernel
theorem dX7_readTape_21 : decode cX7_readTape 21 = .ok (.invokevirtual 35, 3) := by decide +kernel
theorem dX7_readTape_24 : decode cX7_readTape 24 = .ok (.iconst 3, 1) := by decide +kernel
theorem dX7_readTape_25 : decode cX7_readTape 25 = .ok (.newarray .int, 2) := by decide +kernel
theorem dX7_readTape_27 : decode cX7_readTape 27 = .ok (.astore_n 1, 1) := by decide +kernel
theorem dX7_readTape_28 : decode cX7_readTape 28 = .ok (.iconst 0, 1) := by decide +kernel
theorem dX7_readTape_29 : decode cX7_readTape 29 = .ok (.istore_n 2, 1) := by decide +kernel
theorem dX7_readTape_30 : decode cX7_readTape 30 = .ok (.iload_n 2, 1) := by decide +kernel
theorem dX7_readTape_31 : decode cX7_readTape 31 = .ok (.aload_n 1, 1) := by decide +kernel
theorem dX7_readTape_32 : decode cX7_readTape 32 = .ok (.arraylength, 1) := by decide +kernel
theorem dX7_readTape_33 : decode cX7_readTape 33 = .ok (.if_icmp .ge 35, 3) := by decide +kernel
theorem dX7_readTape_36 : decode cX7_readTape 36 = .ok (.aload_n 0, 1) := by decide +kernel
theorem dX7_readTape_37 : decode cX7_readTape 37 = .ok (.sipush 262, 3) := by decide +kernel
theorem dX7_readTape_40 : decode cX7_readTape 40 = .ok (.iload_n 2, 1) := by decide +kernel
theorem dX7_readTape_41 : decode cX7_readTape 41 = .ok (.iadd, 1) := by decide +kernel
theorem dX7_readTape_42 : decode cX7_readTape 42 = .ok (.invokevirtual 38, 3) := by decide +kernel
theorem dX7_readTape_45 : decode cX7_readTape 45 = .ok (.aload_n 0, 1) := by decide +kernel
theorem dX7_readTape_46 : decode cX7_readTape 46 = .ok (.invokevirtual 42, 3) := by decide +kernel
theorem dX7_readTape_49 : decode cX7_readTape 49 = .ok (.aload_n 0, 1) := by decide +kernel
theorem dX7_readTape_50 : decode cX7_readTape 50 = .ok (.bipush 59, 2) := by decide +kernel
theorem dX7_readTape_52 : decode cX7_readTape 52 = .ok (.invokevirtual 38, 3) := by decide +kernel
theorem dX7_readTape_55 : decode cX7_readTape 55 = .ok (.aload_n 1, 1) := by decide +kernel
theorem dX7_readTape_56 : decode cX7_readTape 56 = .ok (.iload_n 2, 1) := by decide +kernel
theorem dX7_readTape_57 : decode cX7_readTape 57 = .ok (.aload_n 0, 1) := by decide +kernel
theorem dX7_readTape_58 : decode cX7_readTape 58 = .ok (.getfield 32, 3) := by decide +kernel
theorem dX7_readTape_61 : decode cX7_readTape 61 = .ok (.iastore, 1) := by decide +kernel
theorem dX7_readTape_62 : decode cX7_readTape 62 = .ok (.iinc 2 1, 3) := by decide +kernel
theorem dX7_readTape_65 : decode cX7_readTape 65 = .ok (.goto (-35), 3) := by decide +kernel
theorem dX7_readTape_68 : decode cX7_readTape 68 = .ok (.aload_n 0, 1) := by decide +kernel
theorem dX7_readTape_69 : decode cX7_readTape 69 = .ok (.getfield 45, 3) := by decide +kernel
theorem dX7_readTape_72 : decode cX7_readTape 72 = .ok (.ifCond .eq 7, 3) := by decide +kernel
theorem dX7_readTape_75 : decode cX7_readTape 75 = .ok (.aload_n 0, 1) := by decide +kernel
theorem dX7_readTape_76 : decode cX7_readTape 76 = .ok (.invokevirtual 48, 3) := by decide +kernel
theorem dX7_readTape_79 : decode cX7_readTape 79 = .ok (.aload_n 0, 1) := by decide +kernel
theorem dX7_readTape_80 : decode cX7_readTape 80 = .ok (.iconst 0, 1) := by decide +kernel
theorem dX7_readTape_81 : decode cX7_readTape 81 = .ok (.putfield 19, 3) := by decide +kernel
theorem dX7_readTape_84 : decode cX7_readTape 84 = .ok (.aload_n 0, 1) := by decide +kernel
theorem dX7_readTape_85 : decode cX7_readTape 85 = .ok (.getfield 23, 3) := by decide +kernel
theorem dX7_readTape_88 : decode cX7_readTape 88 = .ok (.iconst (-1), 1) := by decide +kernel
theorem dX7_readTape_89 : decode cX7_readTape 89 = .ok (.if_icmp .ne 25, 3) := by decide +kernel
theorem dX7_readTape_92 : decode cX7_readTape 92 = .ok (.new 51, 3) := by decide +kernel
theorem dX7_readTape_95 : decode cX7_readTape 95 = .ok (.dup, 1) := by decide +kernel
theorem dX7_readTape_96 : decode cX7_readTape 96 = .ok (.aload_n 0, 1) := by decide +kernel
theorem dX7_readTape_97 : decode cX7_readTape 97 = .ok (.getfield 15, 3) := by decide +kernel
theorem dX7_readTape_100 : decode cX7_readTape 100 = .ok (.aload_n 0, 1) := by decide +kernel
theorem dX7_readTape_101 : decode cX7_readTape 101 = .ok (.getfield 32, 3) := by decide +kernel
theorem dX7_readTape_104 : decode cX7_readTape 104 = .ok (.invokestatic 53, 3) := by decide +kernel
theorem dX7_readTape_107 : decode cX7_readTape 107 = .ok (.aload_n 1, 1) := by decide +kernel
theorem dX7_readTape_108 : decode cX7_readTape 108 = .ok (.invokespecial 59, 3) := by decide +kernel
theorem dX7_readTape_111 : decode cX7_readTape 111 = .ok (.goto 4, 3) := by decide +kernel
theorem dX7_readTape_114 : decode cX7_readTape 114 = .ok (.aconst_null, 1) := by decide +kernel
theorem dX7_readTape_115 : decode cX7_readTape 115 = .ok (.areturn, 1) := by decide +kernel
theorem dX7_readE_0 : decode cX7_readE 0 = .ok (.aload_n 0, 1) := by decide +kernel
theorem dX7_readE_1 : decode cX7_readE 1 = .ok (.invokevirtual 62, 3) := by decide +kernel
theorem dX7_readE_4 : decode cX7_readE 4 = .ok (.iconst 0, 1) := by decide +kernel
theorem dX7_readE_5 : decode cX7_readE 5 = .ok (.istore_n 1, 1) := by decide +kernel
theorem dX7_readE_6 : decode cX7_readE 6 = .ok (.iload_n 1, 1) := by decide +kernel
theorem dX7_readE_7 : decode cX7_readE 7 = .ok (.sipush 160, 3) := by decide +kernel
theorem dX7_readE_10 : decode cX7_readE 10 = .ok (.if_icmp .ge 29, 3) := by decide +kernel
theorem dX7_readE_13 : decode cX7_readE 13 = .ok (.aload_n 0, 1) := by decide +kernel
theorem dX7_readE_14 : decode cX7_readE 14 = .ok (.sipush 265, 3) := by decide +kernel
theorem dX7_readE_17 : decode cX7_readE 17 = .ok (.invokevirtual 65, 3) := by decide +kernel
theorem dX7_readE_20 : decode cX7_readE 20 = .ok (.ifCond .eq 19, 3) := by decide +kernel
theorem dX7_readE_23 : decode cX7_readE 23 = .ok (.aload_n 0, 1) := by decide +kernel
theorem dX7_readE_24 : decode cX7_readE 24 = .ok (.invokevirtual 62, 3) := by decide +kernel
theorem dX7_readE_27 : decode cX7_readE 27 = .ok (.aload_n 0, 1) := by decide +kernel
theorem dX7_readE_28 : decode cX7_readE 28 = .ok (.bipush (-18), 2) := by decide +kernel
theorem dX7_readE_30 : decode cX7_readE 30 = .ok (.invokevirtual 69, 3) := by decide +kernel
theorem dX7_readE_33 : decode cX7_readE 33 = .ok (.iinc 1 1, 3) := by decide +kernel
theorem dX7_readE_36 : decode cX7_readE 36 = .ok (.goto (-30), 3) := by decide +kernel
theorem dX7_readE_39 : decode cX7_readE 39 = .ok (.return_, 1) := by decide +kernel
theorem dX7_readAnd_0 : decode cX7_readAnd 0 = .ok (.aload_n 0, 1) := by decide +kernel
theorem dX7_readAnd_1 : decode cX7_readAnd 1 = .ok (.invokevirtual 72, 3) := by decide +kernel
theorem dX7_readAnd_4 : decode cX7_readAnd 4 = .ok (.iconst 0, 1) := by decide +kernel
theorem dX7_readAnd_5 : decode cX7_readAnd 5 = .ok (.istore_n 1, 1) := by decide +kernel
theorem dX7_readAnd_6 : decode cX7_readAnd 6 = .ok (.iload_n 1, 1) := by decide +kernel
theorem dX7_readAnd_7 : decode cX7_readAnd 7 = .ok (.sipush 160, 3) := by decide +kernel
theorem dX7_readAnd_10 : decode cX7_readAnd 10 = .ok (.if_icmp .ge 29, 3) := by decide +kernel
theorem dX7_readAnd_13 : decode cX7_readAnd 13 = .ok (.aload_n 0, 1) := by decide +kernel
theorem dX7_readAnd_14 : decode cX7_readAnd 14 = .ok (.sipush 266, 3) := by decide +kernel
theorem dX7_readAnd_17 : decode cX7_readAnd 17 = .ok (.invokevirtual 65, 3) := by decide +kernel
theorem dX7_readAnd_20 : decode cX7_readAnd 20 = .ok (.ifCond .eq 19, 3) := by decide +kernel
theorem dX7_readAnd_23 : decode cX7_readAnd 23 = .ok (.aload_n 0, 1) := by decide +kernel
theorem dX7_readAnd_24 : decode cX7_readAnd 24 = .ok (.invokevirtual 72, 3) := by decide +kernel
theorem dX7_readAnd_27 : decode cX7_readAnd 27 = .ok (.aload_n 0, 1) := by decide +kernel
theorem dX7_readAnd_28 : decode cX7_readAnd 28 = .ok (.bipush (-17), 2) := by decide +kernel
theorem dX7_readAnd_30 : decode cX7_readAnd 30 = .ok (.invokevirtual 69, 3) := by decide +kernel
theorem dX7_readAnd_33 : decode cX7_readAnd 33 = .ok (.iinc 1 1, 3) := by decide +kernel
theorem dX7_readAnd_36 : decode cX7_readAnd 36 = .ok (.goto (-30), 3) := by decide +kernel
theorem dX7_readAnd_39 : decode cX7_readAnd 39 = .ok (.return_, 1) := by decide +kernel
theorem dX7_readNot_0 : decode cX7_readNot 0 = .ok (.aload_n 0, 1) := by decide +kernel
theorem dX7_readNot_1 : decode cX7_readNot 1 = .ok (.getfield 45, 3) := by decide +kernel
theorem dX7_readNot_4 : decode cX7_readNot 4 = .ok (.sipush 267, 3) := by decide +kernel
theorem dX7_readNot_7 : decode cX7_readNot 7 = .ok (.if_icmp .ne 31, 3) := by decide +kernel
theorem dX7_readNot_10 : decode cX7_readNot 10 = .ok (.aload_n 0, 1) := by decide +kernel
theorem dX7_readNot_11 : decode cX7_readNot 11 = .ok (.invokevirtual 75, 3) := by decide +kernel
theorem dX7_readNot_14 : decode cX7_readNot 14 = .ok (.ifCond .eq 23, 3) := by decide +kernel
theorem dX7_readNot_17 : decode cX7_readNot 17 = .ok (.aload_n 0, 1) := by decide +kernel
theorem dX7_readNot_18 : decode cX7_readNot 18 = .ok (.invokevirtual 72, 3) := by decide +kernel
theorem dX7_readNot_21 : decode cX7_readNot 21 = .ok (.aload_n 0, 1) := by decide +kernel
theorem dX7_readNot_22 : decode cX7_readNot 22 = .ok (.dup, 1) := by decide +kernel
theorem dX7_readNot_23 : decode cX7_readNot 23 = .ok (.getfield 29, 3) := by decide +kernel
theorem dX7_readNot_26 : decode cX7_readNot 26 = .ok (.iconst 1, 1) := by decide +kernel
theorem dX7_readNot_27 : decode cX7_readNot 27 = .ok (.isub, 1) := by decide +kernel
theorem dX7_readNot_28 : decode cX7_readNot 28 = .ok (.putfield 29, 3) := by decide +kernel
theorem dX7_readNot_31 : decode cX7_readNot 31 = .ok (.aload_n 0, 1) := by decide +kernel
theorem dX7_readNot_32 : decode cX7_readNot 32 = .ok (.bipush (-11), 2) := by decide +kernel
theorem dX7_readNot_34 : decode cX7_readNot 34 = .ok (.invokevirtual 69, 3) := by decide +kernel
theorem dX7_readNot_37 : decode cX7_readNot 37 = .ok (.return_, 1) := by decide +kernel
theorem dX7_readNot_38 : decode cX7_readNot 38 = .ok (.aload_n 0, 1) := by decide +kernel
theorem dX7_readNot_39 : decode cX7_readNot 39 = .ok (.invokevirtual 79, 3) := by decide +kernel
theorem dX7_readNot_42 : decode cX7_readNot 42 = .ok (.aload_n 0, 1) := by decide +kernel
theorem dX7_readNot_43 : decode cX7_readNot 43 = .ok (.bipush 60, 2) := by decide +kernel
theorem dX7_readNot_45 : decode cX7_readNot 45 = .ok (.invokevirtual 65, 3) := by decide +kernel
theorem dX7_readNot_48 : decode cX7_readNot 48 = .ok (.ifCond .eq 16, 3) := by decide +kernel
theorem dX7_readNot_51 : decode cX7_readNot 51 = .ok (.aload_n 0, 1) := by decide +kernel
theorem dX7_readNot_52 : decode cX7_readNot 52 = .ok (.invokevirtual 79, 3) := by decide +kernel
theorem dX7_readNot_55 : decode cX7_readNot 55 = .ok (.aload_n 0, 1) := by decide +kernel
theorem dX7_readNot_56 : decode cX7_readNot 56 = .ok (.bipush (-15), 2) := by decide +kernel
theorem dX7_readNot_58 : decode cX7_readNot 58 = .ok (.invokevirtual 69, 3) := by decide +kernel
theorem dX7_readNot_61 : decode cX7_readNot 61 = .ok (.goto 22, 3) := by decide +kernel
theorem dX7_readNot_64 : decode cX7_readNot 64 = .ok (.aload_n 0, 1) := by decide +kernel
theorem dX7_readNot_65 : decode cX7_readNot 65 = .ok (.bipush 61, 2) := by decide +kernel
theorem dX7_readNot_67 : decode cX7_readNot 67 = .ok (.invokevirtual 65, 3) := by decide +kernel
theorem dX7_readNot_70 : decode cX7_readNot 70 = .ok (.ifCond .eq 13, 3) := by decide +kernel
theorem dX7_readNot_73 : decode cX7_readNot 73 = .ok (.aload_n 0, 1) := by decide +kernel
theorem dX7_readNot_74 : decode cX7_readNot 74 = .ok (.invokevirtual 79, 3) := by decide +kernel
theorem dX7_readNot_77 : decode cX7_readNot 77 = .ok (.aload_n 0, 1) := by decide +kernel
theorem dX7_readNot_78 : decode cX7_readNot 78 = .ok (.bipush (-16), 2) := by decide +kernel
theorem dX7_readNot_80 : decode cX7_readNot 80 = .ok (.invokevirtual 69, 3) := by decide +kernel
theorem dX7_readNot_83 : decode cX7_readNot 83 = .ok (.return_, 1) := by decide +kernel
theorem dX7_readSum_0 : decode cX7_readSum 0 = .ok (.aload_n 0, 1) := by decide +kernel
theorem dX7_readSum_1 : decode cX7_readSum 1 = .ok (.invokevirtual 82, 3) := by decide +kernel
theorem dX7_readSum_4 : decode cX7_readSum 4 = .ok (.iconst 0, 1) := by decide +kernel
theorem dX7_readSum_5 : decode cX7_readSum 5 = .ok (.istore_n 1, 1) := by decide +kernel
theorem dX7_readSum_6 : decode cX7_readSum 6 = .ok (.iload_n 1, 1) := by decide +kernel
theorem dX7_readSum_7 : decode cX7_readSum 7 = .ok (.sipush 160, 3) := by decide +kernel
theorem dX7_readSum_10 : decode cX7_readSum 10 = .ok (.if_icmp .ge 57, 3) := by decide +kernel
theorem dX7_readSum_13 : decode cX7_readSum 13 = .ok (.aload_n 0, 1) := by decide +kernel
theorem dX7_readSum_14 : decode cX7_readSum 14 = .ok (.getfield 45, 3) := by decide +kernel
theorem dX7_readSum_17 : decode cX7_readSum 17 = .ok (.bipush 43, 2) := by decide +kernel
theorem dX7_readSum_19 : decode cX7_readSum 19 = .ok (.if_icmp .eq 12, 3) := by decide +kernel
theorem dX7_readSum_22 : decode cX7_readSum 22 = .ok (.aload_n 0, 1) := by decide +kernel
theorem dX7_readSum_23 : decode cX7_readSum 23 = .ok (.getfield 45, 3) := by decide +kernel
theorem dX7_readSum_26 : decode cX7_readSum 26 = .ok (.bipush 45, 2) := by decide +kernel
theorem dX7_readSum_28 : decode cX7_readSum 28 = .ok (.if_icmp .ne 39, 3) := by decide +kernel
theorem dX7_readSum_31 : decode cX7_readSum 31 = .ok (.aload_n 0, 1) := by decide +kernel
theorem dX7_readSum_32 : decode cX7_readSum 32 = .ok (.getfield 45, 3) := by decide +kernel
theorem dX7_readSum_35 : decode cX7_readSum 35 = .ok (.bipush 43, 2) := by decide +kernel
theorem dX7_readSum_37 : decode cX7_readSum 37 = .ok (.if_icmp .ne 8, 3) := by decide +kernel
theorem dX7_readSum_40 : decode cX7_readSum 40 = .ok (.bipush (-13), 2) := by decide +kernel
theorem dX7_readSum_42 : decode cX7_readSum 42 = .ok (.goto 5, 3) := by decide +kernel
theorem dX7_readSum_45 : decode cX7_readSum 45 = .ok (.bipush (-14), 2) := by decide +kernel
theorem dX7_readSum_47 : decode cX7_readSum 47 = .ok (.istore_n 2, 1) := by decide +kernel
theorem dX7_readSum_48 : decode cX7_readSum 48 = .ok (.aload_n 0, 1) := by decide +kernel
theorem dX7_readSum_49 : decode cX7_readSum 49 = .ok (.invokevirtual 35, 3) := by decide +kernel
theorem dX7_readSum_52 : decode cX7_readSum 52 = .ok (.aload_n 0, 1) := by decide +kernel
theorem dX7_readSum_53 : decode cX7_readSum 53 = .ok (.invokevirtual 82, 3) := by decide +kernel
theorem dX7_readSum_56 : decode cX7_readSum 56 = .ok (.aload_n 0, 1) := by decide +kernel
theorem dX7_readSum_57 : decode cX7_readSum 57 = .ok (.iload_n 2, 1) := by decide +kernel
theorem dX7_readSum_58 : decode cX7_readSum 58 = .ok (.invokevirtual 69, 3) := by decide +kernel
theorem dX7_readSum_61 : decode cX7_readSum 61 = .ok (.iinc 1 1, 3) := by decide +kernel
theorem dX7_readSum_64 : decode cX7_readSum 64 = .ok (.goto (-58), 3) := by decide +kernel
theorem dX7_readSum_67 : decode cX7_readSum 67 = .ok (.return_, 1) := by decide +kernel
theorem dX7_readTerm_0 : decode cX7_readTerm 0 = .ok (.aload_n 0, 1) := by decide +kernel
theorem dX7_readTerm_1 : decode cX7_readTerm 1 = .ok (.invokevirtual 85, 3) := by decide +kernel
theorem dX7_readTerm_4 : decode cX7_readTerm 4 = .ok (.iconst 0, 1) := by decide +kernel
theorem dX7_readTerm_5 : decode cX7_readTerm 5 = .ok (.istore_n 1, 1) := by decide +kernel
theorem dX7_readTerm_6 : decode cX7_readTerm 6 = .ok (.iload_n 1, 1) := by decide +kernel
theorem dX7_readTerm_7 : decode cX7_readTerm 7 = .ok (.sipush 160, 3) := by decide +kernel
theorem dX7_readTerm_10 : decode cX7_readTerm 10 = .ok (.if_icmp .ge 28, 3) := by decide +kernel
theorem dX7_readTerm_13 : decode cX7_readTerm 13 = .ok (.aload_n 0, 1) := by decide +kernel
theorem dX7_readTerm_14 : decode cX7_readTerm 14 = .ok (.bipush 42, 2) := by decide +kernel
theorem dX7_readTerm_16 : decode cX7_readTerm 16 = .ok (.invokevirtual 65, 3) := by decide +kernel
theorem dX7_readTerm_19 : decode cX7_readTerm 19 = .ok (.ifCond .eq 19, 3) := by decide +kernel
theorem dX7_readTerm_22 : decode cX7_readTerm 22 = .ok (.aload_n 0, 1) := by decide +kernel
theorem dX7_readTerm_23 : decode cX7_readTerm 23 = .ok (.invokevirtual 85, 3) := by decide +kernel
theorem dX7_readTerm_26 : decode cX7_readTerm 26 = .ok (.aload_n 0, 1) := by decide +kernel
theorem dX7_readTerm_27 : decode cX7_readTerm 27 = .ok (.bipush (-12), 2) := by decide +kernel
theorem dX7_readTerm_29 : decode cX7_readTerm 29 = .ok (.invokevirtual 69, 3) := by decide +kernel
theorem dX7_readTerm_32 : decode cX7_readTerm 32 = .ok (.iinc 1 1, 3) := by decide +kernel
theorem dX7_readTerm_35 : decode cX7_readTerm 35 = .ok (.goto (-29), 3) := by decide +kernel
theorem dX7_readTerm_38 : decode cX7_readTerm 38 = .ok (.return_, 1) := by decide +kernel
theorem dX7_readOne_0 : decode cX7_readOne 0 = .ok (.aload_n 0, 1) := by decide +kernel
theorem dX7_readOne_1 : decode cX7_readOne 1 = .ok (.getfield 45, 3) := by decide +kernel
theorem dX7_readOne_4 : decode cX7_readOne 4 = .ok (.iconst 2, 1) := by decide +kernel
theorem dX7_readOne_5 : decode cX7_readOne 5 = .ok (.if_icmp .ne 18, 3) := by decide +kernel
theorem dX7_readOne_8 : decode cX7_readOne 8 = .ok (.aload_n 0, 1) := by decide +kernel
theorem dX7_readOne_9 : decode cX7_readOne 9 = .ok (.aload_n 0, 1) := by decide +kernel
theorem dX7_readOne_10 : decode cX7_readOne 10 = .ok (.getfield 88, 3) := by decide +kernel
theorem dX7_readOne_13 : decode cX7_readOne 13 = .ok (.invokevirtual 69, 3) := by decide +kernel
theorem dX7_readOne_16 : decode cX7_readOne 16 = .ok (.aload_n 0, 1) := by decide +kernel
theorem dX7_readOne_17 : decode cX7_readOne 17 = .ok (.invokevirtual 35, 3) := by decide +kernel
theorem dX7_readOne_20 : decode cX7_readOne 20 = .ok (.goto 122, 3) := by decide +kernel
theorem dX7_readOne_23 : decode cX7_readOne 23 = .ok (.aload_n 0, 1) := by decide +kernel
theorem dX7_readOne_24 : decode cX7_readOne 24 = .ok (.getfield 45, 3) := by decide +kernel
theorem dX7_readOne_27 : decode cX7_readOne 27 = .ok (.sipush 256, 3) := by decide +kernel
theorem dX7_readOne_30 : decode cX7_readOne 30 = .ok (.sipush 261, 3) := by decide +kernel
theorem dX7_readOne_33 : decode cX7_readOne 33 = .ok (.invokestatic 91, 3) := by decide +kernel
theorem dX7_readOne_36 : decode cX7_readOne 36 = .ok (.ifCond .eq 24, 3) := by decide +kernel
theorem dX7_readOne_39 : decode cX7_readOne 39 = .ok (.aload_n 0, 1) := by decide +kernel
theorem dX7_readOne_40 : decode cX7_readOne 40 = .ok (.iconst (-1), 1) := by decide +kernel
theorem dX7_readOne_41 : decode cX7_readOne 41 = .ok (.aload_n 0, 1) := by decide +kernel
theorem dX7_readOne_42 : decode cX7_readOne 42 = .ok (.getfield 45, 3) := by decide +kernel
theorem dX7_readOne_45 : decode cX7_readOne 45 = .ok (.sipush 256, 3) := by decide +kernel
theorem dX7_readOne_48 : decode cX7_readOne 48 = .ok (.isub, 1) := by decide +kernel
theorem dX7_readOne_49 : decode cX7_readOne 49 = .ok (.isub, 1) := by decide +kernel
theorem dX7_readOne_50 : decode cX7_readOne 50 = .ok (.invokevirtual 69, 3) := by decide +kernel
theorem dX7_readOne_53 : decode cX7_readOne 53 = .ok (.aload_n 0, 1) := by decide +kernel
theorem dX7_readOne_54 : decode cX7_readOne 54 = .ok (.invokevirtual 35, 3) := by decide +kernel
theorem dX7_readOne_57 : decode cX7_readOne 57 = .ok (.goto 85, 3) := by decide +kernel
theorem dX7_readOne_60 : decode cX7_readOne 60 = .ok (.aload_n 0, 1) := by decide +kernel
theorem dX7_readOne_61 : decode cX7_readOne 61 = .ok (.getfield 45, 3) := by decide +kernel
theorem dX7_readOne_64 : decode cX7_readOne 64 = .ok (.bipush 45, 2) := by decide +kernel
theorem dX7_readOne_66 : decode cX7_readOne 66 = .ok (.if_icmp .ne 33, 3) := by decide +kernel
theorem dX7_readOne_69 : decode cX7_readOne 69 = .ok (.aload_n 0, 1) := by decide +kernel
theorem dX7_readOne_70 : decode cX7_readOne 70 = .ok (.invokevirtual 75, 3) := by decide +kernel
theorem dX7_readOne_73 : decode cX7_readOne 73 = .ok (.ifCond .eq 69, 3) := by decide +kernel
theorem dX7_readOne_76 : decode cX7_readOne 76 = .ok (.aload_n 0, 1) := by decide +kernel
theorem dX7_readOne_77 : decode cX7_readOne 77 = .ok (.invokevirtual 85, 3) := by decide +kernel
theorem dX7_readOne_80 : decode cX7_readOne 80 = .ok (.aload_n 0, 1) := by decide +kernel
theorem dX7_readOne_81 : decode cX7_readOne 81 = .ok (.dup, 1) := by decide +kernel
theorem dX7_readOne_82 : decode cX7_readOne 82 = .ok (.getfield 29, 3) := by decide +kernel
theorem dX7_readOne_85 : decode cX7_readOne 85 = .ok (.iconst 1, 1) := by decide +kernel
theorem dX7_readOne_86 : decode cX7_readOne 86 = .ok (.isub, 1) := by decide +kernel
theorem dX7_readOne_87 : decode cX7_readOne 87 = .ok (.putfield 29, 3) := by decide +kernel
theorem dX7_readOne_90 : decode cX7_readOne 90 = .ok (.aload_n 0, 1) := by decide +kernel
theorem dX7_readOne_91 : decode cX7_readOne 91 = .ok (.bipush (-10), 2) := by decide +kernel
theorem dX7_readOne_93 : decode cX7_readOne 93 = .ok (.invokevirtual 69, 3) := by decide +kernel
theorem dX7_readOne_96 : decode cX7_readOne 96 = .ok (.goto 46, 3) := by decide +kernel
theorem dX7_readOne_99 : decode cX7_readOne 99 = .ok (.aload_n 0, 1) := by decide +kernel
theorem dX7_readOne_100 : decode cX7_readOne 100 = .ok (.getfield 45, 3) := by decide +kernel
theorem dX7_readOne_103 : decode cX7_readOne 103 = .ok (.bipush 40, 2) := by decide +kernel
theorem dX7_readOne_105 : decode cX7_readOne 105 = .ok (.if_icmp .ne 33, 3) := by decide +kernel
theorem dX7_readOne_108 : decode cX7_readOne 108 = .ok (.aload_n 0, 1) := by decide +kernel
theorem dX7_readOne_109 : decode cX7_readOne 109 = .ok (.invokevirtual 75, 3) := by decide +kernel
theorem dX7_readOne_112 : decode cX7_readOne 112 = .ok (.ifCond .eq 30, 3) := by decide +kernel
theorem dX7_readOne_115 : decode cX7_readOne 115 = .ok (.aload_n 0, 1) := by decide +kernel
theorem dX7_readOne_116 : decode cX7_readOne 116 = .ok (.invokevirtual 42, 3) := by decide +kernel
theorem dX7_readOne_119 : decode cX7_readOne 119 = .ok (.aload_n 0, 1) := by decide +kernel
theorem dX7_readOne_120 : decode cX7_readOne 120 = .ok (.bipush 41, 2) := by decide +kernel
theorem dX7_readOne_122 : decode cX7_readOne 122 = .ok (.invokevirtual 38, 3) := by decide +kernel
theorem dX7_readOne_125 : decode cX7_readOne 125 = .ok (.aload_n 0, 1) := by decide +kernel
theorem dX7_readOne_126 : decode cX7_readOne 126 = .ok (.dup, 1) := by decide +kernel
theorem dX7_readOne_127 : decode cX7_readOne 127 = .ok (.getfield 29, 3) := by decide +kernel
theorem dX7_readOne_130 : decode cX7_readOne 130 = .ok (.iconst 1, 1) := by decide +kernel
theorem dX7_readOne_131 : decode cX7_readOne 131 = .ok (.isub, 1) := by decide +kernel
theorem dX7_readOne_132 : decode cX7_readOne 132 = .ok (.putfield 29, 3) := by decide +kernel
theorem dX7_readOne_135 : decode cX7_readOne 135 = .ok (.goto 7, 3) := by decide +kernel
theorem dX7_readOne_138 : decode cX7_readOne 138 = .ok (.aload_n 0, 1) := by decide +kernel
theorem dX7_readOne_139 : decode cX7_readOne 139 = .ok (.invokevirtual 48, 3) := by decide +kernel
theorem dX7_readOne_142 : decode cX7_readOne 142 = .ok (.return_, 1) := by decide +kernel
theorem dX7_opened_0 : decode cX7_opened 0 = .ok (.aload_n 0, 1) := by decide +kernel
theorem dX7_opened_1 : decode cX7_opened 1 = .ok (.getfield 29, 3) := by decide +kernel
theorem dX7_opened_4 : decode cX7_opened 4 = .ok (.iconst 5, 1) := by decide +kernel
theorem dX7_opened_5 : decode cX7_opened 5 = .ok (.if_icmp .lt 9, 3) := by decide +kernel
theorem dX7_opened_8 : decode cX7_opened 8 = .ok (.aload_n 0, 1) := by decide +kernel
theorem dX7_opened_9 : decode cX7_opened 9 = .ok (.invokevirtual 48, 3) := by decide +kernel
theorem dX7_opened_12 : decode cX7_opened 12 = .ok (.iconst 0, 1) := by decide +kernel
theorem dX7_opened_13 : decode cX7_opened 13 = .ok (.ireturn, 1) := by decide +kernel
theorem dX7_opened_14 : decode cX7_opened 14 = .ok (.aload_n 0, 1) := by decide +kernel
theorem dX7_opened_15 : decode cX7_opened 15 = .ok (.dup, 1) := by decide +kernel
theorem dX7_opened_16 : decode cX7_opened 16 = .ok (.getfield 29, 3) := by decide +kernel
theorem dX7_opened_19 : decode cX7_opened 19 = .ok (.iconst 1, 1) := by decide +kernel
theorem dX7_opened_20 : decode cX7_opened 20 = .ok (.iadd, 1) := by decide +kernel
theorem dX7_opened_21 : decode cX7_opened 21 = .ok (.putfield 29, 3) := by decide +kernel
theorem dX7_opened_24 : decode cX7_opened 24 = .ok (.aload_n 0, 1) := by decide +kernel
theorem dX7_opened_25 : decode cX7_opened 25 = .ok (.invokevirtual 35, 3) := by decide +kernel
theorem dX7_opened_28 : decode cX7_opened 28 = .ok (.iconst 1, 1) := by decide +kernel
theorem dX7_opened_29 : decode cX7_opened 29 = .ok (.ireturn, 1) := by decide +kernel
theorem dX7_accept_0 : decode cX7_accept 0 = .ok (.aload_n 0, 1) := by decide +kernel
theorem dX7_accept_1 : decode cX7_accept 1 = .ok (.getfield 45, 3) := by decide +kernel
theorem dX7_accept_4 : decode cX7_accept 4 = .ok (.iload_n 1, 1) := by decide +kernel
theorem dX7_accept_5 : decode cX7_accept 5 = .ok (.if_icmp .eq 5, 3) := by decide +kernel
theorem dX7_accept_8 : decode cX7_accept 8 = .ok (.iconst 0, 1) := by decide +kernel
theorem dX7_accept_9 : decode cX7_accept 9 = .ok (.ireturn, 1) := by decide +kernel
theorem dX7_accept_10 : decode cX7_accept 10 = .ok (.aload_n 0, 1) := by decide +kernel
theorem dX7_accept_11 : decode cX7_accept 11 = .ok (.invokevirtual 35, 3) := by decide +kernel
theorem dX7_accept_14 : decode cX7_accept 14 = .ok (.iconst 1, 1) := by decide +kernel
theorem dX7_accept_15 : decode cX7_accept 15 = .ok (.ireturn, 1) := by decide +kernel
theorem dX7_need_0 : decode cX7_need 0 = .ok (.aload_n 0, 1) := by decide +kernel
theorem dX7_need_1 : decode cX7_need 1 = .ok (.iload_n 1, 1) := by decide +kernel
theorem dX7_need_2 : decode cX7_need 2 = .ok (.invokevirtual 65, 3) := by decide +kernel
theorem dX7_need_5 : decode cX7_need 5 = .ok (.ifCond .ne 7, 3) := by decide +kernel
theorem dX7_need_8 : decode cX7_need 8 = .ok (.aload_n 0, 1) := by decide +kernel
theorem dX7_need_9 : decode cX7_need 9 = .ok (.invokevirtual 48, 3) := by decide +kernel
theorem dX7_need_12 : decode cX7_need 12 = .ok (.return_, 1) := by decide +kernel
theorem dX7_fail_0 : decode cX7_fail 0 = .ok (.aload_n 0, 1) := by decide +kernel
theorem dX7_fail_1 : decode cX7_fail 1 = .ok (.getfield 23, 3) := by decide +kernel
theorem dX7_fail_4 : decode cX7_fail 4 = .ok (.iconst (-1), 1) := by decide +kernel
theorem dX7_fail_5 : decode cX7_fail 5 = .ok (.if_icmp .ne 11, 3) := by decide +kernel
theorem dX7_fail_8 : decode cX7_fail 8 = .ok (.aload_n 0, 1) := by decide +kernel
theorem dX7_fail_9 : decode cX7_fail 9 = .ok (.aload_n 0, 1) := by decide +kernel
theorem dX7_fail_10 : decode cX7_fail 10 = .ok (.getfield 95, 3) := by decide +kernel
theorem dX7_fail_13 : decode cX7_fail 13 = .ok (.putfield 23, 3) := by decide +kernel
theorem dX7_fail_16 : decode cX7_fail 16 = .ok (.aload_n 0, 1) := by decide +kernel
theorem dX7_fail_17 : decode cX7_fail 17 = .ok (.iconst 1, 1) := by decide +kernel
theorem dX7_fail_18 : decode cX7_fail 18 = .ok (.putfield 45, 3) := by decide +kernel
theorem dX7_fail_21 : decode cX7_fail 21 = .ok (.return_, 1) := by decide +kernel
theorem dX7_emit_0 : decode cX7_emit 0 = .ok (.aload_n 0, 1) := by decide +kernel
theorem dX7_emit_1 : decode cX7_emit 1 = .ok (.getfield 32, 3) := by decide +kernel
theorem dX7_emit_4 : decode cX7_emit 4 = .ok (.aload_n 0, 1) := by decide +kernel
theorem dX7_emit_5 : decode cX7_emit 5 = .ok (.getfield 15, 3) := by decide +kernel
theorem dX7_emit_8 : decode cX7_emit 8 = .ok (.arraylength, 1) := by decide +kernel
theorem dX7_emit_9 : decode cX7_emit 9 = .ok (.if_icmp .ge 23, 3) := by decide +kernel
theorem dX7_emit_12 : decode cX7_emit 12 = .ok (.aload_n 0, 1) := by decide +kernel
theorem dX7_emit_13 : decode cX7_emit 13 = .ok (.getfield 15, 3) := by decide +kernel
theorem dX7_emit_16 : decode cX7_emit 16 = .ok (.aload_n 0, 1) := by decide +kernel
theorem dX7_emit_17 : decode cX7_emit 17 = .ok (.getfield 32, 3) := by decide +kernel
theorem dX7_emit_20 : decode cX7_emit 20 = .ok (.iload_n 1, 1) := by decide +kernel
theorem dX7_emit_21 : decode cX7_emit 21 = .ok (.iastore, 1) := by decide +kernel
theorem dX7_emit_22 : decode cX7_emit 22 = .ok (.aload_n 0, 1) := by decide +kernel
theorem dX7_emit_23 : decode cX7_emit 23 = .ok (.dup, 1) := by decide +kernel
theorem dX7_emit_24 : decode cX7_emit 24 = .ok (.getfield 32, 3) := by decide +kernel
theorem dX7_emit_27 : decode cX7_emit 27 = .ok (.iconst 1, 1) := by decide +kernel
theorem dX7_emit_28 : decode cX7_emit 28 = .ok (.iadd, 1) := by decide +kernel
theorem dX7_emit_29 : decode cX7_emit 29 = .ok (.putfield 32, 3) := by decide +kernel
theorem dX7_emit_32 : decode cX7_emit 32 = .ok (.return_, 1) := by decide +kernel
theorem dX7_step_0 : decode cX7_step 0 = .ok (.aload_n 0, 1) := by decide +kernel
theorem dX7_step_1 : decode cX7_step 1 = .ok (.aload_n 0, 1) := by decide +kernel
theorem dX7_step_2 : decode cX7_step 2 = .ok (.getfield 26, 3) := by decide +kernel
theorem dX7_step_5 : decode cX7_step 5 = .ok (.putfield 95, 3) := by decide +kernel
theorem dX7_step_8 : decode cX7_step 8 = .ok (.aload_n 0, 1) := by decide +kernel
theorem dX7_step_9 : decode cX7_step 9 = .ok (.getfield 95, 3) := by decide +kernel
theorem dX7_step_12 : decode cX7_step 12 = .ok (.aload_n 0, 1) := by decide +kernel
theorem dX7_step_13 : decode cX7_step 13 = .ok (.getfield 19, 3) := by decide +kernel
theorem dX7_step_16 : decode cX7_step 16 = .ok (.if_icmp .ge 31, 3) := by decide +kernel
theorem dX7_step_19 : decode cX7_step 19 = .ok (.aload_n 0, 1) := by decide +kernel
theorem dX7_step_20 : decode cX7_step 20 = .ok (.getfield 11, 3) := by decide +kernel
theorem dX7_step_23 : decode cX7_step 23 = .ok (.aload_n 0, 1) := by decide +kernel
theorem dX7_step_24 : decode cX7_step 24 = .ok (.getfield 95, 3) := by decide +kernel
theorem dX7_step_27 : decode cX7_step 27 = .ok (.baload, 1) := by decide +kernel
theorem dX7_step_28 : decode cX7_step 28 = .ok (.invokestatic 98, 3) := by decide +kernel
theorem dX7_step_31 : decode cX7_step 31 = .ok (.ifCond .eq 16, 3) := by decide +kernel
theorem dX7_step_34 : decode cX7_step 34 = .ok (.aload_n 0, 1) := by decide +kernel
theorem dX7_step_35 : decode cX7_step 35 = .ok (.dup, 1) := by decide +kernel
theorem dX7_step_36 : decode cX7_step 36 = .ok (.getfield 95, 3) := by decide +kernel
theorem dX7_step_39 : decode cX7_step 39 = .ok (.iconst 1, 1) := by decide +kernel
theorem dX7_step_40 : decode cX7_step 40 = .ok (.iadd, 1) := by decide +kernel
theorem dX7_step_41 : decode cX7_step 41 = .ok (.putfield 95, 3) := by decide +kernel
theorem dX7_step_44 : decode cX7_step 44 = .ok (.goto (-36), 3) := by decide +kernel
theorem dX7_step_47 : decode cX7_step 47 = .ok (.aload_n 0, 1) := by decide +kernel
theorem dX7_step_48 : decode cX7_step 48 = .ok (.aload_n 0, 1) := by decide +kernel
theorem dX7_step_49 : decode cX7_step 49 = .ok (.getfield 95, 3) := by decide +kernel
theorem dX7_step_52 : decode cX7_step 52 = .ok (.iconst 1, 1) := by decide +kernel
theorem dX7_step_53 : decode cX7_step 53 = .ok (.iadd, 1) := by decide +kernel
theorem dX7_step_54 : decode cX7_step 54 = .ok (.putfield 26, 3) := by decide +kernel
theorem dX7_step_57 : decode cX7_step 57 = .ok (.aload_n 0, 1) := by decide +kernel
theorem dX7_step_58 : decode cX7_step 58 = .ok (.getfield 95, 3) := by decide +kernel
theorem dX7_step_61 : decode cX7_step 61 = .ok (.aload_n 0, 1) := by decide +kernel
theorem dX7_step_62 : decode cX7_step 62 = .ok (.getfield 19, 3) := by decide +kernel
theorem dX7_step_65 : decode cX7_step 65 = .ok (.if_icmp .lt 19, 3) := by decide +kernel
theorem dX7_step_68 : decode cX7_step 68 = .ok (.aload_n 0, 1) := by decide +kernel
theorem dX7_step_69 : decode cX7_step 69 = .ok (.iconst 0, 1) := by decide +kernel
theorem dX7_step_70 : decode cX7_step 70 = .ok (.putfield 45, 3) := by decide +kernel
theorem dX7_step_73 : decode cX7_step 73 = .ok (.aload_n 0, 1) := by decide +kernel
theorem dX7_step_74 : decode cX7_step 74 = .ok (.aload_n 0, 1) := by decide +kernel
theorem dX7_step_75 : decode cX7_step 75 = .ok (.getfield 19, 3) := by decide +kernel
theorem dX7_step_78 : decode cX7_step 78 = .ok (.putfield 26, 3) := by decide +kernel
theorem dX7_step_81 : decode cX7_step 81 = .ok (.goto 80, 3) := by decide +kernel
theorem dX7_step_84 : decode cX7_step 84 = .ok (.aload_n 0, 1) := by decide +kernel
theorem dX7_step_85 : decode cX7_step 85 = .ok (.getfield 11, 3) := by decide +kernel
theorem dX7_step_88 : decode cX7_step 88 = .ok (.aload_n 0, 1) := by decide +kernel
theorem dX7_step_89 : decode cX7_step 89 = .ok (.getfield 95, 3) := by decide +kernel
theorem dX7_step_92 : decode cX7_step 92 = .ok (.baload, 1) := by decide +kernel
theorem dX7_step_93 : decode cX7_step 93 = .ok (.invokestatic 101, 3) := by decide +kernel
theorem dX7_step_96 : decode cX7_step 96 = .ok (.ifCond .eq 10, 3) := by decide +kernel
theorem dX7_step_99 : decode cX7_step 99 = .ok (.aload_n 0, 1) := by decide +kernel
theorem dX7_step_100 : decode cX7_step 100 = .ok (.invokevirtual 104, 3) := by decide +kernel
theorem dX7_step_103 : decode cX7_step 103 = .ok (.goto 58, 3) := by decide +kernel
theorem dX7_step_106 : decode cX7_step 106 = .ok (.aload_n 0, 1) := by decide +kernel
theorem dX7_step_107 : decode cX7_step 107 = .ok (.getfield 11, 3) := by decide +kernel
theorem dX7_step_110 : decode cX7_step 110 = .ok (.aload_n 0, 1) := by decide +kernel
theorem dX7_step_111 : decode cX7_step 111 = .ok (.getfield 95, 3) := by decide +kernel
theorem dX7_step_114 : decode cX7_step 114 = .ok (.baload, 1) := by decide +kernel
theorem dX7_step_115 : decode cX7_step 115 = .ok (.invokestatic 107, 3) := by decide +kernel
theorem dX7_step_118 : decode cX7_step 118 = .ok (.ifCond .eq 10, 3) := by decide +kernel
theorem dX7_step_121 : decode cX7_step 121 = .ok (.aload_n 0, 1) := by decide +kernel
theorem dX7_step_122 : decode cX7_step 122 = .ok (.invokevirtual 110, 3) := by decide +kernel
theorem dX7_step_125 : decode cX7_step 125 = .ok (.goto 36, 3) := by decide +kernel
theorem dX7_step_128 : decode cX7_step 128 = .ok (.aload_n 0, 1) := by decide +kernel
theorem dX7_step_129 : decode cX7_step 129 = .ok (.getfield 11, 3) := by decide +kernel
theorem dX7_step_132 : decode cX7_step 132 = .ok (.aload_n 0, 1) := by decide +kernel
theorem dX7_step_133 : decode cX7_step 133 = .ok (.getfield 95, 3) := by decide +kernel
theorem dX7_step_136 : decode cX7_step 136 = .ok (.baload, 1) := by decide +kernel
theorem dX7_step_137 : decode cX7_step 137 = .ok (.sipush 255, 3) := by decide +kernel
theorem dX7_step_140 : decode cX7_step 140 = .ok (.iand, 1) := by decide +kernel
theorem dX7_step_141 : decode cX7_step 141 = .ok (.istore_n 1, 1) := by decide +kernel
theorem dX7_step_142 : decode cX7_step 142 = .ok (.aload_n 0, 1) := by decide +kernel
theorem dX7_step_143 : decode cX7_step 143 = .ok (.ldc 113, 2) := by decide +kernel
theorem dX7_step_145 : decode cX7_step 145 = .ok (.iload_n 1, 1) := by decide +kernel
theorem dX7_step_146 : decode cX7_step 146 = .ok (.i2c, 1) := by decide +kernel
theorem dX7_step_147 : decode cX7_step 147 = .ok (.invokevirtual 115, 3) := by decide +kernel
theorem dX7_step_150 : decode cX7_step 150 = .ok (.ifCond .lt 7, 3) := by decide +kernel
theorem dX7_step_153 : decode cX7_step 153 = .ok (.iload_n 1, 1) := by decide +kernel
theorem dX7_step_154 : decode cX7_step 154 = .ok (.goto 4, 3) := by decide +kernel
theorem dX7_step_157 : decode cX7_step 157 = .ok (.iconst 1, 1) := by decide +kernel
theorem dX7_step_158 : decode cX7_step 158 = .ok (.putfield 45, 3) := by decide +kernel
theorem dX7_step_161 : decode cX7_step 161 = .ok (.return_, 1) := by decide +kernel
theorem dX7_takeNumber_0 : decode cX7_takeNumber 0 = .ok (.aload_n 0, 1) := by decide +kernel
theorem dX7_takeNumber_1 : decode cX7_takeNumber 1 = .ok (.getfield 26, 3) := by decide +kernel
theorem dX7_takeNumber_4 : decode cX7_takeNumber 4 = .ok (.aload_n 0, 1) := by decide +kernel
theorem dX7_takeNumber_5 : decode cX7_takeNumber 5 = .ok (.getfield 19, 3) := by decide +kernel
theorem dX7_takeNumber_8 : decode cX7_takeNumber 8 = .ok (.if_icmp .ge 31, 3) := by decide +kernel
theorem dX7_takeNumber_11 : decode cX7_takeNumber 11 = .ok (.aload_n 0, 1) := by decide +kernel
theorem dX7_takeNumber_12 : decode cX7_takeNumber 12 = .ok (.getfield 11, 3) := by decide +kernel
theorem dX7_takeNumber_15 : decode cX7_takeNumber 15 = .ok (.aload_n 0, 1) := by decide +kernel
theorem dX7_takeNumber_16 : decode cX7_takeNumber 16 = .ok (.getfield 26, 3) := by decide +kernel
theorem dX7_takeNumber_19 : decode cX7_takeNumber 19 = .ok (.baload, 1) := by decide +kernel
theorem dX7_takeNumber_20 : decode cX7_takeNumber 20 = .ok (.invokestatic 101, 3) := by decide +kernel
theorem dX7_takeNumber_23 : decode cX7_takeNumber 23 = .ok (.ifCond .eq 16, 3) := by decide +kernel
theorem dX7_takeNumber_26 : decode cX7_takeNumber 26 = .ok (.aload_n 0, 1) := by decide +kernel
theorem dX7_takeNumber_27 : decode cX7_takeNumber 27 = .ok (.dup, 1) := by decide +kernel
theorem dX7_takeNumber_28 : decode cX7_takeNumber 28 = .ok (.getfield 26, 3) := by decide +kernel
theorem dX7_takeNumber_31 : decode cX7_takeNumber 31 = .ok (.iconst 1, 1) := by decide +kernel
theorem dX7_takeNumber_32 : decode cX7_takeNumber 32 = .ok (.iadd, 1) := by decide +kernel
theorem dX7_takeNumber_33 : decode cX7_takeNumber 33 = .ok (.putfield 26, 3) := by decide +kernel
theorem dX7_takeNumber_36 : decode cX7_takeNumber 36 = .ok (.goto (-36), 3) := by decide +kernel
theorem dX7_takeNumber_39 : decode cX7_takeNumber 39 = .ok (.aload_n 0, 1) := by decide +kernel
theorem dX7_takeNumber_40 : decode cX7_takeNumber 40 = .ok (.iconst 0, 1) := by decide +kernel
theorem dX7_takeNumber_41 : decode cX7_takeNumber 41 = .ok (.putfield 88, 3) := by decide +kernel
theorem dX7_takeNumber_44 : decode cX7_takeNumber 44 = .ok (.aload_n 0, 1) := by decide +kernel
theorem dX7_takeNumber_45 : decode cX7_takeNumber 45 = .ok (.getfield 95, 3) := by decide +kernel
theorem dX7_takeNumber_48 : decode cX7_takeNumber 48 = .ok (.istore_n 1, 1) := by decide +kernel
theorem dX7_takeNumber_49 : decode cX7_takeNumber 49 = .ok (.iload_n 1, 1) := by decide +kernel
theorem dX7_takeNumber_50 : decode cX7_takeNumber 50 = .ok (.aload_n 0, 1) := by decide +kernel
theorem dX7_takeNumber_51 : decode cX7_takeNumber 51 = .ok (.getfield 26, 3) := by decide +kernel
theorem dX7_takeNumber_54 : decode cX7_takeNumber 54 = .ok (.if_icmp .ge 30, 3) := by decide +kernel
theorem dX7_takeNumber_57 : decode cX7_takeNumber 57 = .ok (.aload_n 0, 1) := by decide +kernel
theorem dX7_takeNumber_58 : decode cX7_takeNumber 58 = .ok (.aload_n 0, 1) := by decide +kernel
theorem dX7_takeNumber_59 : decode cX7_takeNumber 59 = .ok (.getfield 88, 3) := by decide +kernel
theorem dX7_takeNumber_62 : decode cX7_takeNumber 62 = .ok (.bipush 10, 2) := by decide +kernel
theorem dX7_takeNumber_64 : decode cX7_takeNumber 64 = .ok (.imul, 1) := by decide +kernel
theorem dX7_takeNumber_65 : decode cX7_takeNumber 65 = .ok (.aload_n 0, 1) := by decide +kernel
theorem dX7_takeNumber_66 : decode cX7_takeNumber 66 = .ok (.getfield 11, 3) := by decide +kernel
theorem dX7_takeNumber_69 : decode cX7_takeNumber 69 = .ok (.iload_n 1, 1) := by decide +kernel
theorem dX7_takeNumber_70 : decode cX7_takeNumber 70 = .ok (.baload, 1) := by decide +kernel
theorem dX7_takeNumber_71 : decode cX7_takeNumber 71 = .ok (.iadd, 1) := by decide +kernel
theorem dX7_takeNumber_72 : decode cX7_takeNumber 72 = .ok (.bipush 48, 2) := by decide +kernel
theorem dX7_takeNumber_74 : decode cX7_takeNumber 74 = .ok (.isub, 1) := by decide +kernel
theorem dX7_takeNumber_75 : decode cX7_takeNumber 75 = .ok (.putfield 88, 3) := by decide +kernel
theorem dX7_takeNumber_78 : decode cX7_takeNumber 78 = .ok (.iinc 1 1, 3) := by decide +kernel
theorem dX7_takeNumber_81 : decode cX7_takeNumber 81 = .ok (.goto (-32), 3) := by decide +kernel
theorem dX7_takeNumber_84 : decode cX7_takeNumber 84 = .ok (.aload_n 0, 1) := by decide +kernel
theorem dX7_takeNumber_85 : decode cX7_takeNumber 85 = .ok (.aload_n 0, 1) := by decide +kernel
theorem dX7_takeNumber_86 : decode cX7_takeNumber 86 = .ok (.getfield 26, 3) := by decide +kernel
theorem dX7_takeNumber_89 : decode cX7_takeNumber 89 = .ok (.aload_n 0, 1) := by decide +kernel
theorem dX7_takeNumber_90 : decode cX7_takeNumber 90 = .ok (.getfield 95, 3) := by decide +kernel
theorem dX7_takeNumber_93 : decode cX7_takeNumber 93 = .ok (.isub, 1) := by decide +kernel
theorem dX7_takeNumber_94 : decode cX7_takeNumber 94 = .ok (.iconst 4, 1) := by decide +kernel
theorem dX7_takeNumber_95 : decode cX7_takeNumber 95 = .ok (.if_icmp .gt 7, 3) := by decide +kernel
theorem dX7_takeNumber_98 : decode cX7_takeNumber 98 = .ok (.iconst 2, 1) := by decide +kernel
theorem dX7_takeNumber_99 : decode cX7_takeNumber 99 = .ok (.goto 4, 3) := by decide +kernel
theorem dX7_takeNumber_102 : decode cX7_takeNumber 102 = .ok (.iconst 1, 1) := by decide +kernel
theorem dX7_takeNumber_103 : decode cX7_takeNumber 103 = .ok (.putfield 45, 3) := by decide +kernel
theorem dX7_takeNumber_106 : decode cX7_takeNumber 106 = .ok (.return_, 1) := by decide +kernel
theorem dX7_takeWord_0 : decode cX7_takeWord 0 = .ok (.aload_n 0, 1) := by decide +kernel
theorem dX7_takeWord_1 : decode cX7_takeWord 1 = .ok (.getfield 26, 3) := by decide +kernel
theorem dX7_takeWord_4 : decode cX7_takeWord 4 = .ok (.aload_n 0, 1) := by decide +kernel
theorem dX7_takeWord_5 : decode cX7_takeWord 5 = .ok (.getfield 19, 3) := by decide +kernel
theorem dX7_takeWord_8 : decode cX7_takeWord 8 = .ok (.if_icmp .ge 31, 3) := by decide +kernel
theorem dX7_takeWord_11 : decode cX7_takeWord 11 = .ok (.aload_n 0, 1) := by decide +kernel
theorem dX7_takeWord_12 : decode cX7_takeWord 12 = .ok (.getfield 11, 3) := by decide +kernel
theorem dX7_takeWord_15 : decode cX7_takeWord 15 = .ok (.aload_n 0, 1) := by decide +kernel
theorem dX7_takeWord_16 : decode cX7_takeWord 16 = .ok (.getfield 26, 3) := by decide +kernel
theorem dX7_takeWord_19 : decode cX7_takeWord 19 = .ok (.baload, 1) := by decide +kernel
theorem dX7_takeWord_20 : decode cX7_takeWord 20 = .ok (.invokestatic 107, 3) := by decide +kernel
theorem dX7_takeWord_23 : decode cX7_takeWord 23 = .ok (.ifCond .eq 16, 3) := by decide +kernel
theorem dX7_takeWord_26 : decode cX7_takeWord 26 = .ok (.aload_n 0, 1) := by decide +kernel
theorem dX7_takeWord_27 : decode cX7_takeWord 27 = .ok (.dup, 1) := by decide +kernel
theorem dX7_takeWord_28 : decode cX7_takeWord 28 = .ok (.getfield 26, 3) := by decide +kernel
theorem dX7_takeWord_31 : decode cX7_takeWord 31 = .ok (.iconst 1, 1) := by decide +kernel
theorem dX7_takeWord_32 : decode cX7_takeWord 32 = .ok (.iadd, 1) := by decide +kernel
theorem dX7_takeWord_33 : decode cX7_takeWord 33 = .ok (.putfield 26, 3) := by decide +kernel
theorem dX7_takeWord_36 : decode cX7_takeWord 36 = .ok (.goto (-36), 3) := by decide +kernel
theorem dX7_takeWord_39 : decode cX7_takeWord 39 = .ok (.aload_n 0, 1) := by decide +kernel
theorem dX7_takeWord_40 : decode cX7_takeWord 40 = .ok (.iconst 1, 1) := by decide +kernel
theorem dX7_takeWord_41 : decode cX7_takeWord 41 = .ok (.putfield 45, 3) := by decide +kernel
theorem dX7_takeWord_44 : decode cX7_takeWord 44 = .ok (.sipush 256, 3) := by decide +kernel
theorem dX7_takeWord_47 : decode cX7_takeWord 47 = .ok (.istore_n 1, 1) := by decide +kernel
theorem dX7_takeWord_48 : decode cX7_takeWord 48 = .ok (.iconst 0, 1) := by decide +kernel
theorem dX7_takeWord_49 : decode cX7_takeWord 49 = .ok (.istore_n 2, 1) := by decide +kernel
theorem dX7_takeWord_50 : decode cX7_takeWord 50 = .ok (.iconst 0, 1) := by decide +kernel
theorem dX7_takeWord_51 : decode cX7_takeWord 51 = .ok (.istore_n 3, 1) := by decide +kernel
theorem dX7_takeWord_52 : decode cX7_takeWord 52 = .ok (.iload_n 3, 1) := by decide +kernel
theorem dX7_takeWord_53 : decode cX7_takeWord 53 = .ok (.ldc 121, 2) := by decide +kernel
theorem dX7_takeWord_55 : decode cX7_takeWord 55 = .ok (.invokevirtual 123, 3) := by decide +kernel
theorem dX7_takeWord_58 : decode cX7_takeWord 58 = .ok (.if_icmp .ge 41, 3) := by decide +kernel
theorem dX7_takeWord_61 : decode cX7_takeWord 61 = .ok (.ldc 121, 2) := by decide +kernel
theorem dX7_takeWord_63 : decode cX7_takeWord 63 = .ok (.iload_n 3, 1) := by decide +kernel
theorem dX7_takeWord_64 : decode cX7_takeWord 64 = .ok (.invokevirtual 127, 3) := by decide +kernel
theorem dX7_takeWord_67 : decode cX7_takeWord 67 = .ok (.bipush 32, 2) := by decide +kernel
theorem dX7_takeWord_69 : decode cX7_takeWord 69 = .ok (.if_icmp .ne 24, 3) := by decide +kernel
theorem dX7_takeWord_72 : decode cX7_takeWord 72 = .ok (.aload_n 0, 1) := by decide +kernel
theorem dX7_takeWord_73 : decode cX7_takeWord 73 = .ok (.iload_n 2, 1) := by decide +kernel
theorem dX7_takeWord_74 : decode cX7_takeWord 74 = .ok (.iload_n 3, 1) := by decide +kernel
theorem dX7_takeWord_75 : decode cX7_takeWord 75 = .ok (.invokevirtual 131, 3) := by decide +kernel
theorem dX7_takeWord_78 : decode cX7_takeWord 78 = .ok (.ifCond .eq 8, 3) := by decide +kernel
theorem dX7_takeWord_81 : decode cX7_takeWord 81 = .ok (.aload_n 0, 1) := by decide +kernel
theorem dX7_takeWord_82 : decode cX7_takeWord 82 = .ok (.iload_n 1, 1) := by decide +kernel
theorem dX7_takeWord_83 : decode cX7_takeWord 83 = .ok (.putfield 45, 3) := by decide +kernel
theorem dX7_takeWord_86 : decode cX7_takeWord 86 = .ok (.iinc 1 1, 3) := by decide +kernel
theorem dX7_takeWord_89 : decode cX7_takeWord 89 = .ok (.iload_n 3, 1) := by decide +kernel
theorem dX7_takeWord_90 : decode cX7_takeWord 90 = .ok (.iconst 1, 1) := by decide +kernel
theorem dX7_takeWord_91 : decode cX7_takeWord 91 = .ok (.iadd, 1) := by decide +kernel
theorem dX7_takeWord_92 : decode cX7_takeWord 92 = .ok (.istore_n 2, 1) := by decide +kernel
theorem dX7_takeWord_93 : decode cX7_takeWord 93 = .ok (.iinc 3 1, 3) := by decide +kernel
theorem dX7_takeWord_96 : decode cX7_takeWord 96 = .ok (.goto (-44), 3) := by decide +kernel
theorem dX7_takeWord_99 : decode cX7_takeWord 99 = .ok (.return_, 1) := by decide +kernel
theorem dX7_isSpelled_0 : decode cX7_isSpelled 0 = .ok (.aload_n 0, 1) := by decide +kernel
theorem dX7_isSpelled_1 : decode cX7_isSpelled 1 = .ok (.getfield 26, 3) := by decide +kernel
theorem dX7_isSpelled_4 : decode cX7_isSpelled 4 = .ok (.aload_n 0, 1) := by decide +kernel
theorem dX7_isSpelled_5 : decode cX7_isSpelled 5 = .ok (.getfield 95, 3) := by decide +kernel
theorem dX7_isSpelled_8 : decode cX7_isSpelled 8 = .ok (.isub, 1) := by decide +kernel
theorem dX7_isSpelled_9 : decode cX7_isSpelled 9 = .ok (.iload_n 2, 1) := by decide +kernel
theorem dX7_isSpelled_10 : decode cX7_isSpelled 10 = .ok (.iload_n 1, 1) := by decide +kernel
theorem dX7_isSpelled_11 : decode cX7_isSpelled 11 = .ok (.isub, 1) := by decide +kernel
theorem dX7_isSpelled_12 : decode cX7_isSpelled 12 = .ok (.if_icmp .eq 5, 3) := by decide +kernel
theorem dX7_isSpelled_15 : decode cX7_isSpelled 15 = .ok (.iconst 0, 1) := by decide +kernel
theorem dX7_isSpelled_16 : decode cX7_isSpelled 16 = .ok (.ireturn, 1) := by decide +kernel
theorem dX7_isSpelled_17 : decode cX7_isSpelled 17 = .ok (.iload_n 1, 1) := by decide +kernel
theorem dX7_isSpelled_18 : decode cX7_isSpelled 18 = .ok (.istore_n 3, 1) := by decide +kernel
theorem dX7_isSpelled_19 : decode cX7_isSpelled 19 = .ok (.iload_n 3, 1) := by decide +kernel
theorem dX7_isSpelled_20 : decode cX7_isSpelled 20 = .ok (.iload_n 2, 1) := by decide +kernel
theorem dX7_isSpelled_21 : decode cX7_isSpelled 21 = .ok (.if_icmp .ge 33, 3) := by decide +kernel
theorem dX7_isSpelled_24 : decode cX7_isSpelled 24 = .ok (.ldc 121, 2) := by decide +kernel
theorem dX7_isSpelled_26 : decode cX7_isSpelled 26 = .ok (.iload_n 3, 1) := by decide +kernel
theorem dX7_isSpelled_27 : decode cX7_isSpelled 27 = .ok (.invokevirtual 127, 3) := by decide +kernel
theorem dX7_isSpelled_30 : decode cX7_isSpelled 30 = .ok (.aload_n 0, 1) := by decide +kernel
theorem dX7_isSpelled_31 : decode cX7_isSpelled 31 = .ok (.getfield 11, 3) := by decide +kernel
theorem dX7_isSpelled_34 : decode cX7_isSpelled 34 = .ok (.aload_n 0, 1) := by decide +kernel
theorem dX7_isSpelled_35 : decode cX7_isSpelled 35 = .ok (.getfield 95, 3) := by decide +kernel
theorem dX7_isSpelled_38 : decode cX7_isSpelled 38 = .ok (.iload_n 3, 1) := by decide +kernel
theorem dX7_isSpelled_39 : decode cX7_isSpelled 39 = .ok (.iadd, 1) := by decide +kernel
theorem dX7_isSpelled_40 : decode cX7_isSpelled 40 = .ok (.iload_n 1, 1) := by decide +kernel
theorem dX7_isSpelled_41 : decode cX7_isSpelled 41 = .ok (.isub, 1) := by decide +kernel
theorem dX7_isSpelled_42 : decode cX7_isSpelled 42 = .ok (.baload, 1) := by decide +kernel
theorem dX7_isSpelled_43 : decode cX7_isSpelled 43 = .ok (.if_icmp .eq 5, 3) := by decide +kernel
theorem dX7_isSpelled_46 : decode cX7_isSpelled 46 = .ok (.iconst 0, 1) := by decide +kernel
theorem dX7_isSpelled_47 : decode cX7_isSpelled 47 = .ok (.ireturn, 1) := by decide +kernel
theorem dX7_isSpelled_48 : decode cX7_isSpelled 48 = .ok (.iinc 3 1, 3) := by decide +kernel
theorem dX7_isSpelled_51 : decode cX7_isSpelled 51 = .ok (.goto (-32), 3) := by decide +kernel
theorem dX7_isSpelled_54 : decode cX7_isSpelled 54 = .ok (.iconst 1, 1) := by decide +kernel
theorem dX7_isSpelled_55 : decode cX7_isSpelled 55 = .ok (.ireturn, 1) := by decide +kernel
theorem dX7_isBlank_0 : decode cX7_isBlank 0 = .ok (.iload_n 0, 1) := by decide +kernel
theorem dX7_isBlank_1 : decode cX7_isBlank 1 = .ok (.bipush 32, 2) := by decide +kernel
theorem dX7_isBlank_3 : decode cX7_isBlank 3 = .ok (.if_icmp .eq 9, 3) := by decide +kernel
theorem dX7_isBlank_6 : decode cX7_isBlank 6 = .ok (.iload_n 0, 1) := by decide +kernel
theorem dX7_isBlank_7 : decode cX7_isBlank 7 = .ok (.bipush 10, 2) := by decide +kernel
theorem dX7_isBlank_9 : decode cX7_isBlank 9 = .ok (.if_icmp .ne 7, 3) := by decide +kernel
theorem dX7_isBlank_12 : decode cX7_isBlank 12 = .ok (.iconst 1, 1) := by decide +kernel
theorem dX7_isBlank_13 : decode cX7_isBlank 13 = .ok (.goto 4, 3) := by decide +kernel
theorem dX7_isBlank_16 : decode cX7_isBlank 16 = .ok (.iconst 0, 1) := by decide +kernel
theorem dX7_isBlank_17 : decode cX7_isBlank 17 = .ok (.ireturn, 1) := by decide +kernel
theorem dX7_isDigit_0 : decode cX7_isDigit 0 = .ok (.iload_n 0, 1) := by decide +kernel
theorem dX7_isDigit_1 : decode cX7_isDigit 1 = .ok (.bipush 48, 2) := by decide +kernel
theorem dX7_isDigit_3 : decode cX7_isDigit 3 = .ok (.if_icmp .lt 13, 3) := by decide +kernel
theorem dX7_isDigit_6 : decode cX7_isDigit 6 = .ok (.iload_n 0, 1) := by decide +kernel
theorem dX7_isDigit_7 : decode cX7_isDigit 7 = .ok (.bipush 57, 2) := by decide +kernel
theorem dX7_isDigit_9 : decode cX7_isDigit 9 = .ok (.if_icmp .gt 7, 3) := by decide +kernel
theorem dX7_isDigit_12 : decode cX7_isDigit 12 = .ok (.iconst 1, 1) := by decide +kernel
theorem dX7_isDigit_13 : decode cX7_isDigit 13 = .ok (.goto 4, 3) := by decide +kernel
theorem dX7_isDigit_16 : decode cX7_isDigit 16 = .ok (.iconst 0, 1) := by decide +kernel
theorem dX7_isDigit_17 : decode cX7_isDigit 17 = .ok (.ireturn, 1) := by decide +kernel
theorem dX7_isLetter_0 : decode cX7_isLetter 0 = .ok (.iload_n 0, 1) := by decide +kernel
theorem dX7_isLetter_1 : decode cX7_isLetter 1 = .ok (.bipush 97, 2) := by decide +kernel
theorem dX7_isLetter_3 : decode cX7_isLetter 3 = .ok (.if_icmp .lt 13, 3) := by decide +kernel
theorem dX7_isLetter_6 : decode cX7_isLetter 6 = .ok (.iload_n 0, 1) := by decide +kernel
theorem dX7_isLetter_7 : decode cX7_isLetter 7 = .ok (.bipush 122, 2) := by decide +kernel
theorem dX7_isLetter_9 : decode cX7_isLetter 9 = .ok (.if_icmp .gt 7, 3) := by decide +kernel
theorem dX7_isLetter_12 : decode cX7_isLetter 12 = .ok (.iconst 1, 1) := by decide +kernel
theorem dX7_isLetter_13 : decode cX7_isLetter 13 = .ok (.goto 4, 3) := by decide +kernel
theorem dX7_isLetter_16 : decode cX7_isLetter 16 = .ok (.iconst 0, 1) := by decide +kernel
theorem dX7_isLetter_17 : decode cX7_isLetter 17 = .ok (.ireturn, 1) := by decide +kernel
theorem dX8_init_0 : decode cX8_init 0 = .ok (.aload_n 0, 1) := by decide +kernel
theorem dX8_init_1 : decode cX8_init 1 = .ok (.iload_n 1, 1) := by decide +kernel
theorem dX8_init_2 : decode cX8_init 2 = .ok (.iload_n 2, 1) := by decide +kernel
theorem dX8_init_3 : decode cX8_init 3 = .ok (.iload_n 3, 1) := by decide +kernel
theorem dX8_init_4 : decode cX8_init 4 = .ok (.iload 4, 2) := by decide +kernel
theorem dX8_init_6 : decode cX8_init 6 = .ok (.invokespecial 1, 3) := by decide +kernel
theorem dX8_init_9 : decode cX8_init 9 = .ok (.return_, 1) := by decide +kernel
theorem dX8_bears_0 : decode cX8_bears 0 = .ok (.aload_n 0, 1) := by decide +kernel
theorem dX8_bears_1 : decode cX8_bears 1 = .ok (.iload_n 1, 1) := by decide +kernel
theorem dX8_bears_2 : decode cX8_bears 2 = .ok (.invokespecial 7, 3) := by decide +kernel
theorem dX8_bears_5 : decode cX8_bears 5 = .ok (.aload_n 0, 1) := by decide +kernel
theorem dX8_bears_6 : decode cX8_bears 6 = .ok (.getfield 11, 3) := by decide +kernel
theorem dX8_bears_9 : decode cX8_bears 9 = .ok (.iadd, 1) := by decide +kernel
theorem dX8_bears_10 : decode cX8_bears 10 = .ok (.ireturn, 1) := by decide +kernel
theorem dX8_brings_0 : decode cX8_brings 0 = .ok (.aload_n 0, 1) := by decide +kernel
theorem dX8_brings_1 : decode cX8_brings 1 = .ok (.invokespecial 17, 3) := by decide +kernel
theorem dX8_brings_4 : decode cX8_brings 4 = .ok (.aload_n 0, 1) := by decide +kernel
theorem dX8_brings_5 : decode cX8_brings 5 = .ok (.getfield 11, 3) := by decide +kernel
theorem dX8_brings_8 : decode cX8_brings 8 = .ok (.isub, 1) := by decide +kernel
theorem dX8_brings_9 : decode cX8_brings 9 = .ok (.ireturn, 1) := by decide +kernel
theorem dX9_init_0 : decode cX9_init 0 = .ok (.aload_n 0, 1) := by decide +kernel
theorem dX9_init_1 : decode cX9_init 1 = .ok (.invokespecial 3, 3) := by decide +kernel
theorem dX9_init_4 : decode cX9_init 4 = .ok (.aload_n 0, 1) := by decide +kernel
theorem dX9_init_5 : decode cX9_init 5 = .ok (.bipush 6, 2) := by decide +kernel
theorem dX9_init_7 : decode cX9_init 7 = .ok (.newarray .int, 2) := by decide +kernel
theorem dX9_init_9 : decode cX9_init 9 = .ok (.putfield 11, 3) := by decide +kernel
theorem dX9_init_12 : decode cX9_init 12 = .ok (.aload_n 0, 1) := by decide +kernel
theorem dX9_init_13 : decode cX9_init 13 = .ok (.aload_n 1, 1) := by decide +kernel
theorem dX9_init_14 : decode cX9_init 14 = .ok (.putfield 17, 3) := by decide +kernel
theorem dX9_init_17 : decode cX9_init 17 = .ok (.aload_n 0, 1) := by decide +kernel
theorem dX9_init_18 : decode cX9_init 18 = .ok (.aload_n 2, 1) := by decide +kernel
theorem dX9_init_19 : decode cX9_init 19 = .ok (.putfield 20, 3) := by decide +kernel
theorem dX9_init_22 : decode cX9_init 22 = .ok (.aload_n 0, 1) := by decide +kernel
theorem dX9_init_23 : decode cX9_init 23 = .ok (.aload_n 1, 1) := by decide +kernel
theorem dX9_init_24 : decode cX9_init 24 = .ok (.arraylength, 1) := by decide +kernel
theorem dX9_init_25 : decode cX9_init 25 = .ok (.newarray .int, 2) := by decide +kernel
theorem dX9_init_27 : decode cX9_init 27 = .ok (.putfield 23, 3) := by decide +kernel
theorem dX9_init_30 : decode cX9_init 30 = .ok (.return_, 1) := by decide +kernel
theorem dX9_firstRule_0 : decode cX9_firstRule 0 = .ok (.new 12, 3) := by decide +kernel
theorem dX9_firstRule_3 : decode cX9_firstRule 3 = .ok (.dup, 1) := by decide +kernel
theorem dX9_firstRule_4 : decode cX9_firstRule 4 = .ok (.iconst 3, 1) := by decide +kernel
theorem dX9_firstRule_5 : decode cX9_firstRule 5 = .ok (.newarray .int, 2) := by decide +kernel
theorem dX9_firstRule_7 : decode cX9_firstRule 7 = .ok (.dup, 1) := by decide +kernel
theorem dX9_firstRule_8 : decode cX9_firstRule 8 = .ok (.iconst 0, 1) := by decide +kernel
theorem dX9_firstRule_9 : decode cX9_firstRule 9 = .ok (.iconst 0, 1) := by decide +kernel
theorem dX9_firstRule_10 : decode cX9_firstRule 10 = .ok (.iastore, 1) := by decide +kernel
theorem dX9_firstRule_11 : decode cX9_firstRule 11 = .ok (.dup, 1) := by decide +kernel
theorem dX9_firstRule_12 : decode cX9_firstRule 12 = .ok (.iconst 1, 1) := by decide +kernel
theorem dX9_firstRule_13 : decode cX9_firstRule 13 = .ok (.bipush (-2), 2) := by decide +kernel
theorem dX9_firstRule_15 : decode cX9_firstRule 15 = .ok (.iastore, 1) := by decide +kernel
theorem dX9_firstRule_16 : decode cX9_firstRule 16 = .ok (.dup, 1) := by decide +kernel
theorem dX9_firstRule_17 : decode cX9_firstRule 17 = .ok (.iconst 2, 1) := by decide +kernel
theorem dX9_firstRule_18 : decode cX9_firstRule 18 = .ok (.bipush (-3), 2) := by decide +kernel
theorem dX9_firstRule_20 : decode cX9_firstRule 20 = .ok (.iastore, 1) := by decide +kernel
theorem dX9_firstRule_21 : decode cX9_firstRule 21 = .ok (.iconst 3, 1) := by decide +kernel
theorem dX9_firstRule_22 : decode cX9_firstRule 22 = .ok (.newarray .int, 2) := by decide +kernel
theorem dX9_firstRule_24 : decode cX9_firstRule 24 = .ok (.dup, 1) := by decide +kernel
theorem dX9_firstRule_25 : decode cX9_firstRule 25 = .ok (.iconst 0, 1) := by decide +kernel
theorem dX9_firstRule_26 : decode cX9_firstRule 26 = .ok (.iconst 1, 1) := by decide +kernel
theorem dX9_firstRule_27 : decode cX9_firstRule 27 = .ok (.iastore, 1) := by decide +kernel
theorem dX9_firstRule_28 : decode cX9_firstRule 28 = .ok (.dup, 1) := by decide +kernel
theorem dX9_firstRule_29 : decode cX9_firstRule 29 = .ok (.iconst 1, 1) := by decide +kernel
theorem dX9_firstRule_30 : decode cX9_firstRule 30 = .ok (.iconst 2, 1) := by decide +kernel
theorem dX9_firstRule_31 : decode cX9_firstRule 31 = .ok (.iastore, 1) := by decide +kernel
theorem dX9_firstRule_32 : decode cX9_firstRule 32 = .ok (.dup, 1) := by decide +kernel
theorem dX9_firstRule_33 : decode cX9_firstRule 33 = .ok (.iconst 2, 1) := by decide +kernel
theorem dX9_firstRule_34 : decode cX9_firstRule 34 = .ok (.iconst 3, 1) := by decide +kernel
theorem dX9_firstRule_35 : decode cX9_firstRule 35 = .ok (.iastore, 1) := by decide +kernel
theorem dX9_firstRule_36 : decode cX9_firstRule 36 = .ok (.invokespecial 26, 3) := by decide +kernel
theorem dX9_firstRule_39 : decode cX9_firstRule 39 = .ok (.areturn, 1) := by decide +kernel
theorem dX9_seenApart_0 : decode cX9_seenApart 0 = .ok (.aload_n 2, 1) := by decide +kernel
theorem dX9_seenApart_1 : decode cX9_seenApart 1 = .ok (.iload_n 3, 1) := by decide +kernel
theorem dX9_seenApart_2 : decode cX9_seenApart 2 = .ok (.iaload, 1) := by decide +kernel
theorem dX9_seenApart_3 : decode cX9_seenApart 3 = .ok (.aload_n 2, 1) := by decide +kernel
theorem dX9_seenApart_4 : decode cX9_seenApart 4 = .ok (.iload 4, 2) := by decide +kernel
theorem dX9_seenApart_6 : decode cX9_seenApart 6 = .ok (.iaload, 1) := by decide +kernel
theorem dX9_seenApart_7 : decode cX9_seenApart 7 = .ok (.iadd, 1) := by decide +kernel
theorem dX9_seenApart_8 : decode cX9_seenApart 8 = .ok (.istore 5, 2) := by decide +kernel
theorem dX9_seenApart_10 : decode cX9_seenApart 10 = .ok (.aload_n 1, 1) := by decide +kernel
theorem dX9_seenApart_11 : decode cX9_seenApart 11 = .ok (.iload_n 3, 1) := by decide +kernel
theorem dX9_seenApart_12 : decode cX9_seenApart 12 = .ok (.invokevirtual 29, 3) := by decide +kernel
theorem dX9_seenApart_15 : decode cX9_seenApart 15 = .ok (.aload_n 1, 1) := by decide +kernel
theorem dX9_seenApart_16 : decode cX9_seenApart 16 = .ok (.iload 4, 2) := by decide +kernel
theorem dX9_seenApart_18 : decode cX9_seenApart 18 = .ok (.invokevirtual 29, 3) := by decide +kernel
theorem dX9_seenApart_21 : decode cX9_seenApart 21 = .ok (.isub, 1) := by decide +kernel
theorem dX9_seenApart_22 : decode cX9_seenApart 22 = .ok (.invokestatic 35, 3) := by decide +kernel
theorem dX9_seenApart_25 : decode cX9_seenApart 25 = .ok (.istore 6, 2) := by decide +kernel
theorem dX9_seenApart_27 : decode cX9_seenApart 27 = .ok (.aload_n 1, 1) := by decide +kernel
theorem dX9_seenApart_28 : decode cX9_seenApart 28 = .ok (.getfield 40, 3) := by decide +kernel
theorem dX9_seenApart_31 : decode cX9_seenApart 31 = .ok (.iload_n 3, 1) := by decide +kernel
theorem dX9_seenApart_32 : decode cX9_seenApart 32 = .ok (.iaload, 1) := by decide +kernel
theorem dX9_seenApart_33 : decode cX9_seenApart 33 = .ok (.aload_n 1, 1) := by decide +kernel
theorem dX9_seenApart_34 : decode cX9_seenApart 34 = .ok (.getfield 40, 3) := by decide +kernel
theorem dX9_seenApart_37 : decode cX9_seenApart 37 = .ok (.iload 4, 2) := by decide +kernel
theorem dX9_seenApart_39 : decode cX9_seenApart 39 = .ok (.iaload, 1) := by decide +kernel
theorem dX9_seenApart_40 : decode cX9_seenApart 40 = .ok (.if_icmp .ne 7, 3) := by decide +kernel
theorem dX9_seenApart_43 : decode cX9_seenApart 43 = .ok (.iconst 0, 1) := by decide +kernel
theorem dX9_seenApart_44 : decode cX9_seenApart 44 = .ok (.goto 4, 3) := by decide +kernel
theorem dX9_seenApart_47 : decode cX9_seenApart 47 = .ok (.iconst 1, 1) := by decide +kernel
theorem dX9_seenApart_48 : decode cX9_seenApart 48 = .ok (.istore 7, 2) := by decide +kernel
theorem dX9_seenApart_50 : decode cX9_seenApart 50 = .ok (.aload_n 0, 1) := by decide +kernel
theorem dX9_seenApart_51 : decode cX9_seenApart 51 = .ok (.iload 5, 2) := by decide +kernel
theorem dX9_seenApart_53 : decode cX9_seenApart 53 = .ok (.iload 6, 2) := by decide +kernel
theorem dX9_seenApart_55 : decode cX9_seenApart 55 = .ok (.iconst 0, 1) := by decide +kernel
theorem dX9_seenApart_56 : decode cX9_seenApart 56 = .ok (.iconst 0, 1) := by decide +kernel
theorem dX9_seenApart_57 : decode cX9_seenApart 57 = .ok (.iload 7, 2) := by decide +kernel
theorem dX9_seenApart_59 : decode cX9_seenApart 59 = .ok (.aload_n 1, 1) := by decide +kernel
theorem dX9_seenApart_60 : decode cX9_seenApart 60 = .ok (.getfield 40, 3) := by decide +kernel
theorem dX9_seenApart_63 : decode cX9_seenApart 63 = .ok (.iload_n 3, 1) := by decide +kernel
theorem dX9_seenApart_64 : decode cX9_seenApart 64 = .ok (.iload 4, 2) := by decide +kernel
theorem dX9_seenApart_66 : decode cX9_seenApart 66 = .ok (.invokestatic 43, 3) := by decide +kernel
theorem dX9_seenApart_69 : decode cX9_seenApart 69 = .ok (.iaload, 1) := by decide +kernel
theorem dX9_seenApart_70 : decode cX9_seenApart 70 = .ok (.invokevirtual 47, 3) := by decide +kernel
theorem dX9_seenApart_73 : decode cX9_seenApart 73 = .ok (.aload_n 0, 1) := by decide +kernel
theorem dX9_seenApart_74 : decode cX9_seenApart 74 = .ok (.iconst 1, 1) := by decide +kernel
theorem dX9_seenApart_75 : decode cX9_seenApart 75 = .ok (.invokevirtual 51, 3) := by decide +kernel
theorem dX9_seenApart_78 : decode cX9_seenApart 78 = .ok (.sipush 999, 3) := by decide +kernel
theorem dX9_seenApart_81 : decode cX9_seenApart 81 = .ok (.invokestatic 54, 3) := by decide +kernel
theorem dX9_seenApart_84 : decode cX9_seenApart 84 = .ok (.ireturn, 1) := by decide +kernel
theorem dX9_bearsInAll_0 : decode cX9_bearsInAll 0 = .ok (.aload_n 1, 1) := by decide +kernel
theorem dX9_bearsInAll_1 : decode cX9_bearsInAll 1 = .ok (.getstatic 57, 3) := by decide +kernel
theorem dX9_bearsInAll_4 : decode cX9_bearsInAll 4 = .ok (.iload_n 2, 1) := by decide +kernel
theorem dX9_bearsInAll_5 : decode cX9_bearsInAll 5 = .ok (.iaload, 1) := by decide +kernel
theorem dX9_bearsInAll_6 : decode cX9_bearsInAll 6 = .ok (.invokevirtual 60, 3) := by decide +kernel
theorem dX9_bearsInAll_9 : decode cX9_bearsInAll 9 = .ok (.aload_n 1, 1) := by decide +kernel
theorem dX9_bearsInAll_10 : decode cX9_bearsInAll 10 = .ok (.getstatic 65, 3) := by decide +kernel
theorem dX9_bearsInAll_13 : decode cX9_bearsInAll 13 = .ok (.iload_n 2, 1) := by decide +kernel
theorem dX9_bearsInAll_14 : decode cX9_bearsInAll 14 = .ok (.iaload, 1) := by decide +kernel
theorem dX9_bearsInAll_15 : decode cX9_bearsInAll 15 = .ok (.invokevirtual 60, 3) := by decide +kernel
theorem dX9_bearsInAll_18 : decode cX9_bearsInAll 18 = .ok (.iadd, 1) := by decide +kernel
theorem dX9_bearsInAll_19 : decode cX9_bearsInAll 19 = .ok (.istore_n 3, 1) := by decide +kernel
theorem dX9_bearsInAll_20 : decode cX9_bearsInAll 20 = .ok (.aload_n 1, 1) := by decide +kernel
theorem dX9_bearsInAll_21 : decode cX9_bearsInAll 21 = .ok (.iload_n 2, 1) := by decide +kernel
theorem dX9_bearsInAll_22 : decode cX9_bearsInAll 22 = .ok (.invokevirtual 68, 3) := by decide +kernel
theorem dX9_bearsInAll_25 : decode cX9_bearsInAll 25 = .ok (.istore 4, 2) := by decide +kernel
theorem dX9_bearsInAll_27 : decode cX9_bearsInAll 27 = .ok (.aload_n 0, 1) := by decide +kernel
theorem dX9_bearsInAll_28 : decode cX9_bearsInAll 28 = .ok (.iload_n 3, 1) := by decide +kernel
theorem dX9_bearsInAll_29 : decode cX9_bearsInAll 29 = .ok (.iload 4, 2) := by decide +kernel
theorem dX9_bearsInAll_31 : decode cX9_bearsInAll 31 = .ok (.aload_n 1, 1) := by decide +kernel
theorem dX9_bearsInAll_32 : decode cX9_bearsInAll 32 = .ok (.getfield 71, 3) := by decide +kernel
theorem dX9_bearsInAll_35 : decode cX9_bearsInAll 35 = .ok (.aload_n 1, 1) := by decide +kernel
theorem dX9_bearsInAll_36 : decode cX9_bearsInAll 36 = .ok (.getfield 75, 3) := by decide +kernel
theorem dX9_bearsInAll_39 : decode cX9_bearsInAll 39 = .ok (.iconst 0, 1) := by decide +kernel
theorem dX9_bearsInAll_40 : decode cX9_bearsInAll 40 = .ok (.iload_n 2, 1) := by decide +kernel
theorem dX9_bearsInAll_41 : decode cX9_bearsInAll 41 = .ok (.invokevirtual 47, 3) := by decide +kernel
theorem dX9_bearsInAll_44 : decode cX9_bearsInAll 44 = .ok (.iload 4, 2) := by decide +kernel
theorem dX9_bearsInAll_46 : decode cX9_bearsInAll 46 = .ok (.aload_n 0, 1) := by decide +kernel
theorem dX9_bearsInAll_47 : decode cX9_bearsInAll 47 = .ok (.iconst 0, 1) := by decide +kernel
theorem dX9_bearsInAll_48 : decode cX9_bearsInAll 48 = .ok (.invokevirtual 51, 3) := by decide +kernel
theorem dX9_bearsInAll_51 : decode cX9_bearsInAll 51 = .ok (.bipush 99, 2) := by decide +kernel
theorem dX9_bearsInAll_53 : decode cX9_bearsInAll 53 = .ok (.invokestatic 54, 3) := by decide +kernel
theorem dX9_bearsInAll_56 : decode cX9_bearsInAll 56 = .ok (.iadd, 1) := by decide +kernel
theorem dX9_bearsInAll_57 : decode cX9_bearsInAll 57 = .ok (.ireturn, 1) := by decide +kernel
theorem dX9_keepBy_0 : decode cX9_keepBy 0 = .ok (.aload_n 0, 1) := by decide +kernel
theorem dX9_keepBy_1 : decode cX9_keepBy 1 = .ok (.aload_n 1, 1) := by decide +kernel
theorem dX9_keepBy_2 : decode cX9_keepBy 2 = .ok (.invokevirtual 78, 3) := by decide +kernel
theorem dX9_keepBy_5 : decode cX9_keepBy 5 = .ok (.iconst 0, 1) := by decide +kernel
theorem dX9_keepBy_6 : decode cX9_keepBy 6 = .ok (.aload_n 1, 1) := by decide +kernel
theorem dX9_keepBy_7 : decode cX9_keepBy 7 = .ok (.getfield 71, 3) := by decide +kernel
theorem dX9_keepBy_10 : decode cX9_keepBy 10 = .ok (.aload_n 1, 1) := by decide +kernel
theorem dX9_keepBy_11 : decode cX9_keepBy 11 = .ok (.getfield 75, 3) := by decide +kernel
theorem dX9_keepBy_14 : decode cX9_keepBy 14 = .ok (.iconst 0, 1) := by decide +kernel
theorem dX9_keepBy_15 : decode cX9_keepBy 15 = .ok (.iconst 0, 1) := by decide +kernel
theorem dX9_keepBy_16 : decode cX9_keepBy 16 = .ok (.invokevirtual 47, 3) := by decide +kernel
theorem dX9_keepBy_19 : decode cX9_keepBy 19 = .ok (.aload_n 0, 1) := by decide +kernel
theorem dX9_keepBy_20 : decode cX9_keepBy 20 = .ok (.iconst 2, 1) := by decide +kernel
theorem dX9_keepBy_21 : decode cX9_keepBy 21 = .ok (.invokevirtual 51, 3) := by decide +kernel
theorem dX9_keepBy_24 : decode cX9_keepBy 24 = .ok (.bipush 99, 2) := by decide +kernel
theorem dX9_keepBy_26 : decode cX9_keepBy 26 = .ok (.invokestatic 54, 3) := by decide +kernel
theorem dX9_keepBy_29 : decode cX9_keepBy 29 = .ok (.ireturn, 1) := by decide +kernel
theorem dX9_nameNumbers_0 : decode cX9_nameNumbers 0 = .ok (.aload_n 0, 1) := by decide +kernel
theorem dX9_nameNumbers_1 : decode cX9_nameNumbers 1 = .ok (.getfield 11, 3) := by decide +kernel
theorem dX9_nameNumbers_4 : decode cX9_nameNumbers 4 = .ok (.iconst 0, 1) := by decide +kernel
theorem dX9_nameNumbers_5 : decode cX9_nameNumbers 5 = .ok (.iload_n 1, 1) := by decide +kernel
theorem dX9_nameNumbers_6 : decode cX9_nameNumbers 6 = .ok (.iastore, 1) := by decide +kernel
theorem dX9_nameNumbers_7 : decode cX9_nameNumbers 7 = .ok (.aload_n 0, 1) := by decide +kernel
theorem dX9_nameNumbers_8 : decode cX9_nameNumbers 8 = .ok (.getfield 11, 3) := by decide +kernel
theorem dX9_nameNumbers_11 : decode cX9_nameNumbers 11 = .ok (.iconst 1, 1) := by decide +kernel
theorem dX9_nameNumbers_12 : decode cX9_nameNumbers 12 = .ok (.iload_n 2, 1) := by decide +kernel
theorem dX9_nameNumbers_13 : decode cX9_nameNumbers 13 = .ok (.iastore, 1) := by decide +kernel
theorem dX9_nameNumbers_14 : decode cX9_nameNumbers 14 = .ok (.aload_n 0, 1) := by decide +kernel
theorem dX9_nameNumbers_15 : decode cX9_nameNumbers 15 = .ok (.getfield 11, 3) := by decide +kernel
theorem dX9_nameNumbers_18 : decode cX9_nameNumbers 18 = .ok (.iconst 2, 1) := by decide +kernel
theorem dX9_nameNumbers_19 : decode cX9_nameNumbers 19 = .ok (.iload_n 3, 1) := by decide +kernel
theorem dX9_nameNumbers_20 : decode cX9_nameNumbers 20 = .ok (.iastore, 1) := by decide +kernel
theorem dX9_nameNumbers_21 : decode cX9_nameNumbers 21 = .ok (.aload_n 0, 1) := by decide +kernel
theorem dX9_nameNumbers_22 : decode cX9_nameNumbers 22 = .ok (.getfield 11, 3) := by decide +kernel
theorem dX9_nameNumbers_25 : decode cX9_nameNumbers 25 = .ok (.iconst 3, 1) := by decide +kernel
theorem dX9_nameNumbers_26 : decode cX9_nameNumbers 26 = .ok (.iload 4, 2) := by decide +kernel
theorem dX9_nameNumbers_28 : decode cX9_nameNumbers 28 = .ok (.iastore, 1) := by decide +kernel
theorem dX9_nameNumbers_29 : decode cX9_nameNumbers 29 = .ok (.aload_n 0, 1) := by decide +kernel
theorem dX9_nameNumbers_30 : decode cX9_nameNumbers 30 = .ok (.getfield 11, 3) := by decide +kernel
theorem dX9_nameNumbers_33 : decode cX9_nameNumbers 33 = .ok (.iconst 4, 1) := by decide +kernel
theorem dX9_nameNumbers_34 : decode cX9_nameNumbers 34 = .ok (.iload 5, 2) := by decide +kernel
theorem dX9_nameNumbers_36 : decode cX9_nameNumbers 36 = .ok (.iastore, 1) := by decide +kernel
theorem dX9_nameNumbers_37 : decode cX9_nameNumbers 37 = .ok (.aload_n 0, 1) := by decide +kernel
theorem dX9_nameNumbers_38 : decode cX9_nameNumbers 38 = .ok (.getfield 11, 3) := by decide +kernel
theorem dX9_nameNumbers_41 : decode cX9_nameNumbers 41 = .ok (.iconst 5, 1) := by decide +kernel
theorem dX9_nameNumbers_42 : decode cX9_nameNumbers 42 = .ok (.iload 6, 2) := by decide +kernel
theorem dX9_nameNumbers_44 : decode cX9_nameNumbers 44 = .ok (.iastore, 1) := by decide +kernel
theorem dX9_nameNumbers_45 : decode cX9_nameNumbers 45 = .ok (.return_, 1) := by decide +kernel
theorem dX9_valueOf_0 : decode cX9_valueOf 0 = .ok (.iconst 0, 1) := by decide +kernel
theorem dX9_valueOf_1 : decode cX9_valueOf 1 = .ok (.istore_n 2, 1) := by decide +kernel
theorem dX9_valueOf_2 : decode cX9_valueOf 2 = .ok (.iload_n 1, 1) := by decide +kernel
theorem dX9_valueOf_3 : decode cX9_valueOf 3 = .ok (.ifCond .ne 7, 3) := by decide +kernel
theorem dX9_valueOf_6 : decode cX9_valueOf 6 = .ok (.iconst 0, 1) := by decide +kernel
theorem dX9_valueOf_7 : decode cX9_valueOf 7 = .ok (.goto 11, 3) := by decide +kernel
theorem dX9_valueOf_10 : decode cX9_valueOf 10 = .ok (.aload_n 0, 1) := by decide +kernel
theorem dX9_valueOf_11 : decode cX9_valueOf 11 = .ok (.getfield 20, 3) := by decide +kernel
theorem dX9_valueOf_14 : decode cX9_valueOf 14 = .ok (.iload_n 1, 1) := by decide +kernel
theorem dX9_valueOf_15 : decode cX9_valueOf 15 = .ok (.iconst 1, 1) := by decide +kernel
theorem dX9_valueOf_16 : decode cX9_valueOf 16 = .ok (.isub, 1) := by decide +kernel
theorem dX9_valueOf_17 : decode cX9_valueOf 17 = .ok (.iaload, 1) := by decide +kernel
theorem dX9_valueOf_18 : decode cX9_valueOf 18 = .ok (.istore_n 3, 1) := by decide +kernel
theorem dX9_valueOf_19 : decode cX9_valueOf 19 = .ok (.iload_n 3, 1) := by decide +kernel
theorem dX9_valueOf_20 : decode cX9_valueOf 20 = .ok (.aload_n 0, 1) := by decide +kernel
theorem dX9_valueOf_21 : decode cX9_valueOf 21 = .ok (.getfield 20, 3) := by decide +kernel
theorem dX9_valueOf_24 : decode cX9_valueOf 24 = .ok (.iload_n 1, 1) := by decide +kernel
theorem dX9_valueOf_25 : decode cX9_valueOf 25 = .ok (.iaload, 1) := by decide +kernel
theorem dX9_valueOf_26 : decode cX9_valueOf 26 = .ok (.if_icmp .ge 135, 3) := by decide +kernel
theorem dX9_valueOf_29 : decode cX9_valueOf 29 = .ok (.aload_n 0, 1) := by decide +kernel
theorem dX9_valueOf_30 : decode cX9_valueOf 30 = .ok (.getfield 17, 3) := by decide +kernel
theorem dX9_valueOf_33 : decode cX9_valueOf 33 = .ok (.iload_n 3, 1) := by decide +kernel
theorem dX9_valueOf_34 : decode cX9_valueOf 34 = .ok (.iaload, 1) := by decide +kernel
theorem dX9_valueOf_35 : decode cX9_valueOf 35 = .ok (.istore 4, 2) := by decide +kernel
theorem dX9_valueOf_37 : decode cX9_valueOf 37 = .ok (.iload 4, 2) := by decide +kernel
theorem dX9_valueOf_39 : decode cX9_valueOf 39 = .ok (.bipush (-6), 2) := by decide +kernel
theorem dX9_valueOf_41 : decode cX9_valueOf 41 = .ok (.if_icmp .lt 43, 3) := by decide +kernel
theorem dX9_valueOf_44 : decode cX9_valueOf 44 = .ok (.iload_n 2, 1) := by decide +kernel
theorem dX9_valueOf_45 : decode cX9_valueOf 45 = .ok (.aload_n 0, 1) := by decide +kernel
theorem dX9_valueOf_46 : decode cX9_valueOf 46 = .ok (.getfield 23, 3) := by decide +kernel
theorem dX9_valueOf_49 : decode cX9_valueOf 49 = .ok (.arraylength, 1) := by decide +kernel
theorem dX9_valueOf_50 : decode cX9_valueOf 50 = .ok (.if_icmp .ge 34, 3) := by decide +kernel
theorem dX9_valueOf_53 : decode cX9_valueOf 53 = .ok (.aload_n 0, 1) := by decide +kernel
theorem dX9_valueOf_54 : decode cX9_valueOf 54 = .ok (.getfield 23, 3) := by decide +kernel
theorem dX9_valueOf_57 : decode cX9_valueOf 57 = .ok (.iload_n 2, 1) := by decide +kernel
theorem dX9_valueOf_58 : decode cX9_valueOf 58 = .ok (.iload 4, 2) := by decide +kernel
theorem dX9_valueOf_60 : decode cX9_valueOf 60 = .ok (.ifCond .lt 8, 3) := by decide +kernel
theorem dX9_valueOf_63 : decode cX9_valueOf 63 = .ok (.iload 4, 2) := by decide +kernel
theorem dX9_valueOf_65 : decode cX9_valueOf 65 = .ok (.goto 12, 3) := by decide +kernel
theorem dX9_valueOf_68 : decode cX9_valueOf 68 = .ok (.aload_n 0, 1) := by decide +kernel
theorem dX9_valueOf_69 : decode cX9_valueOf 69 = .ok (.getfield 11, 3) := by decide +kernel
theorem dX9_valueOf_72 : decode cX9_valueOf 72 = .ok (.iconst (-1), 1) := by decide +kernel
theorem dX9_valueOf_73 : decode cX9_valueOf 73 = .ok (.iload 4, 2) := by decide +kernel
theorem dX9_valueOf_75 : decode cX9_valueOf 75 = .ok (.isub, 1) := by decide +kernel
theorem dX9_valueOf_76 : decode cX9_valueOf 76 = .ok (.iaload, 1) := by decide +kernel
theorem dX9_valueOf_77 : decode cX9_valueOf 77 = .ok (.iastore, 1) := by decide +kernel
theorem dX9_valueOf_78 : decode cX9_valueOf 78 = .ok (.iinc 2 1, 3) := by decide +kernel
theorem dX9_valueOf_81 : decode cX9_valueOf 81 = .ok (.goto 74, 3) := by decide +kernel
theorem dX9_valueOf_84 : decode cX9_valueOf 84 = .ok (.iload 4, 2) := by decide +kernel
theorem dX9_valueOf_86 : decode cX9_valueOf 86 = .ok (.bipush (-11), 2) := by decide +kernel
theorem dX9_valueOf_88 : decode cX9_valueOf 88 = .ok (.if_icmp .lt 32, 3) := by decide +kernel
theorem dX9_valueOf_91 : decode cX9_valueOf 91 = .ok (.iload_n 2, 1) := by decide +kernel
theorem dX9_valueOf_92 : decode cX9_valueOf 92 = .ok (.iconst 1, 1) := by decide +kernel
theorem dX9_valueOf_93 : decode cX9_valueOf 93 = .ok (.if_icmp .lt 27, 3) := by decide +kernel
theorem dX9_valueOf_96 : decode cX9_valueOf 96 = .ok (.aload_n 0, 1) := by decide +kernel
theorem dX9_valueOf_97 : decode cX9_valueOf 97 = .ok (.getfield 23, 3) := by decide +kernel
theorem dX9_valueOf_100 : decode cX9_valueOf 100 = .ok (.iload_n 2, 1) := by decide +kernel
theorem dX9_valueOf_101 : decode cX9_valueOf 101 = .ok (.iconst 1, 1) := by decide +kernel
theorem dX9_valueOf_102 : decode cX9_valueOf 102 = .ok (.isub, 1) := by decide +kernel
theorem dX9_valueOf_103 : decode cX9_valueOf 103 = .ok (.iload 4, 2) := by decide +kernel
theorem dX9_valueOf_105 : decode cX9_valueOf 105 = .ok (.aload_n 0, 1) := by decide +kernel
theorem dX9_valueOf_106 : decode cX9_valueOf 106 = .ok (.getfield 23, 3) := by decide +kernel
theorem dX9_valueOf_109 : decode cX9_valueOf 109 = .ok (.iload_n 2, 1) := by decide +kernel
theorem dX9_valueOf_110 : decode cX9_valueOf 110 = .ok (.iconst 1, 1) := by decide +kernel
theorem dX9_valueOf_111 : decode cX9_valueOf 111 = .ok (.isub, 1) := by decide +kernel
theorem dX9_valueOf_112 : decode cX9_valueOf 112 = .ok (.iaload, 1) := by decide +kernel
theorem dX9_valueOf_113 : decode cX9_valueOf 113 = .ok (.invokestatic 82, 3) := by decide +kernel
theorem dX9_valueOf_116 : decode cX9_valueOf 116 = .ok (.iastore, 1) := by decide +kernel
theorem dX9_valueOf_117 : decode cX9_valueOf 117 = .ok (.goto 38, 3) := by decide +kernel
theorem dX9_valueOf_120 : decode cX9_valueOf 120 = .ok (.iload_n 2, 1) := by decide +kernel
theorem dX9_valueOf_121 : decode cX9_valueOf 121 = .ok (.iconst 2, 1) := by decide +kernel
theorem dX9_valueOf_122 : decode cX9_valueOf 122 = .ok (.if_icmp .lt 33, 3) := by decide +kernel
theorem dX9_valueOf_125 : decode cX9_valueOf 125 = .ok (.iinc 2 (-1), 3) := by decide +kernel
theorem dX9_valueOf_128 : decode cX9_valueOf 128 = .ok (.aload_n 0, 1) := by decide +kernel
theorem dX9_valueOf_129 : decode cX9_valueOf 129 = .ok (.getfield 23, 3) := by decide +kernel
theorem dX9_valueOf_132 : decode cX9_valueOf 132 = .ok (.iload_n 2, 1) := by decide +kernel
theorem dX9_valueOf_133 : decode cX9_valueOf 133 = .ok (.iconst 1, 1) := by decide +kernel
theorem dX9_valueOf_134 : decode cX9_valueOf 134 = .ok (.isub, 1) := by decide +kernel
theorem dX9_valueOf_135 : decode cX9_valueOf 135 = .ok (.iload 4, 2) := by decide +kernel
theorem dX9_valueOf_137 : decode cX9_valueOf 137 = .ok (.aload_n 0, 1) := by decide +kernel
theorem dX9_valueOf_138 : decode cX9_valueOf 138 = .ok (.getfield 23, 3) := by decide +kernel
theorem dX9_valueOf_141 : decode cX9_valueOf 141 = .ok (.iload_n 2, 1) := by decide +kernel
theorem dX9_valueOf_142 : decode cX9_valueOf 142 = .ok (.iconst 1, 1) := by decide +kernel
theorem dX9_valueOf_143 : decode cX9_valueOf 143 = .ok (.isub, 1) := by decide +kernel
theorem dX9_valueOf_144 : decode cX9_valueOf 144 = .ok (.iaload, 1) := by decide +kernel
theorem dX9_valueOf_145 : decode cX9_valueOf 145 = .ok (.aload_n 0, 1) := by decide +kernel
theorem dX9_valueOf_146 : decode cX9_valueOf 146 = .ok (.getfield 23, 3) := by decide +kernel
theorem dX9_valueOf_149 : decode cX9_valueOf 149 = .ok (.iload_n 2, 1) := by decide +kernel
theorem dX9_valueOf_150 : decode cX9_valueOf 150 = .ok (.iaload, 1) := by decide +kernel
theorem dX9_valueOf_151 : decode cX9_valueOf 151 = .ok (.invokestatic 85, 3) := by decide +kernel
theorem dX9_valueOf_154 : decode cX9_valueOf 154 = .ok (.iastore, 1) := by decide +kernel
theorem dX9_valueOf_155 : decode cX9_valueOf 155 = .ok (.iinc 3 1, 3) := by decide +kernel
theorem dX9_valueOf_158 : decode cX9_valueOf 158 = .ok (.goto (-139), 3) := by decide +kernel
theorem dX9_valueOf_161 : decode cX9_valueOf 161 = .ok (.iload_n 2, 1) := by decide +kernel
theorem dX9_valueOf_162 : decode cX9_valueOf 162 = .ok (.iconst 1, 1) := by decide +kernel
theorem dX9_valueOf_163 : decode cX9_valueOf 163 = .ok (.if_icmp .lt 14, 3) := by decide +kernel
theorem dX9_valueOf_166 : decode cX9_valueOf 166 = .ok (.aload_n 0, 1) := by decide +kernel
theorem dX9_valueOf_167 : decode cX9_valueOf 167 = .ok (.getfield 23, 3) := by decide +kernel
theorem dX9_valueOf_170 : decode cX9_valueOf 170 = .ok (.iload_n 2, 1) := by decide +kernel
theorem dX9_valueOf_171 : decode cX9_valueOf 171 = .ok (.iconst 1, 1) := by decide +kernel
theorem dX9_valueOf_172 : decode cX9_valueOf 172 = .ok (.isub, 1) := by decide +kernel
theorem dX9_valueOf_173 : decode cX9_valueOf 173 = .ok (.iaload, 1) := by decide +kernel
theorem dX9_valueOf_174 : decode cX9_valueOf 174 = .ok (.goto 4, 3) := by decide +kernel
theorem dX9_valueOf_177 : decode cX9_valueOf 177 = .ok (.iconst 0, 1) := by decide +kernel
theorem dX9_valueOf_178 : decode cX9_valueOf 178 = .ok (.ireturn, 1) := by decide +kernel
theorem dX9_ofOne_0 : decode cX9_ofOne 0 = .ok (.iload_n 0, 1) := by decide +kernel
theorem dX9_ofOne_1 : decode cX9_ofOne 1 = .ok (.bipush (-10), 2) := by decide +kernel
theorem dX9_ofOne_3 : decode cX9_ofOne 3 = .ok (.if_icmp .ne 6, 3) := by decide +kernel
theorem dX9_ofOne_6 : decode cX9_ofOne 6 = .ok (.iload_n 1, 1) := by decide +kernel
theorem dX9_ofOne_7 : decode cX9_ofOne 7 = .ok (.ineg, 1) := by decide +kernel
theorem dX9_ofOne_8 : decode cX9_ofOne 8 = .ok (.ireturn, 1) := by decide +kernel
theorem dX9_ofOne_9 : decode cX9_ofOne 9 = .ok (.iload_n 1, 1) := by decide +kernel
theorem dX9_ofOne_10 : decode cX9_ofOne 10 = .ok (.ifCond .ne 7, 3) := by decide +kernel
theorem dX9_ofOne_13 : decode cX9_ofOne 13 = .ok (.iconst 1, 1) := by decide +kernel
theorem dX9_ofOne_14 : decode cX9_ofOne 14 = .ok (.goto 4, 3) := by decide +kernel
theorem dX9_ofOne_17 : decode cX9_ofOne 17 = .ok (.iconst 0, 1) := by decide +kernel
theorem dX9_ofOne_18 : decode cX9_ofOne 18 = .ok (.ireturn, 1) := by decide +kernel
theorem dX9_ofTwo_0 : decode cX9_ofTwo 0 = .ok (.iload_n 0, 1) := by decide +kernel
theorem dX9_ofTwo_1 : decode cX9_ofTwo 1 = .ok (.tableswitch 87 (-17) (-12) #[73, 62, 51, 47, 43, 39], 39) := by decide +kernel
theorem dX9_ofTwo_40 : decode cX9_ofTwo 40 = .ok (.iload_n 1, 1) := by decide +kernel
theorem dX9_ofTwo_41 : decode cX9_ofTwo 41 = .ok (.iload_n 2, 1) := by decide +kernel
theorem dX9_ofTwo_42 : decode cX9_ofTwo 42 = .ok (.imul, 1) := by decide +kernel
theorem dX9_ofTwo_43 : decode cX9_ofTwo 43 = .ok (.ireturn, 1) := by decide +kernel
theorem dX9_ofTwo_44 : decode cX9_ofTwo 44 = .ok (.iload_n 1, 1) := by decide +kernel
theorem dX9_ofTwo_45 : decode cX9_ofTwo 45 = .ok (.iload_n 2, 1) := by decide +kernel
theorem dX9_ofTwo_46 : decode cX9_ofTwo 46 = .ok (.iadd, 1) := by decide +kernel
theorem dX9_ofTwo_47 : decode cX9_ofTwo 47 = .ok (.ireturn, 1) := by decide +kernel
theorem dX9_ofTwo_48 : decode cX9_ofTwo 48 = .ok (.iload_n 1, 1) := by decide +kernel
theorem dX9_ofTwo_49 : decode cX9_ofTwo 49 = .ok (.iload_n 2, 1) := by decide +kernel
theorem dX9_ofTwo_50 : decode cX9_ofTwo 50 = .ok (.isub, 1) := by decide +kernel
theorem dX9_ofTwo_51 : decode cX9_ofTwo 51 = .ok (.ireturn, 1) := by decide +kernel
theorem dX9_ofTwo_52 : decode cX9_ofTwo 52 = .ok (.iload_n 1, 1) := by decide +kernel
theorem dX9_ofTwo_53 : decode cX9_ofTwo 53 = .ok (.iload_n 2, 1) := by decide +kernel
theorem dX9_ofTwo_54 : decode cX9_ofTwo 54 = .ok (.if_icmp .ge 7, 3) := by decide +kernel
theorem dX9_ofTwo_57 : decode cX9_ofTwo 57 = .ok (.iconst 1, 1) := by decide +kernel
theorem dX9_ofTwo_58 : decode cX9_ofTwo 58 = .ok (.goto 4, 3) := by decide +kernel
theorem dX9_ofTwo_61 : decode cX9_ofTwo 61 = .ok (.iconst 0, 1) := by decide +kernel
theorem dX9_ofTwo_62 : decode cX9_ofTwo 62 = .ok (.ireturn, 1) := by decide +kernel
theorem dX9_ofTwo_63 : decode cX9_ofTwo 63 = .ok (.iload_n 1, 1) := by decide +kernel
theorem dX9_ofTwo_64 : decode cX9_ofTwo 64 = .ok (.iload_n 2, 1) := by decide +kernel
theorem dX9_ofTwo_65 : decode cX9_ofTwo 65 = .ok (.if_icmp .ne 7, 3) := by decide +kernel
theorem dX9_ofTwo_68 : decode cX9_ofTwo 68 = .ok (.iconst 1, 1) := by decide +kernel
theorem dX9_ofTwo_69 : decode cX9_ofTwo 69 = .ok (.goto 4, 3) := by decide +kernel
theorem dX9_ofTwo_72 : decode cX9_ofTwo 72 = .ok (.iconst 0, 1) := by decide +kernel
theorem dX9_ofTwo_73 : decode cX9_ofTwo 73 = .ok (.ireturn, 1) := by decide +kernel
theorem dX9_ofTwo_74 : decode cX9_ofTwo 74 = .ok (.iload_n 1, 1) := by decide +kernel
theorem dX9_ofTwo_75 : decode cX9_ofTwo 75 = .ok (.ifCond .eq 11, 3) := by decide +kernel
theorem dX9_ofTwo_78 : decode cX9_ofTwo 78 = .ok (.iload_n 2, 1) := by decide +kernel
theorem dX9_ofTwo_79 : decode cX9_ofTwo 79 = .ok (.ifCond .eq 7, 3) := by decide +kernel
theorem dX9_ofTwo_82 : decode cX9_ofTwo 82 = .ok (.iconst 1, 1) := by decide +kernel
theorem dX9_ofTwo_83 : decode cX9_ofTwo 83 = .ok (.goto 4, 3) := by decide +kernel
theorem dX9_ofTwo_86 : decode cX9_ofTwo 86 = .ok (.iconst 0, 1) := by decide +kernel
theorem dX9_ofTwo_87 : decode cX9_ofTwo 87 = .ok (.ireturn, 1) := by decide +kernel
theorem dX9_ofTwo_88 : decode cX9_ofTwo 88 = .ok (.iload_n 1, 1) := by decide +kernel
theorem dX9_ofTwo_89 : decode cX9_ofTwo 89 = .ok (.ifCond .ne 7, 3) := by decide +kernel
theorem dX9_ofTwo_92 : decode cX9_ofTwo 92 = .ok (.iload_n 2, 1) := by decide +kernel
theorem dX9_ofTwo_93 : decode cX9_ofTwo 93 = .ok (.ifCond .eq 7, 3) := by decide +kernel
theorem dX9_ofTwo_96 : decode cX9_ofTwo 96 = .ok (.iconst 1, 1) := by decide +kernel
theorem dX9_ofTwo_97 : decode cX9_ofTwo 97 = .ok (.goto 4, 3) := by decide +kernel
theorem dX9_ofTwo_100 : decode cX9_ofTwo 100 = .ok (.iconst 0, 1) := by decide +kernel
theorem dX9_ofTwo_101 : decode cX9_ofTwo 101 = .ok (.ireturn, 1) := by decide +kernel
theorem dX10_init_0 : decode cX10_init 0 = .ok (.aload_n 0, 1) := by decide +kernel
theorem dX10_init_1 : decode cX10_init 1 = .ok (.invokespecial 3, 3) := by decide +kernel
theorem dX10_init_4 : decode cX10_init 4 = .ok (.aload_n 0, 1) := by decide +kernel
theorem dX10_init_5 : decode cX10_init 5 = .ok (.bipush 6, 2) := by decide +kernel
theorem dX10_init_7 : decode cX10_init 7 = .ok (.newarray .int, 2) := by decide +kernel
theorem dX10_init_9 : decode cX10_init 9 = .ok (.putfield 9, 3) := by decide +kernel
theorem dX10_init_12 : decode cX10_init 12 = .ok (.aload_n 0, 1) := by decide +kernel
theorem dX10_init_13 : decode cX10_init 13 = .ok (.bipush 6, 2) := by decide +kernel
theorem dX10_init_15 : decode cX10_init 15 = .ok (.newarray .int, 2) := by decide +kernel
theorem dX10_init_17 : decode cX10_init 17 = .ok (.putfield 15, 3) := by decide +kernel
theorem dX10_init_20 : decode cX10_init 20 = .ok (.aload_n 0, 1) := by decide +kernel
theorem dX10_init_21 : decode cX10_init 21 = .ok (.bipush 6, 2) := by decide +kernel
theorem dX10_init_23 : decode cX10_init 23 = .ok (.newarray .int, 2) := by decide +kernel
theorem dX10_init_25 : decode cX10_init 25 = .ok (.putfield 18, 3) := by decide +kernel
theorem dX10_init_28 : decode cX10_init 28 = .ok (.aload_n 0, 1) := by decide +kernel
theorem dX10_init_29 : decode cX10_init 29 = .ok (.bipush 9, 2) := by decide +kernel
theorem dX10_init_31 : decode cX10_init 31 = .ok (.newarray .int, 2) := by decide +kernel
theorem dX10_init_33 : decode cX10_init 33 = .ok (.putfield 21, 3) := by decide +kernel
theorem dX10_init_36 : decode cX10_init 36 = .ok (.aload_n 0, 1) := by decide +kernel
theorem dX10_init_37 : decode cX10_init 37 = .ok (.bipush 6, 2) := by decide +kernel
theorem dX10_init_39 : decode cX10_init 39 = .ok (.newarray .int, 2) := by decide +kernel
theorem dX10_init_41 : decode cX10_init 41 = .ok (.putfield 24, 3) := by decide +kernel
theorem dX10_init_44 : decode cX10_init 44 = .ok (.aload_n 0, 1) := by decide +kernel
theorem dX10_init_45 : decode cX10_init 45 = .ok (.bipush 9, 2) := by decide +kernel
theorem dX10_init_47 : decode cX10_init 47 = .ok (.newarray .int, 2) := by decide +kernel
theorem dX10_init_49 : decode cX10_init 49 = .ok (.putfield 27, 3) := by decide +kernel
theorem dX10_init_52 : decode cX10_init 52 = .ok (.return_, 1) := by decide +kernel
theorem dX10_has_0 : decode cX10_has 0 = .ok (.iload_n 1, 1) := by decide +kernel
theorem dX10_has_1 : decode cX10_has 1 = .ok (.iconst 0, 1) := by decide +kernel
theorem dX10_has_2 : decode cX10_has 2 = .ok (.aload_n 0, 1) := by decide +kernel
theorem dX10_has_3 : decode cX10_has 3 = .ok (.getfield 30, 3) := by decide +kernel
theorem dX10_has_6 : decode cX10_has 6 = .ok (.iconst 1, 1) := by decide +kernel
theorem dX10_has_7 : decode cX10_has 7 = .ok (.isub, 1) := by decide +kernel
theorem dX10_has_8 : decode cX10_has 8 = .ok (.invokestatic 34, 3) := by decide +kernel
theorem dX10_has_11 : decode cX10_has 11 = .ok (.ireturn, 1) := by decide +kernel
theorem dX10_addHank_0 : decode cX10_addHank 0 = .ok (.iload_n 1, 1) := by decide +kernel
theorem dX10_addHank_1 : decode cX10_addHank 1 = .ok (.iconst 0, 1) := by decide +kernel
theorem dX10_addHank_2 : decode cX10_addHank 2 = .ok (.bipush 99, 2) := by decide +kernel
theorem dX10_addHank_4 : decode cX10_addHank 4 = .ok (.invokestatic 34, 3) := by decide +kernel
theorem dX10_addHank_7 : decode cX10_addHank 7 = .ok (.ifCond .eq 23, 3) := by decide +kernel
theorem dX10_addHank_10 : decode cX10_addHank 10 = .ok (.iload_n 2, 1) := by decide +kernel
theorem dX10_addHank_11 : decode cX10_addHank 11 = .ok (.iconst 0, 1) := by decide +kernel
theorem dX10_addHank_12 : decode cX10_addHank 12 = .ok (.bipush 99, 2) := by decide +kernel
theorem dX10_addHank_14 : decode cX10_addHank 14 = .ok (.invokestatic 34, 3) := by decide +kernel
theorem dX10_addHank_17 : decode cX10_addHank 17 = .ok (.ifCond .eq 13, 3) := by decide +kernel
theorem dX10_addHank_20 : decode cX10_addHank 20 = .ok (.iload_n 3, 1) := by decide +kernel
theorem dX10_addHank_21 : decode cX10_addHank 21 = .ok (.iconst 0, 1) := by decide +kernel
theorem dX10_addHank_22 : decode cX10_addHank 22 = .ok (.bipush 8, 2) := by decide +kernel
theorem dX10_addHank_24 : decode cX10_addHank 24 = .ok (.invokestatic 34, 3) := by decide +kernel
theorem dX10_addHank_27 : decode cX10_addHank 27 = .ok (.ifCond .ne 6, 3) := by decide +kernel
theorem dX10_addHank_30 : decode cX10_addHank 30 = .ok (.bipush (-2), 2) := by decide +kernel
theorem dX10_addHank_32 : decode cX10_addHank 32 = .ok (.ireturn, 1) := by decide +kernel
theorem dX10_addHank_33 : decode cX10_addHank 33 = .ok (.aload_n 0, 1) := by decide +kernel
theorem dX10_addHank_34 : decode cX10_addHank 34 = .ok (.getfield 30, 3) := by decide +kernel
theorem dX10_addHank_37 : decode cX10_addHank 37 = .ok (.bipush 6, 2) := by decide +kernel
theorem dX10_addHank_39 : decode cX10_addHank 39 = .ok (.if_icmp .lt 6, 3) := by decide +kernel
theorem dX10_addHank_42 : decode cX10_addHank 42 = .ok (.bipush (-4), 2) := by decide +kernel
theorem dX10_addHank_44 : decode cX10_addHank 44 = .ok (.ireturn, 1) := by decide +kernel
theorem dX10_addHank_45 : decode cX10_addHank 45 = .ok (.aload_n 0, 1) := by decide +kernel
theorem dX10_addHank_46 : decode cX10_addHank 46 = .ok (.getfield 9, 3) := by decide +kernel
theorem dX10_addHank_49 : decode cX10_addHank 49 = .ok (.aload_n 0, 1) := by decide +kernel
theorem dX10_addHank_50 : decode cX10_addHank 50 = .ok (.getfield 30, 3) := by decide +kernel
theorem dX10_addHank_53 : decode cX10_addHank 53 = .ok (.iload_n 1, 1) := by decide +kernel
theorem dX10_addHank_54 : decode cX10_addHank 54 = .ok (.iastore, 1) := by decide +kernel
theorem dX10_addHank_55 : decode cX10_addHank 55 = .ok (.aload_n 0, 1) := by decide +kernel
theorem dX10_addHank_56 : decode cX10_addHank 56 = .ok (.getfield 15, 3) := by decide +kernel
theorem dX10_addHank_59 : decode cX10_addHank 59 = .ok (.aload_n 0, 1) := by decide +kernel
theorem dX10_addHank_60 : decode cX10_addHank 60 = .ok (.getfield 30, 3) := by decide +kernel
theorem dX10_addHank_63 : decode cX10_addHank 63 = .ok (.iload_n 2, 1) := by decide +kernel
theorem dX10_addHank_64 : decode cX10_addHank 64 = .ok (.iastore, 1) := by decide +kernel
theorem dX10_addHank_65 : decode cX10_addHank 65 = .ok (.aload_n 0, 1) := by decide +kernel
theorem dX10_addHank_66 : decode cX10_addHank 66 = .ok (.getfield 18, 3) := by decide +kernel
theorem dX10_addHank_69 : decode cX10_addHank 69 = .ok (.aload_n 0, 1) := by decide +kernel
theorem dX10_addHank_70 : decode cX10_addHank 70 = .ok (.getfield 30, 3) := by decide +kernel
theorem dX10_addHank_73 : decode cX10_addHank 73 = .ok (.iload_n 3, 1) := by decide +kernel
theorem dX10_addHank_74 : decode cX10_addHank 74 = .ok (.iastore, 1) := by decide +kernel
theorem dX10_addHank_75 : decode cX10_addHank 75 = .ok (.aload_n 0, 1) := by decide +kernel
theorem dX10_addHank_76 : decode cX10_addHank 76 = .ok (.dup, 1) := by decide +kernel
theorem dX10_addHank_77 : decode cX10_addHank 77 = .ok (.getfield 30, 3) := by decide +kernel
theorem dX10_addHank_80 : decode cX10_addHank 80 = .ok (.iconst 1, 1) := by decide +kernel
theorem dX10_addHank_81 : decode cX10_addHank 81 = .ok (.iadd, 1) := by decide +kernel
theorem dX10_addHank_82 : decode cX10_addHank 82 = .ok (.putfield 30, 3) := by decide +kernel
theorem dX10_addHank_85 : decode cX10_addHank 85 = .ok (.aload_n 0, 1) := by decide +kernel
theorem dX10_addHank_86 : decode cX10_addHank 86 = .ok (.getfield 30, 3) := by decide +kernel
theorem dX10_addHank_89 : decode cX10_addHank 89 = .ok (.iconst 1, 1) := by decide +kernel
theorem dX10_addHank_90 : decode cX10_addHank 90 = .ok (.isub, 1) := by decide +kernel
theorem dX10_addHank_91 : decode cX10_addHank 91 = .ok (.ireturn, 1) := by decide +kernel
theorem dX10_fadedShade_0 : decode cX10_fadedShade 0 = .ok (.aload_n 0, 1) := by decide +kernel
theorem dX10_fadedShade_1 : decode cX10_fadedShade 1 = .ok (.getfield 15, 3) := by decide +kernel
theorem dX10_fadedShade_4 : decode cX10_fadedShade 4 = .ok (.iload_n 1, 1) := by decide +kernel
theorem dX10_fadedShade_5 : decode cX10_fadedShade 5 = .ok (.iaload, 1) := by decide +kernel
theorem dX10_fadedShade_6 : decode cX10_fadedShade 6 = .ok (.aload_n 0, 1) := by decide +kernel
theorem dX10_fadedShade_7 : decode cX10_fadedShade 7 = .ok (.getfield 21, 3) := by decide +kernel
theorem dX10_fadedShade_10 : decode cX10_fadedShade 10 = .ok (.aload_n 0, 1) := by decide +kernel
theorem dX10_fadedShade_11 : decode cX10_fadedShade 11 = .ok (.getfield 18, 3) := by decide +kernel
theorem dX10_fadedShade_14 : decode cX10_fadedShade 14 = .ok (.iload_n 1, 1) := by decide +kernel
theorem dX10_fadedShade_15 : decode cX10_fadedShade 15 = .ok (.iaload, 1) := by decide +kernel
theorem dX10_fadedShade_16 : decode cX10_fadedShade 16 = .ok (.iaload, 1) := by decide +kernel
theorem dX10_fadedShade_17 : decode cX10_fadedShade 17 = .ok (.isub, 1) := by decide +kernel
theorem dX10_fadedShade_18 : decode cX10_fadedShade 18 = .ok (.iconst 0, 1) := by decide +kernel
theorem dX10_fadedShade_19 : decode cX10_fadedShade 19 = .ok (.invokestatic 38, 3) := by decide +kernel
theorem dX10_fadedShade_22 : decode cX10_fadedShade 22 = .ok (.ireturn, 1) := by decide +kernel
theorem dX10_ouncesInAll_0 : decode cX10_ouncesInAll 0 = .ok (.iconst 0, 1) := by decide +kernel
theorem dX10_ouncesInAll_1 : decode cX10_ouncesInAll 1 = .ok (.istore_n 1, 1) := by decide +kernel
theorem dX10_ouncesInAll_2 : decode cX10_ouncesInAll 2 = .ok (.iconst 0, 1) := by decide +kernel
theorem dX10_ouncesInAll_3 : decode cX10_ouncesInAll 3 = .ok (.istore_n 2, 1) := by decide +kernel
theorem dX10_ouncesInAll_4 : decode cX10_ouncesInAll 4 = .ok (.iload_n 2, 1) := by decide +kernel
theorem dX10_ouncesInAll_5 : decode cX10_ouncesInAll 5 = .ok (.aload_n 0, 1) := by decide +kernel
theorem dX10_ouncesInAll_6 : decode cX10_ouncesInAll 6 = .ok (.getfield 30, 3) := by decide +kernel
theorem dX10_ouncesInAll_9 : decode cX10_ouncesInAll 9 = .ok (.if_icmp .ge 18, 3) := by decide +kernel
theorem dX10_ouncesInAll_12 : decode cX10_ouncesInAll 12 = .ok (.iload_n 1, 1) := by decide +kernel
theorem dX10_ouncesInAll_13 : decode cX10_ouncesInAll 13 = .ok (.aload_n 0, 1) := by decide +kernel
theorem dX10_ouncesInAll_14 : decode cX10_ouncesInAll 14 = .ok (.getfield 9, 3) := by decide +kernel
theorem dX10_ouncesInAll_17 : decode cX10_ouncesInAll 17 = .ok (.iload_n 2, 1) := by decide +kernel
theorem dX10_ouncesInAll_18 : decode cX10_ouncesInAll 18 = .ok (.iaload, 1) := by decide +kernel
theorem dX10_ouncesInAll_19 : decode cX10_ouncesInAll 19 = .ok (.iadd, 1) := by decide +kernel
theorem dX10_ouncesInAll_20 : decode cX10_ouncesInAll 20 = .ok (.istore_n 1, 1) := by decide +kernel
theorem dX10_ouncesInAll_21 : decode cX10_ouncesInAll 21 = .ok (.iinc 2 1, 3) := by decide +kernel
theorem dX10_ouncesInAll_24 : decode cX10_ouncesInAll 24 = .ok (.goto (-20), 3) := by decide +kernel
theorem dX10_ouncesInAll_27 : decode cX10_ouncesInAll 27 = .ok (.iload_n 1, 1) := by decide +kernel
theorem dX10_ouncesInAll_28 : decode cX10_ouncesInAll 28 = .ok (.ireturn, 1) := by decide +kernel
theorem dX10_hanksInBits_0 : decode cX10_hanksInBits 0 = .ok (.iconst 0, 1) := by decide +kernel
theorem dX10_hanksInBits_1 : decode cX10_hanksInBits 1 = .ok (.istore_n 1, 1) := by decide +kernel
theorem dX10_hanksInBits_2 : decode cX10_hanksInBits 2 = .ok (.iconst 0, 1) := by decide +kernel
theorem dX10_hanksInBits_3 : decode cX10_hanksInBits 3 = .ok (.istore_n 2, 1) := by decide +kernel
theorem dX10_hanksInBits_4 : decode cX10_hanksInBits 4 = .ok (.iload_n 2, 1) := by decide +kernel
theorem dX10_hanksInBits_5 : decode cX10_hanksInBits 5 = .ok (.aload_n 0, 1) := by decide +kernel
theorem dX10_hanksInBits_6 : decode cX10_hanksInBits 6 = .ok (.getfield 30, 3) := by decide +kernel
theorem dX10_hanksInBits_9 : decode cX10_hanksInBits 9 = .ok (.if_icmp .ge 29, 3) := by decide +kernel
theorem dX10_hanksInBits_12 : decode cX10_hanksInBits 12 = .ok (.aload_n 0, 1) := by decide +kernel
theorem dX10_hanksInBits_13 : decode cX10_hanksInBits 13 = .ok (.getfield 9, 3) := by decide +kernel
theorem dX10_hanksInBits_16 : decode cX10_hanksInBits 16 = .ok (.iload_n 2, 1) := by decide +kernel
theorem dX10_hanksInBits_17 : decode cX10_hanksInBits 17 = .ok (.iaload, 1) := by decide +kernel
theorem dX10_hanksInBits_18 : decode cX10_hanksInBits 18 = .ok (.iconst 1, 1) := by decide +kernel
theorem dX10_hanksInBits_19 : decode cX10_hanksInBits 19 = .ok (.iconst 2, 1) := by decide +kernel
theorem dX10_hanksInBits_20 : decode cX10_hanksInBits 20 = .ok (.invokestatic 34, 3) := by decide +kernel
theorem dX10_hanksInBits_23 : decode cX10_hanksInBits 23 = .ok (.ifCond .eq 9, 3) := by decide +kernel
theorem dX10_hanksInBits_26 : decode cX10_hanksInBits 26 = .ok (.iload_n 1, 1) := by decide +kernel
theorem dX10_hanksInBits_27 : decode cX10_hanksInBits 27 = .ok (.iconst 1, 1) := by decide +kernel
theorem dX10_hanksInBits_28 : decode cX10_hanksInBits 28 = .ok (.iload_n 2, 1) := by decide +kernel
theorem dX10_hanksInBits_29 : decode cX10_hanksInBits 29 = .ok (.ishl, 1) := by decide +kernel
theorem dX10_hanksInBits_30 : decode cX10_hanksInBits 30 = .ok (.ior, 1) := by decide +kernel
theorem dX10_hanksInBits_31 : decode cX10_hanksInBits 31 = .ok (.istore_n 1, 1) := by decide +kernel
theorem dX10_hanksInBits_32 : decode cX10_hanksInBits 32 = .ok (.iinc 2 1, 3) := by decide +kernel
theorem dX10_hanksInBits_35 : decode cX10_hanksInBits 35 = .ok (.goto (-31), 3) := by decide +kernel
theorem dX10_hanksInBits_38 : decode cX10_hanksInBits 38 = .ok (.iload_n 1, 1) := by decide +kernel
theorem dX10_hanksInBits_39 : decode cX10_hanksInBits 39 = .ok (.ireturn, 1) := by decide +kernel
theorem dX10_keepImage_0 : decode cX10_keepImage 0 = .ok (.aload_n 0, 1) := by decide +kernel
theorem dX10_keepImage_1 : decode cX10_keepImage 1 = .ok (.aload_n 0, 1) := by decide +kernel
theorem dX10_keepImage_2 : decode cX10_keepImage 2 = .ok (.getfield 30, 3) := by decide +kernel
theorem dX10_keepImage_5 : decode cX10_keepImage 5 = .ok (.putfield 44, 3) := by decide +kernel
theorem dX10_keepImage_8 : decode cX10_keepImage 8 = .ok (.aload_n 0, 1) := by decide +kernel
theorem dX10_keepImage_9 : decode cX10_keepImage 9 = .ok (.getfield 9, 3) := by decide +kernel
theorem dX10_keepImage_12 : decode cX10_keepImage 12 = .ok (.iconst 0, 1) := by decide +kernel
theorem dX10_keepImage_13 : decode cX10_keepImage 13 = .ok (.aload_n 0, 1) := by decide +kernel
theorem dX10_keepImage_14 : decode cX10_keepImage 14 = .ok (.getfield 24, 3) := by decide +kernel
theorem dX10_keepImage_17 : decode cX10_keepImage 17 = .ok (.iconst 0, 1) := by decide +kernel
theorem dX10_keepImage_18 : decode cX10_keepImage 18 = .ok (.bipush 6, 2) := by decide +kernel
theorem dX10_keepImage_20 : decode cX10_keepImage 20 = .ok (.invokestatic 47, 3) := by decide +kernel
theorem dX10_keepImage_23 : decode cX10_keepImage 23 = .ok (.aload_n 0, 1) := by decide +kernel
theorem dX10_keepImage_24 : decode cX10_keepImage 24 = .ok (.getfield 21, 3) := by decide +kernel
theorem dX10_keepImage_27 : decode cX10_keepImage 27 = .ok (.iconst 0, 1) := by decide +kernel
theorem dX10_keepImage_28 : decode cX10_keepImage 28 = .ok (.aload_n 0, 1) := by decide +kernel
theorem dX10_keepImage_29 : decode cX10_keepImage 29 = .ok (.getfield 27, 3) := by decide +kernel
theorem dX10_keepImage_32 : decode cX10_keepImage 32 = .ok (.iconst 0, 1) := by decide +kernel
theorem dX10_keepImage_33 : decode cX10_keepImage 33 = .ok (.bipush 9, 2) := by decide +kernel
theorem dX10_keepImage_35 : decode cX10_keepImage 35 = .ok (.invokestatic 47, 3) := by decide +kernel
theorem dX10_keepImage_38 : decode cX10_keepImage 38 = .ok (.return_, 1) := by decide +kernel
theorem dX10_layBack_0 : decode cX10_layBack 0 = .ok (.aload_n 0, 1) := by decide +kernel
theorem dX10_layBack_1 : decode cX10_layBack 1 = .ok (.getfield 24, 3) := by decide +kernel
theorem dX10_layBack_4 : decode cX10_layBack 4 = .ok (.iconst 0, 1) := by decide +kernel
theorem dX10_layBack_5 : decode cX10_layBack 5 = .ok (.aload_n 0, 1) := by decide +kernel
theorem dX10_layBack_6 : decode cX10_layBack 6 = .ok (.getfield 9, 3) := by decide +kernel
theorem dX10_layBack_9 : decode cX10_layBack 9 = .ok (.iconst 0, 1) := by decide +kernel
theorem dX10_layBack_10 : decode cX10_layBack 10 = .ok (.aload_n 0, 1) := by decide +kernel
theorem dX10_layBack_11 : decode cX10_layBack 11 = .ok (.getfield 44, 3) := by decide +kernel
theorem dX10_layBack_14 : decode cX10_layBack 14 = .ok (.invokestatic 47, 3) := by decide +kernel
theorem dX10_layBack_17 : decode cX10_layBack 17 = .ok (.aload_n 0, 1) := by decide +kernel
theorem dX10_layBack_18 : decode cX10_layBack 18 = .ok (.getfield 27, 3) := by decide +kernel
theorem dX10_layBack_21 : decode cX10_layBack 21 = .ok (.iconst 0, 1) := by decide +kernel
theorem dX10_layBack_22 : decode cX10_layBack 22 = .ok (.aload_n 0, 1) := by decide +kernel
theorem dX10_layBack_23 : decode cX10_layBack 23 = .ok (.getfield 21, 3) := by decide +kernel
theorem dX10_layBack_26 : decode cX10_layBack 26 = .ok (.iconst 0, 1) := by decide +kernel
theorem dX10_layBack_27 : decode cX10_layBack 27 = .ok (.bipush 9, 2) := by decide +kernel
theorem dX10_layBack_29 : decode cX10_layBack 29 = .ok (.invokestatic 47, 3) := by decide +kernel
theorem dX10_layBack_32 : decode cX10_layBack 32 = .ok (.return_, 1) := by decide +kernel
theorem dX11_init_0 : decode cX11_init 0 = .ok (.aload_n 0, 1) := by decide +kernel
theorem dX11_init_1 : decode cX11_init 1 = .ok (.invokespecial 1, 3) := by decide +kernel
theorem dX11_init_4 : decode cX11_init 4 = .ok (.aload_n 0, 1) := by decide +kernel
theorem dX11_init_5 : decode cX11_init 5 = .ok (.new 7, 3) := by decide +kernel
theorem dX11_init_8 : decode cX11_init 8 = .ok (.dup, 1) := by decide +kernel
theorem dX11_init_9 : decode cX11_init 9 = .ok (.invokespecial 9, 3) := by decide +kernel
theorem dX11_init_12 : decode cX11_init 12 = .ok (.putfield 10, 3) := by decide +kernel
theorem dX11_init_15 : decode cX11_init 15 = .ok (.aload_n 0, 1) := by decide +kernel
theorem dX11_init_16 : decode cX11_init 16 = .ok (.bipush 8, 2) := by decide +kernel
theorem dX11_init_18 : decode cX11_init 18 = .ok (.anewarray 16, 3) := by decide +kernel
theorem dX11_init_21 : decode cX11_init 21 = .ok (.putfield 18, 3) := by decide +kernel
theorem dX11_init_24 : decode cX11_init 24 = .ok (.aload_n 0, 1) := by decide +kernel
theorem dX11_init_25 : decode cX11_init 25 = .ok (.new 22, 3) := by decide +kernel
theorem dX11_init_28 : decode cX11_init 28 = .ok (.dup, 1) := by decide +kernel
theorem dX11_init_29 : decode cX11_init 29 = .ok (.invokespecial 24, 3) := by decide +kernel
theorem dX11_init_32 : decode cX11_init 32 = .ok (.putfield 25, 3) := by decide +kernel
theorem dX11_init_35 : decode cX11_init 35 = .ok (.aload_n 0, 1) := by decide +kernel
theorem dX11_init_36 : decode cX11_init 36 = .ok (.bipush 6, 2) := by decide +kernel
theorem dX11_init_38 : decode cX11_init 38 = .ok (.anewarray 29, 3) := by decide +kernel
theorem dX11_init_41 : decode cX11_init 41 = .ok (.putfield 31, 3) := by decide +kernel
theorem dX11_init_44 : decode cX11_init 44 = .ok (.aload_n 0, 1) := by decide +kernel
theorem dX11_init_45 : decode cX11_init 45 = .ok (.new 35, 3) := by decide +kernel
theorem dX11_init_48 : decode cX11_init 48 = .ok (.dup, 1) := by decide +kernel
theorem dX11_init_49 : decode cX11_init 49 = .ok (.invokespecial 37, 3) := by decide +kernel
theorem dX11_init_52 : decode cX11_init 52 = .ok (.putfield 38, 3) := by decide +kernel
theorem dX11_init_55 : decode cX11_init 55 = .ok (.aload_n 0, 1) := by decide +kernel
theorem dX11_init_56 : decode cX11_init 56 = .ok (.new 42, 3) := by decide +kernel
theorem dX11_init_59 : decode cX11_init 59 = .ok (.dup, 1) := by decide +kernel
theorem dX11_init_60 : decode cX11_init 60 = .ok (.invokespecial 44, 3) := by decide +kernel
theorem dX11_init_63 : decode cX11_init 63 = .ok (.putfield 45, 3) := by decide +kernel
theorem dX11_init_66 : decode cX11_init 66 = .ok (.aload_n 0, 1) := by decide +kernel
theorem dX11_init_67 : decode cX11_init 67 = .ok (.iconst 4, 1) := by decide +kernel
theorem dX11_init_68 : decode cX11_init 68 = .ok (.bipush 40, 2) := by decide +kernel
theorem dX11_init_70 : decode cX11_init 70 = .ok (.multianewarray 49 2, 4) := by decide +kernel
theorem dX11_init_74 : decode cX11_init 74 = .ok (.putfield 51, 3) := by decide +kernel
theorem dX11_init_77 : decode cX11_init 77 = .ok (.aload_n 0, 1) := by decide +kernel
theorem dX11_init_78 : decode cX11_init 78 = .ok (.iconst 4, 1) := by decide +kernel
theorem dX11_init_79 : decode cX11_init 79 = .ok (.newarray .int, 2) := by decide +kernel
theorem dX11_init_81 : decode cX11_init 81 = .ok (.dup, 1) := by decide +kernel
theorem dX11_init_82 : decode cX11_init 82 = .ok (.iconst 0, 1) := by decide +kernel
theorem dX11_init_83 : decode cX11_init 83 = .ok (.iconst (-1), 1) := by decide +kernel
theorem dX11_init_84 : decode cX11_init 84 = .ok (.iastore, 1) := by decide +kernel
theorem dX11_init_85 : decode cX11_init 85 = .ok (.dup, 1) := by decide +kernel
theorem dX11_init_86 : decode cX11_init 86 = .ok (.iconst 1, 1) := by decide +kernel
theorem dX11_init_87 : decode cX11_init 87 = .ok (.iconst (-1), 1) := by decide +kernel
theorem dX11_init_88 : decode cX11_init 88 = .ok (.iastore, 1) := by decide +kernel
theorem dX11_init_89 : decode cX11_init 89 = .ok (.dup, 1) := by decide +kernel
theorem dX11_init_90 : decode cX11_init 90 = .ok (.iconst 2, 1) := by decide +kernel
theorem dX11_init_91 : decode cX11_init 91 = .ok (.iconst (-1), 1) := by decide +kernel
theorem dX11_init_92 : decode cX11_init 92 = .ok (.iastore, 1) := by decide +kernel
theorem dX11_init_93 : decode cX11_init 93 = .ok (.dup, 1) := by decide +kernel
theorem dX11_init_94 : decode cX11_init 94 = .ok (.iconst 3, 1) := by decide +kernel
theorem dX11_init_95 : decode cX11_init 95 = .ok (.iconst (-1), 1) := by decide +kernel
theorem dX11_init_96 : decode cX11_init 96 = .ok (.iastore, 1) := by decide +kernel
theorem dX11_init_97 : decode cX11_init 97 = .ok (.putfield 54, 3) := by decide +kernel
theorem dX11_init_100 : decode cX11_init 100 = .ok (.aload_n 0, 1) := by decide +kernel
theorem dX11_init_101 : decode cX11_init 101 = .ok (.iconst 4, 1) := by decide +kernel
theorem dX11_init_102 : decode cX11_init 102 = .ok (.newarray .int, 2) := by decide +kernel
theorem dX11_init_104 : decode cX11_init 104 = .ok (.putfield 58, 3) := by decide +kernel
theorem dX11_init_107 : decode cX11_init 107 = .ok (.aload_n 0, 1) := by decide +kernel
theorem dX11_init_108 : decode cX11_init 108 = .ok (.invokestatic 61, 3) := by decide +kernel
theorem dX11_init_111 : decode cX11_init 111 = .ok (.putfield 65, 3) := by decide +kernel
theorem dX11_init_114 : decode cX11_init 114 = .ok (.aload_n 0, 1) := by decide +kernel
theorem dX11_init_115 : decode cX11_init 115 = .ok (.getfield 31, 3) := by decide +kernel
theorem dX11_init_118 : decode cX11_init 118 = .ok (.iconst 0, 1) := by decide +kernel
theorem dX11_init_119 : decode cX11_init 119 = .ok (.aload_n 0, 1) := by decide +kernel
theorem dX11_init_120 : decode cX11_init 120 = .ok (.getfield 65, 3) := by decide +kernel
theorem dX11_init_123 : decode cX11_init 123 = .ok (.aastore, 1) := by decide +kernel
theorem dX11_init_124 : decode cX11_init 124 = .ok (.aload_n 0, 1) := by decide +kernel
theorem dX11_init_125 : decode cX11_init 125 = .ok (.iconst 1, 1) := by decide +kernel
theorem dX11_init_126 : decode cX11_init 126 = .ok (.putfield 69, 3) := by decide +kernel
theorem dX11_init_129 : decode cX11_init 129 = .ok (.return_, 1) := by decide +kernel
theorem dX11_hank_0 : decode cX11_hank 0 = .ok (.aload_n 0, 1) := by decide +kernel
theorem dX11_hank_1 : decode cX11_hank 1 = .ok (.getfield 10, 3) := by decide +kernel
theorem dX11_hank_4 : decode cX11_hank 4 = .ok (.iload_n 1, 1) := by decide +kernel
theorem dX11_hank_5 : decode cX11_hank 5 = .ok (.iload_n 2, 1) := by decide +kernel
theorem dX11_hank_6 : decode cX11_hank 6 = .ok (.iload_n 3, 1) := by decide +kernel
theorem dX11_hank_7 : decode cX11_hank 7 = .ok (.invokevirtual 73, 3) := by decide +kernel
theorem dX11_hank_10 : decode cX11_hank 10 = .ok (.ireturn, 1) := by decide +kernel
theorem dX11_ounces_0 : decode cX11_ounces 0 = .ok (.aload_n 0, 1) := by decide +kernel
theorem dX11_ounces_1 : decode cX11_ounces 1 = .ok (.getfield 10, 3) := by decide +kernel
theorem dX11_ounces_4 : decode cX11_ounces 4 = .ok (.iload_n 1, 1) := by decide +kernel
theorem dX11_ounces_5 : decode cX11_ounces 5 = .ok (.invokevirtual 77, 3) := by decide +kernel
theorem dX11_ounces_8 : decode cX11_ounces 8 = .ok (.ifCond .eq 13, 3) := by decide +kernel
theorem dX11_ounces_11 : decode cX11_ounces 11 = .ok (.iload_n 2, 1) := by decide +kernel
theorem dX11_ounces_12 : decode cX11_ounces 12 = .ok (.iconst 0, 1) := by decide +kernel
theorem dX11_ounces_13 : decode cX11_ounces 13 = .ok (.bipush 99, 2) := by decide +kernel
theorem dX11_ounces_15 : decode cX11_ounces 15 = .ok (.invokestatic 81, 3) := by decide +kernel
theorem dX11_ounces_18 : decode cX11_ounces 18 = .ok (.ifCond .ne 6, 3) := by decide +kernel
theorem dX11_ounces_21 : decode cX11_ounces 21 = .ok (.bipush (-2), 2) := by decide +kernel
theorem dX11_ounces_23 : decode cX11_ounces 23 = .ok (.ireturn, 1) := by decide +kernel
theorem dX11_ounces_24 : decode cX11_ounces 24 = .ok (.aload_n 0, 1) := by decide +kernel
theorem dX11_ounces_25 : decode cX11_ounces 25 = .ok (.getfield 10, 3) := by decide +kernel
theorem dX11_ounces_28 : decode cX11_ounces 28 = .ok (.getfield 85, 3) := by decide +kernel
theorem dX11_ounces_31 : decode cX11_ounces 31 = .ok (.iload_n 1, 1) := by decide +kernel
theorem dX11_ounces_32 : decode cX11_ounces 32 = .ok (.iaload, 1) := by decide +kernel
theorem dX11_ounces_33 : decode cX11_ounces 33 = .ok (.istore_n 3, 1) := by decide +kernel
theorem dX11_ounces_34 : decode cX11_ounces 34 = .ok (.aload_n 0, 1) := by decide +kernel
theorem dX11_ounces_35 : decode cX11_ounces 35 = .ok (.getfield 10, 3) := by decide +kernel
theorem dX11_ounces_38 : decode cX11_ounces 38 = .ok (.getfield 85, 3) := by decide +kernel
theorem dX11_ounces_41 : decode cX11_ounces 41 = .ok (.iload_n 1, 1) := by decide +kernel
theorem dX11_ounces_42 : decode cX11_ounces 42 = .ok (.iload_n 2, 1) := by decide +kernel
theorem dX11_ounces_43 : decode cX11_ounces 43 = .ok (.iastore, 1) := by decide +kernel
theorem dX11_ounces_44 : decode cX11_ounces 44 = .ok (.iload_n 3, 1) := by decide +kernel
theorem dX11_ounces_45 : decode cX11_ounces 45 = .ok (.ireturn, 1) := by decide +kernel
theorem dX11_fade_0 : decode cX11_fade 0 = .ok (.iload_n 1, 1) := by decide +kernel
theorem dX11_fade_1 : decode cX11_fade 1 = .ok (.iconst 0, 1) := by decide +kernel
theorem dX11_fade_2 : decode cX11_fade 2 = .ok (.bipush 8, 2) := by decide +kernel
theorem dX11_fade_4 : decode cX11_fade 4 = .ok (.invokestatic 81, 3) := by decide +kernel
theorem dX11_fade_7 : decode cX11_fade 7 = .ok (.ifCond .eq 13, 3) := by decide +kernel
theorem dX11_fade_10 : decode cX11_fade 10 = .ok (.iload_n 2, 1) := by decide +kernel
theorem dX11_fade_11 : decode cX11_fade 11 = .ok (.iconst 0, 1) := by decide +kernel
theorem dX11_fade_12 : decode cX11_fade 12 = .ok (.bipush 50, 2) := by decide +kernel
theorem dX11_fade_14 : decode cX11_fade 14 = .ok (.invokestatic 81, 3) := by decide +kernel
theorem dX11_fade_17 : decode cX11_fade 17 = .ok (.ifCond .ne 6, 3) := by decide +kernel
theorem dX11_fade_20 : decode cX11_fade 20 = .ok (.bipush (-2), 2) := by decide +kernel
theorem dX11_fade_22 : decode cX11_fade 22 = .ok (.ireturn, 1) := by decide +kernel
theorem dX11_fade_23 : decode cX11_fade 23 = .ok (.aload_n 0, 1) := by decide +kernel
theorem dX11_fade_24 : decode cX11_fade 24 = .ok (.getfield 10, 3) := by decide +kernel
theorem dX11_fade_27 : decode cX11_fade 27 = .ok (.getfield 88, 3) := by decide +kernel
theorem dX11_fade_30 : decode cX11_fade 30 = .ok (.iload_n 1, 1) := by decide +kernel
theorem dX11_fade_31 : decode cX11_fade 31 = .ok (.iaload, 1) := by decide +kernel
theorem dX11_fade_32 : decode cX11_fade 32 = .ok (.istore_n 3, 1) := by decide +kernel
theorem dX11_fade_33 : decode cX11_fade 33 = .ok (.aload_n 0, 1) := by decide +kernel
theorem dX11_fade_34 : decode cX11_fade 34 = .ok (.getfield 10, 3) := by decide +kernel
theorem dX11_fade_37 : decode cX11_fade 37 = .ok (.getfield 88, 3) := by decide +kernel
theorem dX11_fade_40 : decode cX11_fade 40 = .ok (.iload_n 1, 1) := by decide +kernel
theorem dX11_fade_41 : decode cX11_fade 41 = .ok (.iload_n 2, 1) := by decide +kernel
theorem dX11_fade_42 : decode cX11_fade 42 = .ok (.iastore, 1) := by decide +kernel
theorem dX11_fade_43 : decode cX11_fade 43 = .ok (.iload_n 3, 1) := by decide +kernel
theorem dX11_fade_44 : decode cX11_fade 44 = .ok (.ireturn, 1) := by decide +kernel
theorem dX11_coat_0 : decode cX11_coat 0 = .ok (.iload_n 1, 1) := by decide +kernel
theorem dX11_coat_1 : decode cX11_coat 1 = .ok (.iconst 0, 1) := by decide +kernel
theorem dX11_coat_2 : decode cX11_coat 2 = .ok (.iconst 5, 1) := by decide +kernel
theorem dX11_coat_3 : decode cX11_coat 3 = .ok (.invokestatic 81, 3) := by decide +kernel
theorem dX11_coat_6 : decode cX11_coat 6 = .ok (.ifCond .eq 24, 3) := by decide +kernel
theorem dX11_coat_9 : decode cX11_coat 9 = .ok (.iload_n 2, 1) := by decide +kernel
theorem dX11_coat_10 : decode cX11_coat 10 = .ok (.iconst 1, 1) := by decide +kernel
theorem dX11_coat_11 : decode cX11_coat 11 = .ok (.bipush 9, 2) := by decide +kernel
theorem dX11_coat_13 : decode cX11_coat 13 = .ok (.invokestatic 81, 3) := by decide +kernel
theorem dX11_coat_16 : decode cX11_coat 16 = .ok (.ifCond .eq 14, 3) := by decide +kernel
theorem dX11_coat_19 : decode cX11_coat 19 = .ok (.iload_n 3, 1) := by decide +kernel
theorem dX11_coat_20 : decode cX11_coat 20 = .ok (.iconst 0, 1) := by decide +kernel
theorem dX11_coat_21 : decode cX11_coat 21 = .ok (.sipush 20999, 3) := by decide +kernel
theorem dX11_coat_24 : decode cX11_coat 24 = .ok (.invokestatic 81, 3) := by decide +kernel
theorem dX11_coat_27 : decode cX11_coat 27 = .ok (.ifCond .ne 6, 3) := by decide +kernel
theorem dX11_coat_30 : decode cX11_coat 30 = .ok (.bipush (-2), 2) := by decide +kernel
theorem dX11_coat_32 : decode cX11_coat 32 = .ok (.ireturn, 1) := by decide +kernel
theorem dX11_coat_33 : decode cX11_coat 33 = .ok (.aload_n 0, 1) := by decide +kernel
theorem dX11_coat_34 : decode cX11_coat 34 = .ok (.getfield 91, 3) := by decide +kernel
theorem dX11_coat_37 : decode cX11_coat 37 = .ok (.bipush 8, 2) := by decide +kernel
theorem dX11_coat_39 : decode cX11_coat 39 = .ok (.if_icmp .lt 6, 3) := by decide +kernel
theorem dX11_coat_42 : decode cX11_coat 42 = .ok (.bipush (-4), 2) := by decide +kernel
theorem dX11_coat_44 : decode cX11_coat 44 = .ok (.ireturn, 1) := by decide +kernel
theorem dX11_coat_45 : decode cX11_coat 45 = .ok (.aload_n 0, 1) := by decide +kernel
theorem dX11_coat_46 : decode cX11_coat 46 = .ok (.getfield 18, 3) := by decide +kernel
theorem dX11_coat_49 : decode cX11_coat 49 = .ok (.aload_n 0, 1) := by decide +kernel
theorem dX11_coat_50 : decode cX11_coat 50 = .ok (.getfield 91, 3) := by decide +kernel
theorem dX11_coat_53 : decode cX11_coat 53 = .ok (.iload_n 1, 1) := by decide +kernel
theorem dX11_coat_54 : decode cX11_coat 54 = .ok (.iload_n 2, 1) := by decide +kernel
theorem dX11_coat_55 : decode cX11_coat 55 = .ok (.iload_n 3, 1) := by decide +kernel
theorem dX11_coat_56 : decode cX11_coat 56 = .ok (.invokestatic 94, 3) := by decide +kernel
theorem dX11_coat_59 : decode cX11_coat 59 = .ok (.aastore, 1) := by decide +kernel
theorem dX11_coat_60 : decode cX11_coat 60 = .ok (.aload_n 0, 1) := by decide +kernel
theorem dX11_coat_61 : decode cX11_coat 61 = .ok (.dup, 1) := by decide +kernel
theorem dX11_coat_62 : decode cX11_coat 62 = .ok (.getfield 91, 3) := by decide +kernel
theorem dX11_coat_65 : decode cX11_coat 65 = .ok (.iconst 1, 1) := by decide +kernel
theorem dX11_coat_66 : decode cX11_coat 66 = .ok (.iadd, 1) := by decide +kernel
theorem dX11_coat_67 : decode cX11_coat 67 = .ok (.putfield 91, 3) := by decide +kernel
theorem dX11_coat_70 : decode cX11_coat 70 = .ok (.aload_n 0, 1) := by decide +kernel
theorem dX11_coat_71 : decode cX11_coat 71 = .ok (.getfield 91, 3) := by decide +kernel
theorem dX11_coat_74 : decode cX11_coat 74 = .ok (.iconst 1, 1) := by decide +kernel
theorem dX11_coat_75 : decode cX11_coat 75 = .ok (.isub, 1) := by decide +kernel
theorem dX11_coat_76 : decode cX11_coat 76 = .ok (.ireturn, 1) := by decide +kernel
theorem dX11_told_0 : decode cX11_told 0 = .ok (.aload_n 0, 1) := by decide +kernel
theorem dX11_told_1 : decode cX11_told 1 = .ok (.iload_n 1, 1) := by decide +kernel
theorem dX11_told_2 : decode cX11_told 2 = .ok (.invokevirtual 98, 3) := by decide +kernel
theorem dX11_told_5 : decode cX11_told 5 = .ok (.astore_n 3, 1) := by decide +kernel
theorem dX11_told_6 : decode cX11_told 6 = .ok (.aload_n 3, 1) := by decide +kernel
theorem dX11_told_7 : decode cX11_told 7 = .ok (.ifnonnull 6, 3) := by decide +kernel
theorem dX11_told_10 : decode cX11_told 10 = .ok (.bipush (-5), 2) := by decide +kernel
theorem dX11_told_12 : decode cX11_told 12 = .ok (.ireturn, 1) := by decide +kernel
theorem dX11_told_13 : decode cX11_told 13 = .ok (.iload_n 2, 1) := by decide +kernel
theorem dX11_told_14 : decode cX11_told 14 = .ok (.bipush 10, 2) := by decide +kernel
theorem dX11_told_16 : decode cX11_told 16 = .ok (.bipush 14, 2) := by decide +kernel
theorem dX11_told_18 : decode cX11_told 18 = .ok (.invokestatic 81, 3) := by decide +kernel
theorem dX11_told_21 : decode cX11_told 21 = .ok (.ifCond .eq 12, 3) := by decide +kernel
theorem dX11_told_24 : decode cX11_told 24 = .ok (.aload_n 3, 1) := by decide +kernel
theorem dX11_told_25 : decode cX11_told 25 = .ok (.iload_n 2, 1) := by decide +kernel
theorem dX11_told_26 : decode cX11_told 26 = .ok (.bipush 10, 2) := by decide +kernel
theorem dX11_told_28 : decode cX11_told 28 = .ok (.isub, 1) := by decide +kernel
theorem dX11_told_29 : decode cX11_told 29 = .ok (.invokevirtual 102, 3) := by decide +kernel
theorem dX11_told_32 : decode cX11_told 32 = .ok (.ireturn, 1) := by decide +kernel
theorem dX11_told_33 : decode cX11_told 33 = .ok (.iload_n 2, 1) := by decide +kernel
theorem dX11_told_34 : decode cX11_told 34 = .ok (.bipush 20, 2) := by decide +kernel
theorem dX11_told_36 : decode cX11_told 36 = .ok (.bipush 25, 2) := by decide +kernel
theorem dX11_told_38 : decode cX11_told 38 = .ok (.invokestatic 81, 3) := by decide +kernel
theorem dX11_told_41 : decode cX11_told 41 = .ok (.ifCond .eq 16, 3) := by decide +kernel
theorem dX11_told_44 : decode cX11_told 44 = .ok (.aload_n 0, 1) := by decide +kernel
theorem dX11_told_45 : decode cX11_told 45 = .ok (.getfield 65, 3) := by decide +kernel
theorem dX11_told_48 : decode cX11_told 48 = .ok (.aload_n 3, 1) := by decide +kernel
theorem dX11_told_49 : decode cX11_told 49 = .ok (.iload_n 2, 1) := by decide +kernel
theorem dX11_told_50 : decode cX11_told 50 = .ok (.bipush 20, 2) := by decide +kernel
theorem dX11_told_52 : decode cX11_told 52 = .ok (.isub, 1) := by decide +kernel
theorem dX11_told_53 : decode cX11_told 53 = .ok (.invokevirtual 106, 3) := by decide +kernel
theorem dX11_told_56 : decode cX11_told 56 = .ok (.ireturn, 1) := by decide +kernel
theorem dX11_told_57 : decode cX11_told 57 = .ok (.iload_n 2, 1) := by decide +kernel
theorem dX11_told_58 : decode cX11_told 58 = .ok (.tableswitch 89 0 6 #[42, 47, 52, 57, 62, 67, 76], 42) := by decide +kernel
theorem dX11_told_100 : decode cX11_told 100 = .ok (.aload_n 3, 1) := by decide +kernel
theorem dX11_told_101 : decode cX11_told 101 = .ok (.getfield 110, 3) := by decide +kernel
theorem dX11_told_104 : decode cX11_told 104 = .ok (.ireturn, 1) := by decide +kernel
theorem dX11_told_105 : decode cX11_told 105 = .ok (.aload_n 3, 1) := by decide +kernel
theorem dX11_told_106 : decode cX11_told 106 = .ok (.getfield 113, 3) := by decide +kernel
theorem dX11_told_109 : decode cX11_told 109 = .ok (.ireturn, 1) := by decide +kernel
theorem dX11_told_110 : decode cX11_told 110 = .ok (.aload_n 3, 1) := by decide +kernel
theorem dX11_told_111 : decode cX11_told 111 = .ok (.getfield 116, 3) := by decide +kernel
theorem dX11_told_114 : decode cX11_told 114 = .ok (.ireturn, 1) := by decide +kernel
theorem dX11_told_115 : decode cX11_told 115 = .ok (.aload_n 3, 1) := by decide +kernel
theorem dX11_told_116 : decode cX11_told 116 = .ok (.invokevirtual 119, 3) := by decide +kernel
theorem dX11_told_119 : decode cX11_told 119 = .ok (.ireturn, 1) := by decide +kernel
theorem dX11_told_120 : decode cX11_told 120 = .ok (.aload_n 3, 1) := by decide +kernel
theorem dX11_told_121 : decode cX11_told 121 = .ok (.invokevirtual 123, 3) := by decide +kernel
theorem dX11_told_124 : decode cX11_told 124 = .ok (.ireturn, 1) := by decide +kernel
theorem dX11_told_125 : decode cX11_told 125 = .ok (.aload_n 0, 1) := by decide +kernel
theorem dX11_told_126 : decode cX11_told 126 = .ok (.getfield 65, 3) := by decide +kernel
theorem dX11_told_129 : decode cX11_told 129 = .ok (.aload_n 3, 1) := by decide +kernel
theorem dX11_told_130 : decode cX11_told 130 = .ok (.invokevirtual 126, 3) := by decide +kernel
theorem dX11_told_133 : decode cX11_told 133 = .ok (.ireturn, 1) := by decide +kernel
theorem dX11_told_134 : decode cX11_told 134 = .ok (.aload_n 3, 1) := by decide +kernel
theorem dX11_told_135 : decode cX11_told 135 = .ok (.getfield 130, 3) := by decide +kernel
theorem dX11_told_138 : decode cX11_told 138 = .ok (.ifCond .eq 7, 3) := by decide +kernel
theorem dX11_told_141 : decode cX11_told 141 = .ok (.iconst 1, 1) := by decide +kernel
theorem dX11_told_142 : decode cX11_told 142 = .ok (.goto 4, 3) := by decide +kernel
theorem dX11_told_145 : decode cX11_told 145 = .ok (.iconst 0, 1) := by decide +kernel
theorem dX11_told_146 : decode cX11_told 146 = .ok (.ireturn, 1) := by decide +kernel
theorem dX11_told_147 : decode cX11_told 147 = .ok (.bipush (-5), 2) := by decide +kernel
theorem dX11_told_149 : decode cX11_told 149 = .ok (.ireturn, 1) := by decide +kernel
theorem dX11_hankTold_0 : decode cX11_hankTold 0 = .ok (.aload_n 0, 1) := by decide +kernel
theorem dX11_hankTold_1 : decode cX11_hankTold 1 = .ok (.getfield 10, 3) := by decide +kernel
theorem dX11_hankTold_4 : decode cX11_hankTold 4 = .ok (.iload_n 1, 1) := by decide +kernel
theorem dX11_hankTold_5 : decode cX11_hankTold 5 = .ok (.invokevirtual 77, 3) := by decide +kernel
theorem dX11_hankTold_8 : decode cX11_hankTold 8 = .ok (.ifCond .ne 6, 3) := by decide +kernel
theorem dX11_hankTold_11 : decode cX11_hankTold 11 = .ok (.bipush (-5), 2) := by decide +kernel
theorem dX11_hankTold_13 : decode cX11_hankTold 13 = .ok (.ireturn, 1) := by decide +kernel
theorem dX11_hankTold_14 : decode cX11_hankTold 14 = .ok (.iload_n 2, 1) := by decide +kernel
theorem dX11_hankTold_15 : decode cX11_hankTold 15 = .ok (.tableswitch 54 0 2 #[25, 35, 44], 25) := by decide +kernel
theorem dX11_hankTold_40 : decode cX11_hankTold 40 = .ok (.aload_n 0, 1) := by decide +kernel
theorem dX11_hankTold_41 : decode cX11_hankTold 41 = .ok (.getfield 10, 3) := by decide +kernel
theorem dX11_hankTold_44 : decode cX11_hankTold 44 = .ok (.getfield 85, 3) := by decide +kernel
theorem dX11_hankTold_47 : decode cX11_hankTold 47 = .ok (.iload_n 1, 1) := by decide +kernel
theorem dX11_hankTold_48 : decode cX11_hankTold 48 = .ok (.iaload, 1) := by decide +kernel
theorem dX11_hankTold_49 : decode cX11_hankTold 49 = .ok (.ireturn, 1) := by decide +kernel
theorem dX11_hankTold_50 : decode cX11_hankTold 50 = .ok (.aload_n 0, 1) := by decide +kernel
theorem dX11_hankTold_51 : decode cX11_hankTold 51 = .ok (.getfield 10, 3) := by decide +kernel
theorem dX11_hankTold_54 : decode cX11_hankTold 54 = .ok (.iload_n 1, 1) := by decide +kernel
theorem dX11_hankTold_55 : decode cX11_hankTold 55 = .ok (.invokevirtual 134, 3) := by decide +kernel
theorem dX11_hankTold_58 : decode cX11_hankTold 58 = .ok (.ireturn, 1) := by decide +kernel
theorem dX11_hankTold_59 : decode cX11_hankTold 59 = .ok (.aload_n 0, 1) := by decide +kernel
theorem dX11_hankTold_60 : decode cX11_hankTold 60 = .ok (.getfield 10, 3) := by decide +kernel
theorem dX11_hankTold_63 : decode cX11_hankTold 63 = .ok (.getfield 137, 3) := by decide +kernel
theorem dX11_hankTold_66 : decode cX11_hankTold 66 = .ok (.iload_n 1, 1) := by decide +kernel
theorem dX11_hankTold_67 : decode cX11_hankTold 67 = .ok (.iaload, 1) := by decide +kernel
theorem dX11_hankTold_68 : decode cX11_hankTold 68 = .ok (.ireturn, 1) := by decide +kernel
theorem dX11_hankTold_69 : decode cX11_hankTold 69 = .ok (.bipush (-5), 2) := by decide +kernel
theorem dX11_hankTold_71 : decode cX11_hankTold 71 = .ok (.ireturn, 1) := by decide +kernel
theorem dX11_feed_0 : decode cX11_feed 0 = .ok (.iload_n 1, 1) := by decide +kernel
theorem dX11_feed_1 : decode cX11_feed 1 = .ok (.iconst 1, 1) := by decide +kernel
theorem dX11_feed_2 : decode cX11_feed 2 = .ok (.bipush 8, 2) := by decide +kernel
theorem dX11_feed_4 : decode cX11_feed 4 = .ok (.invokestatic 81, 3) := by decide +kernel
theorem dX11_feed_7 : decode cX11_feed 7 = .ok (.ifCond .ne 6, 3) := by decide +kernel
theorem dX11_feed_10 : decode cX11_feed 10 = .ok (.bipush (-2), 2) := by decide +kernel
theorem dX11_feed_12 : decode cX11_feed 12 = .ok (.ireturn, 1) := by decide +kernel
theorem dX11_feed_13 : decode cX11_feed 13 = .ok (.aload_n 0, 1) := by decide +kernel
theorem dX11_feed_14 : decode cX11_feed 14 = .ok (.getfield 25, 3) := by decide +kernel
theorem dX11_feed_17 : decode cX11_feed 17 = .ok (.getfield 140, 3) := by decide +kernel
theorem dX11_feed_20 : decode cX11_feed 20 = .ok (.iload_n 1, 1) := by decide +kernel
theorem dX11_feed_21 : decode cX11_feed 21 = .ok (.iadd, 1) := by decide +kernel
theorem dX11_feed_22 : decode cX11_feed 22 = .ok (.sipush 160, 3) := by decide +kernel
theorem dX11_feed_25 : decode cX11_feed 25 = .ok (.if_icmp .le 6, 3) := by decide +kernel
theorem dX11_feed_28 : decode cX11_feed 28 = .ok (.bipush (-4), 2) := by decide +kernel
theorem dX11_feed_30 : decode cX11_feed 30 = .ok (.ireturn, 1) := by decide +kernel
theorem dX11_feed_31 : decode cX11_feed 31 = .ok (.iconst 0, 1) := by decide +kernel
theorem dX11_feed_32 : decode cX11_feed 32 = .ok (.istore 4, 2) := by decide +kernel
theorem dX11_feed_34 : decode cX11_feed 34 = .ok (.iload 4, 2) := by decide +kernel
theorem dX11_feed_36 : decode cX11_feed 36 = .ok (.iload_n 1, 1) := by decide +kernel
theorem dX11_feed_37 : decode cX11_feed 37 = .ok (.if_icmp .ge 25, 3) := by decide +kernel
theorem dX11_feed_40 : decode cX11_feed 40 = .ok (.aload_n 0, 1) := by decide +kernel
theorem dX11_feed_41 : decode cX11_feed 41 = .ok (.getfield 25, 3) := by decide +kernel
theorem dX11_feed_44 : decode cX11_feed 44 = .ok (.lload_n 2, 1) := by decide +kernel
theorem dX11_feed_45 : decode cX11_feed 45 = .ok (.bipush 8, 2) := by decide +kernel
theorem dX11_feed_47 : decode cX11_feed 47 = .ok (.iload 4, 2) := by decide +kernel
theorem dX11_feed_49 : decode cX11_feed 49 = .ok (.imul, 1) := by decide +kernel
theorem dX11_feed_50 : decode cX11_feed 50 = .ok (.lushr, 1) := by decide +kernel
theorem dX11_feed_51 : decode cX11_feed 51 = .ok (.l2i, 1) := by decide +kernel
theorem dX11_feed_52 : decode cX11_feed 52 = .ok (.i2b, 1) := by decide +kernel
theorem dX11_feed_53 : decode cX11_feed 53 = .ok (.invokevirtual 143, 3) := by decide +kernel
theorem dX11_feed_56 : decode cX11_feed 56 = .ok (.iinc 4 1, 3) := by decide +kernel
theorem dX11_feed_59 : decode cX11_feed 59 = .ok (.goto (-25), 3) := by decide +kernel
theorem dX11_feed_62 : decode cX11_feed 62 = .ok (.aload_n 0, 1) := by decide +kernel
theorem dX11_feed_63 : decode cX11_feed 63 = .ok (.getfield 25, 3) := by decide +kernel
theorem dX11_feed_66 : decode cX11_feed 66 = .ok (.getfield 140, 3) := by decide +kernel
theorem dX11_feed_69 : decode cX11_feed 69 = .ok (.ireturn, 1) := by decide +kernel
theorem dX11_text_0 : decode cX11_text 0 = .ok (.aload_n 0, 1) := by decide +kernel
theorem dX11_text_1 : decode cX11_text 1 = .ok (.getfield 69, 3) := by decide +kernel
theorem dX11_text_4 : decode cX11_text 4 = .ok (.bipush 6, 2) := by decide +kernel
theorem dX11_text_6 : decode cX11_text 6 = .ok (.if_icmp .lt 6, 3) := by decide +kernel
theorem dX11_text_9 : decode cX11_text 9 = .ok (.bipush (-4), 2) := by decide +kernel
theorem dX11_text_11 : decode cX11_text 11 = .ok (.ireturn, 1) := by decide +kernel
theorem dX11_text_12 : decode cX11_text 12 = .ok (.aload_n 0, 1) := by decide +kernel
theorem dX11_text_13 : decode cX11_text 13 = .ok (.getfield 25, 3) := by decide +kernel
theorem dX11_text_16 : decode cX11_text 16 = .ok (.invokevirtual 147, 3) := by decide +kernel
theorem dX11_text_19 : decode cX11_text 19 = .ok (.astore_n 1, 1) := by decide +kernel
theorem dX11_text_20 : decode cX11_text 20 = .ok (.aload_n 1, 1) := by decide +kernel
theorem dX11_text_21 : decode cX11_text 21 = .ok (.ifnonnull 14, 3) := by decide +kernel
theorem dX11_text_24 : decode cX11_text 24 = .ok (.bipush (-100), 2) := by decide +kernel
theorem dX11_text_26 : decode cX11_text 26 = .ok (.aload_n 0, 1) := by decide +kernel
theorem dX11_text_27 : decode cX11_text 27 = .ok (.getfield 25, 3) := by decide +kernel
theorem dX11_text_30 : decode cX11_text 30 = .ok (.getfield 150, 3) := by decide +kernel
theorem dX11_text_33 : decode cX11_text 33 = .ok (.isub, 1) := by decide +kernel
theorem dX11_text_34 : decode cX11_text 34 = .ok (.ireturn, 1) := by decide +kernel
theorem dX11_text_35 : decode cX11_text 35 = .ok (.aload_n 0, 1) := by decide +kernel
theorem dX11_text_36 : decode cX11_text 36 = .ok (.getfield 31, 3) := by decide +kernel
theorem dX11_text_39 : decode cX11_text 39 = .ok (.aload_n 0, 1) := by decide +kernel
theorem dX11_text_40 : decode cX11_text 40 = .ok (.getfield 69, 3) := by decide +kernel
theorem dX11_text_43 : decode cX11_text 43 = .ok (.aload_n 1, 1) := by decide +kernel
theorem dX11_text_44 : decode cX11_text 44 = .ok (.aastore, 1) := by decide +kernel
theorem dX11_text_45 : decode cX11_text 45 = .ok (.aload_n 0, 1) := by decide +kernel
theorem dX11_text_46 : decode cX11_text 46 = .ok (.dup, 1) := by decide +kernel
theorem dX11_text_47 : decode cX11_text 47 = .ok (.getfield 69, 3) := by decide +kernel
theorem dX11_text_50 : decode cX11_text 50 = .ok (.iconst 1, 1) := by decide +kernel
theorem dX11_text_51 : decode cX11_text 51 = .ok (.iadd, 1) := by decide +kernel
theorem dX11_text_52 : decode cX11_text 52 = .ok (.putfield 69, 3) := by decide +kernel
theorem dX11_text_55 : decode cX11_text 55 = .ok (.aload_n 0, 1) := by decide +kernel
theorem dX11_text_56 : decode cX11_text 56 = .ok (.getfield 69, 3) := by decide +kernel
theorem dX11_text_59 : decode cX11_text 59 = .ok (.iconst 1, 1) := by decide +kernel
theorem dX11_text_60 : decode cX11_text 60 = .ok (.isub, 1) := by decide +kernel
theorem dX11_text_61 : decode cX11_text 61 = .ok (.ireturn, 1) := by decide +kernel
theorem dX11_force_0 : decode cX11_force 0 = .ok (.iload_n 1, 1) := by decide +kernel
theorem dX11_force_1 : decode cX11_force 1 = .ok (.iconst 0, 1) := by decide +kernel
theorem dX11_force_2 : decode cX11_force 2 = .ok (.aload_n 0, 1) := by decide +kernel
theorem dX11_force_3 : decode cX11_force 3 = .ok (.getfield 69, 3) := by decide +kernel
theorem dX11_force_6 : decode cX11_force 6 = .ok (.iconst 1, 1) := by decide +kernel
theorem dX11_force_7 : decode cX11_force 7 = .ok (.isub, 1) := by decide +kernel
theorem dX11_force_8 : decode cX11_force 8 = .ok (.invokestatic 81, 3) := by decide +kernel
theorem dX11_force_11 : decode cX11_force 11 = .ok (.ifCond .ne 6, 3) := by decide +kernel
theorem dX11_force_14 : decode cX11_force 14 = .ok (.bipush (-2), 2) := by decide +kernel
theorem dX11_force_16 : decode cX11_force 16 = .ok (.ireturn, 1) := by decide +kernel
theorem dX11_force_17 : decode cX11_force 17 = .ok (.aload_n 0, 1) := by decide +kernel
theorem dX11_force_18 : decode cX11_force 18 = .ok (.getfield 153, 3) := by decide +kernel
theorem dX11_force_21 : decode cX11_force 21 = .ok (.istore_n 2, 1) := by decide +kernel
theorem dX11_force_22 : decode cX11_force 22 = .ok (.aload_n 0, 1) := by decide +kernel
theorem dX11_force_23 : decode cX11_force 23 = .ok (.iload_n 1, 1) := by decide +kernel
theorem dX11_force_24 : decode cX11_force 24 = .ok (.invokevirtual 156, 3) := by decide +kernel
theorem dX11_force_27 : decode cX11_force 27 = .ok (.iload_n 2, 1) := by decide +kernel
theorem dX11_force_28 : decode cX11_force 28 = .ok (.ireturn, 1) := by decide +kernel
theorem dX11_seen_0 : decode cX11_seen 0 = .ok (.aload_n 0, 1) := by decide +kernel
theorem dX11_seen_1 : decode cX11_seen 1 = .ok (.getfield 10, 3) := by decide +kernel
theorem dX11_seen_4 : decode cX11_seen 4 = .ok (.iload_n 1, 1) := by decide +kernel
theorem dX11_seen_5 : decode cX11_seen 5 = .ok (.invokevirtual 77, 3) := by decide +kernel
theorem dX11_seen_8 : decode cX11_seen 8 = .ok (.ifCond .eq 19, 3) := by decide +kernel
theorem dX11_seen_11 : decode cX11_seen 11 = .ok (.aload_n 0, 1) := by decide +kernel
theorem dX11_seen_12 : decode cX11_seen 12 = .ok (.getfield 10, 3) := by decide +kernel
theorem dX11_seen_15 : decode cX11_seen 15 = .ok (.iload_n 2, 1) := by decide +kernel
theorem dX11_seen_16 : decode cX11_seen 16 = .ok (.invokevirtual 77, 3) := by decide +kernel
theorem dX11_seen_19 : decode cX11_seen 19 = .ok (.ifCond .eq 8, 3) := by decide +kernel
theorem dX11_seen_22 : decode cX11_seen 22 = .ok (.iload_n 1, 1) := by decide +kernel
theorem dX11_seen_23 : decode cX11_seen 23 = .ok (.iload_n 2, 1) := by decide +kernel
theorem dX11_seen_24 : decode cX11_seen 24 = .ok (.if_icmp .ne 6, 3) := by decide +kernel
theorem dX11_seen_27 : decode cX11_seen 27 = .ok (.bipush (-5), 2) := by decide +kernel
theorem dX11_seen_29 : decode cX11_seen 29 = .ok (.ireturn, 1) := by decide +kernel
theorem dX11_seen_30 : decode cX11_seen 30 = .ok (.aload_n 0, 1) := by decide +kernel
theorem dX11_seen_31 : decode cX11_seen 31 = .ok (.getfield 65, 3) := by decide +kernel
theorem dX11_seen_34 : decode cX11_seen 34 = .ok (.aload_n 0, 1) := by decide +kernel
theorem dX11_seen_35 : decode cX11_seen 35 = .ok (.getfield 10, 3) := by decide +kernel
theorem dX11_seen_38 : decode cX11_seen 38 = .ok (.aload_n 0, 1) := by decide +kernel
theorem dX11_seen_39 : decode cX11_seen 39 = .ok (.getfield 10, 3) := by decide +kernel
theorem dX11_seen_42 : decode cX11_seen 42 = .ok (.getfield 85, 3) := by decide +kernel
theorem dX11_seen_45 : decode cX11_seen 45 = .ok (.iload_n 1, 1) := by decide +kernel
theorem dX11_seen_46 : decode cX11_seen 46 = .ok (.iload_n 2, 1) := by decide +kernel
theorem dX11_seen_47 : decode cX11_seen 47 = .ok (.invokevirtual 160, 3) := by decide +kernel
theorem dX11_seen_50 : decode cX11_seen 50 = .ok (.ireturn, 1) := by decide +kernel
theorem dX11_mayMeet_0 : decode cX11_mayMeet 0 = .ok (.aload_n 0, 1) := by decide +kernel
theorem dX11_mayMeet_1 : decode cX11_mayMeet 1 = .ok (.iload_n 1, 1) := by decide +kernel
theorem dX11_mayMeet_2 : decode cX11_mayMeet 2 = .ok (.invokevirtual 98, 3) := by decide +kernel
theorem dX11_mayMeet_5 : decode cX11_mayMeet 5 = .ok (.astore 4, 2) := by decide +kernel
theorem dX11_mayMeet_7 : decode cX11_mayMeet 7 = .ok (.aload 4, 2) := by decide +kernel
theorem dX11_mayMeet_9 : decode cX11_mayMeet 9 = .ok (.ifnull 16, 3) := by decide +kernel
theorem dX11_mayMeet_12 : decode cX11_mayMeet 12 = .ok (.iload_n 2, 1) := by decide +kernel
theorem dX11_mayMeet_13 : decode cX11_mayMeet 13 = .ok (.iconst 0, 1) := by decide +kernel
theorem dX11_mayMeet_14 : decode cX11_mayMeet 14 = .ok (.iconst 5, 1) := by decide +kernel
theorem dX11_mayMeet_15 : decode cX11_mayMeet 15 = .ok (.invokestatic 81, 3) := by decide +kernel
theorem dX11_mayMeet_18 : decode cX11_mayMeet 18 = .ok (.ifCond .eq 7, 3) := by decide +kernel
theorem dX11_mayMeet_21 : decode cX11_mayMeet 21 = .ok (.iload_n 3, 1) := by decide +kernel
theorem dX11_mayMeet_22 : decode cX11_mayMeet 22 = .ok (.ifCond .ge 6, 3) := by decide +kernel
theorem dX11_mayMeet_25 : decode cX11_mayMeet 25 = .ok (.bipush (-2), 2) := by decide +kernel
theorem dX11_mayMeet_27 : decode cX11_mayMeet 27 = .ok (.ireturn, 1) := by decide +kernel
theorem dX11_mayMeet_28 : decode cX11_mayMeet 28 = .ok (.iload_n 3, 1) := by decide +kernel
theorem dX11_mayMeet_29 : decode cX11_mayMeet 29 = .ok (.bipush 100, 2) := by decide +kernel
theorem dX11_mayMeet_31 : decode cX11_mayMeet 31 = .ok (.idiv, 1) := by decide +kernel
theorem dX11_mayMeet_32 : decode cX11_mayMeet 32 = .ok (.istore 5, 2) := by decide +kernel
theorem dX11_mayMeet_34 : decode cX11_mayMeet 34 = .ok (.iload_n 3, 1) := by decide +kernel
theorem dX11_mayMeet_35 : decode cX11_mayMeet 35 = .ok (.bipush 100, 2) := by decide +kernel
theorem dX11_mayMeet_37 : decode cX11_mayMeet 37 = .ok (.irem, 1) := by decide +kernel
theorem dX11_mayMeet_38 : decode cX11_mayMeet 38 = .ok (.istore 6, 2) := by decide +kernel
theorem dX11_mayMeet_40 : decode cX11_mayMeet 40 = .ok (.aload_n 0, 1) := by decide +kernel
theorem dX11_mayMeet_41 : decode cX11_mayMeet 41 = .ok (.getfield 10, 3) := by decide +kernel
theorem dX11_mayMeet_44 : decode cX11_mayMeet 44 = .ok (.iload 5, 2) := by decide +kernel
theorem dX11_mayMeet_46 : decode cX11_mayMeet 46 = .ok (.invokevirtual 77, 3) := by decide +kernel
theorem dX11_mayMeet_49 : decode cX11_mayMeet 49 = .ok (.ifCond .eq 15, 3) := by decide +kernel
theorem dX11_mayMeet_52 : decode cX11_mayMeet 52 = .ok (.aload_n 0, 1) := by decide +kernel
theorem dX11_mayMeet_53 : decode cX11_mayMeet 53 = .ok (.getfield 10, 3) := by decide +kernel
theorem dX11_mayMeet_56 : decode cX11_mayMeet 56 = .ok (.iload 6, 2) := by decide +kernel
theorem dX11_mayMeet_58 : decode cX11_mayMeet 58 = .ok (.invokevirtual 77, 3) := by decide +kernel
theorem dX11_mayMeet_61 : decode cX11_mayMeet 61 = .ok (.ifCond .ne 6, 3) := by decide +kernel
theorem dX11_mayMeet_64 : decode cX11_mayMeet 64 = .ok (.bipush (-2), 2) := by decide +kernel
theorem dX11_mayMeet_66 : decode cX11_mayMeet 66 = .ok (.ireturn, 1) := by decide +kernel
theorem dX11_mayMeet_67 : decode cX11_mayMeet 67 = .ok (.aload_n 0, 1) := by decide +kernel
theorem dX11_mayMeet_68 : decode cX11_mayMeet 68 = .ok (.getfield 38, 3) := by decide +kernel
theorem dX11_mayMeet_71 : decode cX11_mayMeet 71 = .ok (.aload 4, 2) := by decide +kernel
theorem dX11_mayMeet_73 : decode cX11_mayMeet 73 = .ok (.aload_n 0, 1) := by decide +kernel
theorem dX11_mayMeet_74 : decode cX11_mayMeet 74 = .ok (.getfield 65, 3) := by decide +kernel
theorem dX11_mayMeet_77 : decode cX11_mayMeet 77 = .ok (.aload_n 0, 1) := by decide +kernel
theorem dX11_mayMeet_78 : decode cX11_mayMeet 78 = .ok (.getfield 10, 3) := by decide +kernel
theorem dX11_mayMeet_81 : decode cX11_mayMeet 81 = .ok (.aload_n 0, 1) := by decide +kernel
theorem dX11_mayMeet_82 : decode cX11_mayMeet 82 = .ok (.getfield 10, 3) := by decide +kernel
theorem dX11_mayMeet_85 : decode cX11_mayMeet 85 = .ok (.getfield 85, 3) := by decide +kernel
theorem dX11_mayMeet_88 : decode cX11_mayMeet 88 = .ok (.invokevirtual 164, 3) := by decide +kernel
theorem dX11_mayMeet_91 : decode cX11_mayMeet 91 = .ok (.aload_n 0, 1) := by decide +kernel
theorem dX11_mayMeet_92 : decode cX11_mayMeet 92 = .ok (.getfield 38, 3) := by decide +kernel
theorem dX11_mayMeet_95 : decode cX11_mayMeet 95 = .ok (.iload_n 2, 1) := by decide +kernel
theorem dX11_mayMeet_96 : decode cX11_mayMeet 96 = .ok (.iload 5, 2) := by decide +kernel
theorem dX11_mayMeet_98 : decode cX11_mayMeet 98 = .ok (.iload 6, 2) := by decide +kernel
theorem dX11_mayMeet_100 : decode cX11_mayMeet 100 = .ok (.invokevirtual 168, 3) := by decide +kernel
theorem dX11_mayMeet_103 : decode cX11_mayMeet 103 = .ok (.ifCond .eq 7, 3) := by decide +kernel
theorem dX11_mayMeet_106 : decode cX11_mayMeet 106 = .ok (.iconst 1, 1) := by decide +kernel
theorem dX11_mayMeet_107 : decode cX11_mayMeet 107 = .ok (.goto 4, 3) := by decide +kernel
theorem dX11_mayMeet_110 : decode cX11_mayMeet 110 = .ok (.iconst 0, 1) := by decide +kernel
theorem dX11_mayMeet_111 : decode cX11_mayMeet 111 = .ok (.ireturn, 1) := by decide +kernel
theorem dX11_between_0 : decode cX11_between 0 = .ok (.aload_n 0, 1) := by decide +kernel
theorem dX11_between_1 : decode cX11_between 1 = .ok (.getfield 10, 3) := by decide +kernel
theorem dX11_between_4 : decode cX11_between 4 = .ok (.iload_n 1, 1) := by decide +kernel
theorem dX11_between_5 : decode cX11_between 5 = .ok (.invokevirtual 77, 3) := by decide +kernel
theorem dX11_between_8 : decode cX11_between 8 = .ok (.ifCond .eq 29, 3) := by decide +kernel
theorem dX11_between_11 : decode cX11_between 11 = .ok (.aload_n 0, 1) := by decide +kernel
theorem dX11_between_12 : decode cX11_between 12 = .ok (.getfield 10, 3) := by decide +kernel
theorem dX11_between_15 : decode cX11_between 15 = .ok (.iload_n 2, 1) := by decide +kernel
theorem dX11_between_16 : decode cX11_between 16 = .ok (.invokevirtual 77, 3) := by decide +kernel
theorem dX11_between_19 : decode cX11_between 19 = .ok (.ifCond .eq 18, 3) := by decide +kernel
theorem dX11_between_22 : decode cX11_between 22 = .ok (.iload_n 1, 1) := by decide +kernel
theorem dX11_between_23 : decode cX11_between 23 = .ok (.iload_n 2, 1) := by decide +kernel
theorem dX11_between_24 : decode cX11_between 24 = .ok (.if_icmp .eq 13, 3) := by decide +kernel
theorem dX11_between_27 : decode cX11_between 27 = .ok (.iload_n 3, 1) := by decide +kernel
theorem dX11_between_28 : decode cX11_between 28 = .ok (.iconst 1, 1) := by decide +kernel
theorem dX11_between_29 : decode cX11_between 29 = .ok (.bipush 9, 2) := by decide +kernel
theorem dX11_between_31 : decode cX11_between 31 = .ok (.invokestatic 81, 3) := by decide +kernel
theorem dX11_between_34 : decode cX11_between 34 = .ok (.ifCond .ne 6, 3) := by decide +kernel
theorem dX11_between_37 : decode cX11_between 37 = .ok (.bipush (-2), 2) := by decide +kernel
theorem dX11_between_39 : decode cX11_between 39 = .ok (.ireturn, 1) := by decide +kernel
theorem dX11_between_40 : decode cX11_between 40 = .ok (.iload_n 3, 1) := by decide +kernel
theorem dX11_between_41 : decode cX11_between 41 = .ok (.aload_n 0, 1) := by decide +kernel
theorem dX11_between_42 : decode cX11_between 42 = .ok (.getfield 10, 3) := by decide +kernel
theorem dX11_between_45 : decode cX11_between 45 = .ok (.iload_n 1, 1) := by decide +kernel
theorem dX11_between_46 : decode cX11_between 46 = .ok (.invokevirtual 134, 3) := by decide +kernel
theorem dX11_between_49 : decode cX11_between 49 = .ok (.imul, 1) := by decide +kernel
theorem dX11_between_50 : decode cX11_between 50 = .ok (.aload_n 0, 1) := by decide +kernel
theorem dX11_between_51 : decode cX11_between 51 = .ok (.getfield 10, 3) := by decide +kernel
theorem dX11_between_54 : decode cX11_between 54 = .ok (.iload_n 2, 1) := by decide +kernel
theorem dX11_between_55 : decode cX11_between 55 = .ok (.invokevirtual 134, 3) := by decide +kernel
theorem dX11_between_58 : decode cX11_between 58 = .ok (.iadd, 1) := by decide +kernel
theorem dX11_between_59 : decode cX11_between 59 = .ok (.iload_n 3, 1) := by decide +kernel
theorem dX11_between_60 : decode cX11_between 60 = .ok (.iconst 1, 1) := by decide +kernel
theorem dX11_between_61 : decode cX11_between 61 = .ok (.iadd, 1) := by decide +kernel
theorem dX11_between_62 : decode cX11_between 62 = .ok (.idiv, 1) := by decide +kernel
theorem dX11_between_63 : decode cX11_between 63 = .ok (.ireturn, 1) := by decide +kernel
theorem dX11_range_0 : decode cX11_range 0 = .ok (.iload_n 1, 1) := by decide +kernel
theorem dX11_range_1 : decode cX11_range 1 = .ok (.iconst 0, 1) := by decide +kernel
theorem dX11_range_2 : decode cX11_range 2 = .ok (.iconst 1, 1) := by decide +kernel
theorem dX11_range_3 : decode cX11_range 3 = .ok (.aload_n 0, 1) := by decide +kernel
theorem dX11_range_4 : decode cX11_range 4 = .ok (.getfield 10, 3) := by decide +kernel
theorem dX11_range_7 : decode cX11_range 7 = .ok (.getfield 171, 3) := by decide +kernel
theorem dX11_range_10 : decode cX11_range 10 = .ok (.ishl, 1) := by decide +kernel
theorem dX11_range_11 : decode cX11_range 11 = .ok (.iconst 1, 1) := by decide +kernel
theorem dX11_range_12 : decode cX11_range 12 = .ok (.isub, 1) := by decide +kernel
theorem dX11_range_13 : decode cX11_range 13 = .ok (.invokestatic 81, 3) := by decide +kernel
theorem dX11_range_16 : decode cX11_range 16 = .ok (.ifCond .ne 6, 3) := by decide +kernel
theorem dX11_range_19 : decode cX11_range 19 = .ok (.bipush (-2), 2) := by decide +kernel
theorem dX11_range_21 : decode cX11_range 21 = .ok (.ireturn, 1) := by decide +kernel
theorem dX11_range_22 : decode cX11_range 22 = .ok (.iconst (-1), 1) := by decide +kernel
theorem dX11_range_23 : decode cX11_range 23 = .ok (.istore_n 2, 1) := by decide +kernel
theorem dX11_range_24 : decode cX11_range 24 = .ok (.iconst 0, 1) := by decide +kernel
theorem dX11_range_25 : decode cX11_range 25 = .ok (.istore_n 3, 1) := by decide +kernel
theorem dX11_range_26 : decode cX11_range 26 = .ok (.iload_n 3, 1) := by decide +kernel
theorem dX11_range_27 : decode cX11_range 27 = .ok (.aload_n 0, 1) := by decide +kernel
theorem dX11_range_28 : decode cX11_range 28 = .ok (.getfield 10, 3) := by decide +kernel
theorem dX11_range_31 : decode cX11_range 31 = .ok (.getfield 171, 3) := by decide +kernel
theorem dX11_range_34 : decode cX11_range 34 = .ok (.if_icmp .ge 75, 3) := by decide +kernel
theorem dX11_range_37 : decode cX11_range 37 = .ok (.iload_n 3, 1) := by decide +kernel
theorem dX11_range_38 : decode cX11_range 38 = .ok (.iconst 1, 1) := by decide +kernel
theorem dX11_range_39 : decode cX11_range 39 = .ok (.iadd, 1) := by decide +kernel
theorem dX11_range_40 : decode cX11_range 40 = .ok (.istore 4, 2) := by decide +kernel
theorem dX11_range_42 : decode cX11_range 42 = .ok (.iload 4, 2) := by decide +kernel
theorem dX11_range_44 : decode cX11_range 44 = .ok (.aload_n 0, 1) := by decide +kernel
theorem dX11_range_45 : decode cX11_range 45 = .ok (.getfield 10, 3) := by decide +kernel
theorem dX11_range_48 : decode cX11_range 48 = .ok (.getfield 171, 3) := by decide +kernel
theorem dX11_range_51 : decode cX11_range 51 = .ok (.if_icmp .ge 52, 3) := by decide +kernel
theorem dX11_range_54 : decode cX11_range 54 = .ok (.iload_n 1, 1) := by decide +kernel
theorem dX11_range_55 : decode cX11_range 55 = .ok (.iload_n 3, 1) := by decide +kernel
theorem dX11_range_56 : decode cX11_range 56 = .ok (.invokestatic 172, 3) := by decide +kernel
theorem dX11_range_59 : decode cX11_range 59 = .ok (.ifCond .eq 38, 3) := by decide +kernel
theorem dX11_range_62 : decode cX11_range 62 = .ok (.iload_n 1, 1) := by decide +kernel
theorem dX11_range_63 : decode cX11_range 63 = .ok (.iload 4, 2) := by decide +kernel
theorem dX11_range_65 : decode cX11_range 65 = .ok (.invokestatic 172, 3) := by decide +kernel
theorem dX11_range_68 : decode cX11_range 68 = .ok (.ifCond .eq 29, 3) := by decide +kernel
theorem dX11_range_71 : decode cX11_range 71 = .ok (.iload_n 2, 1) := by decide +kernel
theorem dX11_range_72 : decode cX11_range 72 = .ok (.aload_n 0, 1) := by decide +kernel
theorem dX11_range_73 : decode cX11_range 73 = .ok (.getfield 65, 3) := by decide +kernel
theorem dX11_range_76 : decode cX11_range 76 = .ok (.aload_n 0, 1) := by decide +kernel
theorem dX11_range_77 : decode cX11_range 77 = .ok (.getfield 10, 3) := by decide +kernel
theorem dX11_range_80 : decode cX11_range 80 = .ok (.aload_n 0, 1) := by decide +kernel
theorem dX11_range_81 : decode cX11_range 81 = .ok (.getfield 10, 3) := by decide +kernel
theorem dX11_range_84 : decode cX11_range 84 = .ok (.getfield 85, 3) := by decide +kernel
theorem dX11_range_87 : decode cX11_range 87 = .ok (.iload_n 3, 1) := by decide +kernel
theorem dX11_range_88 : decode cX11_range 88 = .ok (.iload 4, 2) := by decide +kernel
theorem dX11_range_90 : decode cX11_range 90 = .ok (.invokevirtual 160, 3) := by decide +kernel
theorem dX11_range_93 : decode cX11_range 93 = .ok (.invokestatic 176, 3) := by decide +kernel
theorem dX11_range_96 : decode cX11_range 96 = .ok (.istore_n 2, 1) := by decide +kernel
theorem dX11_range_97 : decode cX11_range 97 = .ok (.iinc 4 1, 3) := by decide +kernel
theorem dX11_range_100 : decode cX11_range 100 = .ok (.goto (-58), 3) := by decide +kernel
theorem dX11_range_103 : decode cX11_range 103 = .ok (.iinc 3 1, 3) := by decide +kernel
theorem dX11_range_106 : decode cX11_range 106 = .ok (.goto (-80), 3) := by decide +kernel
theorem dX11_range_109 : decode cX11_range 109 = .ok (.iload_n 2, 1) := by decide +kernel
theorem dX11_range_110 : decode cX11_range 110 = .ok (.ireturn, 1) := by decide +kernel
theorem dX11_judge_0 : decode cX11_judge 0 = .ok (.aload_n 0, 1) := by decide +kernel
theorem dX11_judge_1 : decode cX11_judge 1 = .ok (.iload_n 1, 1) := by decide +kernel
theorem dX11_judge_2 : decode cX11_judge 2 = .ok (.invokevirtual 98, 3) := by decide +kernel
theorem dX11_judge_5 : decode cX11_judge 5 = .ok (.astore_n 3, 1) := by decide +kernel
theorem dX11_judge_6 : decode cX11_judge 6 = .ok (.aload_n 3, 1) := by decide +kernel
theorem dX11_judge_7 : decode cX11_judge 7 = .ok (.ifnull 14, 3) := by decide +kernel
theorem dX11_judge_10 : decode cX11_judge 10 = .ok (.iload_n 2, 1) := by decide +kernel
theorem dX11_judge_11 : decode cX11_judge 11 = .ok (.iconst 0, 1) := by decide +kernel
theorem dX11_judge_12 : decode cX11_judge 12 = .ok (.sipush 7775, 3) := by decide +kernel
theorem dX11_judge_15 : decode cX11_judge 15 = .ok (.invokestatic 81, 3) := by decide +kernel
theorem dX11_judge_18 : decode cX11_judge 18 = .ok (.ifCond .ne 6, 3) := by decide +kernel
theorem dX11_judge_21 : decode cX11_judge 21 = .ok (.bipush (-2), 2) := by decide +kernel
theorem dX11_judge_23 : decode cX11_judge 23 = .ok (.ireturn, 1) := by decide +kernel
theorem dX11_judge_24 : decode cX11_judge 24 = .ok (.aload_n 0, 1) := by decide +kernel
theorem dX11_judge_25 : decode cX11_judge 25 = .ok (.getfield 38, 3) := by decide +kernel
theorem dX11_judge_28 : decode cX11_judge 28 = .ok (.aload_n 3, 1) := by decide +kernel
theorem dX11_judge_29 : decode cX11_judge 29 = .ok (.aload_n 0, 1) := by decide +kernel
theorem dX11_judge_30 : decode cX11_judge 30 = .ok (.getfield 65, 3) := by decide +kernel
theorem dX11_judge_33 : decode cX11_judge 33 = .ok (.aload_n 0, 1) := by decide +kernel
theorem dX11_judge_34 : decode cX11_judge 34 = .ok (.getfield 10, 3) := by decide +kernel
theorem dX11_judge_37 : decode cX11_judge 37 = .ok (.aload_n 0, 1) := by decide +kernel
theorem dX11_judge_38 : decode cX11_judge 38 = .ok (.getfield 10, 3) := by decide +kernel
theorem dX11_judge_41 : decode cX11_judge 41 = .ok (.getfield 85, 3) := by decide +kernel
theorem dX11_judge_44 : decode cX11_judge 44 = .ok (.invokevirtual 164, 3) := by decide +kernel
theorem dX11_judge_47 : decode cX11_judge 47 = .ok (.aload_n 0, 1) := by decide +kernel
theorem dX11_judge_48 : decode cX11_judge 48 = .ok (.getfield 38, 3) := by decide +kernel
theorem dX11_judge_51 : decode cX11_judge 51 = .ok (.iload_n 2, 1) := by decide +kernel
theorem dX11_judge_52 : decode cX11_judge 52 = .ok (.invokevirtual 182, 3) := by decide +kernel
theorem dX11_judge_55 : decode cX11_judge 55 = .ok (.ireturn, 1) := by decide +kernel
theorem dX11_can_0 : decode cX11_can 0 = .ok (.aload_n 0, 1) := by decide +kernel
theorem dX11_can_1 : decode cX11_can 1 = .ok (.iload_n 1, 1) := by decide +kernel
theorem dX11_can_2 : decode cX11_can 2 = .ok (.invokevirtual 98, 3) := by decide +kernel
theorem dX11_can_5 : decode cX11_can 5 = .ok (.astore_n 3, 1) := by decide +kernel
theorem dX11_can_6 : decode cX11_can 6 = .ok (.aload_n 3, 1) := by decide +kernel
theorem dX11_can_7 : decode cX11_can 7 = .ok (.ifnull 12, 3) := by decide +kernel
theorem dX11_can_10 : decode cX11_can 10 = .ok (.iload_n 2, 1) := by decide +kernel
theorem dX11_can_11 : decode cX11_can 11 = .ok (.iconst 0, 1) := by decide +kernel
theorem dX11_can_12 : decode cX11_can 12 = .ok (.iconst 2, 1) := by decide +kernel
theorem dX11_can_13 : decode cX11_can 13 = .ok (.invokestatic 81, 3) := by decide +kernel
theorem dX11_can_16 : decode cX11_can 16 = .ok (.ifCond .ne 6, 3) := by decide +kernel
theorem dX11_can_19 : decode cX11_can 19 = .ok (.bipush (-2), 2) := by decide +kernel
theorem dX11_can_21 : decode cX11_can 21 = .ok (.ireturn, 1) := by decide +kernel
theorem dX11_can_22 : decode cX11_can 22 = .ok (.aload_n 0, 1) := by decide +kernel
theorem dX11_can_23 : decode cX11_can 23 = .ok (.getfield 38, 3) := by decide +kernel
theorem dX11_can_26 : decode cX11_can 26 = .ok (.aload_n 3, 1) := by decide +kernel
theorem dX11_can_27 : decode cX11_can 27 = .ok (.aload_n 0, 1) := by decide +kernel
theorem dX11_can_28 : decode cX11_can 28 = .ok (.getfield 65, 3) := by decide +kernel
theorem dX11_can_31 : decode cX11_can 31 = .ok (.aload_n 0, 1) := by decide +kernel
theorem dX11_can_32 : decode cX11_can 32 = .ok (.getfield 10, 3) := by decide +kernel
theorem dX11_can_35 : decode cX11_can 35 = .ok (.aload_n 0, 1) := by decide +kernel
theorem dX11_can_36 : decode cX11_can 36 = .ok (.getfield 10, 3) := by decide +kernel
theorem dX11_can_39 : decode cX11_can 39 = .ok (.getfield 85, 3) := by decide +kernel
theorem dX11_can_42 : decode cX11_can 42 = .ok (.invokevirtual 164, 3) := by decide +kernel
theorem dX11_can_45 : decode cX11_can 45 = .ok (.aload_n 0, 1) := by decide +kernel
theorem dX11_can_46 : decode cX11_can 46 = .ok (.getfield 38, 3) := by decide +kernel
theorem dX11_can_49 : decode cX11_can 49 = .ok (.iconst 1, 1) := by decide +kernel
theorem dX11_can_50 : decode cX11_can 50 = .ok (.invokevirtual 185, 3) := by decide +kernel
theorem dX11_can_53 : decode cX11_can 53 = .ok (.iload_n 2, 1) := by decide +kernel
theorem dX11_can_54 : decode cX11_can 54 = .ok (.lookupswitch 42 #[(0, 26), (1, 34)], 26) := by decide +kernel
theorem dX11_can_80 : decode cX11_can 80 = .ok (.aload_n 0, 1) := by decide +kernel
theorem dX11_can_81 : decode cX11_can 81 = .ok (.getfield 38, 3) := by decide +kernel
theorem dX11_can_84 : decode cX11_can 84 = .ok (.getfield 189, 3) := by decide +kernel
theorem dX11_can_87 : decode cX11_can 87 = .ok (.ireturn, 1) := by decide +kernel
theorem dX11_can_88 : decode cX11_can 88 = .ok (.aload_n 0, 1) := by decide +kernel
theorem dX11_can_89 : decode cX11_can 89 = .ok (.getfield 38, 3) := by decide +kernel
theorem dX11_can_92 : decode cX11_can 92 = .ok (.getfield 192, 3) := by decide +kernel
theorem dX11_can_95 : decode cX11_can 95 = .ok (.ireturn, 1) := by decide +kernel
theorem dX11_can_96 : decode cX11_can 96 = .ok (.aload_n 0, 1) := by decide +kernel
theorem dX11_can_97 : decode cX11_can 97 = .ok (.getfield 38, 3) := by decide +kernel
theorem dX11_can_100 : decode cX11_can 100 = .ok (.getfield 195, 3) := by decide +kernel
theorem dX11_can_103 : decode cX11_can 103 = .ok (.ireturn, 1) := by decide +kernel
theorem dX11_knit_0 : decode cX11_knit 0 = .ok (.aload_n 0, 1) := by decide +kernel
theorem dX11_knit_1 : decode cX11_knit 1 = .ok (.iload_n 1, 1) := by decide +kernel
theorem dX11_knit_2 : decode cX11_knit 2 = .ok (.invokevirtual 98, 3) := by decide +kernel
theorem dX11_knit_5 : decode cX11_knit 5 = .ok (.astore 4, 2) := by decide +kernel
theorem dX11_knit_7 : decode cX11_knit 7 = .ok (.aload 4, 2) := by decide +kernel
theorem dX11_knit_9 : decode cX11_knit 9 = .ok (.ifnull 27, 3) := by decide +kernel
theorem dX11_knit_12 : decode cX11_knit 12 = .ok (.iload_n 2, 1) := by decide +kernel
theorem dX11_knit_13 : decode cX11_knit 13 = .ok (.iconst 0, 1) := by decide +kernel
theorem dX11_knit_14 : decode cX11_knit 14 = .ok (.sipush 7775, 3) := by decide +kernel
theorem dX11_knit_17 : decode cX11_knit 17 = .ok (.invokestatic 81, 3) := by decide +kernel
theorem dX11_knit_20 : decode cX11_knit 20 = .ok (.ifCond .eq 16, 3) := by decide +kernel
theorem dX11_knit_23 : decode cX11_knit 23 = .ok (.iload_n 3, 1) := by decide +kernel
theorem dX11_knit_24 : decode cX11_knit 24 = .ok (.aload_n 0, 1) := by decide +kernel
theorem dX11_knit_25 : decode cX11_knit 25 = .ok (.invokevirtual 198, 3) := by decide +kernel
theorem dX11_knit_28 : decode cX11_knit 28 = .ok (.bipush 99, 2) := by decide +kernel
theorem dX11_knit_30 : decode cX11_knit 30 = .ok (.invokestatic 81, 3) := by decide +kernel
theorem dX11_knit_33 : decode cX11_knit 33 = .ok (.ifCond .ne 6, 3) := by decide +kernel
theorem dX11_knit_36 : decode cX11_knit 36 = .ok (.bipush (-2), 2) := by decide +kernel
theorem dX11_knit_38 : decode cX11_knit 38 = .ok (.ireturn, 1) := by decide +kernel
theorem dX11_knit_39 : decode cX11_knit 39 = .ok (.aload 4, 2) := by decide +kernel
theorem dX11_knit_41 : decode cX11_knit 41 = .ok (.getfield 130, 3) := by decide +kernel
theorem dX11_knit_44 : decode cX11_knit 44 = .ok (.ifCond .eq 6, 3) := by decide +kernel
theorem dX11_knit_47 : decode cX11_knit 47 = .ok (.bipush (-3), 2) := by decide +kernel
theorem dX11_knit_49 : decode cX11_knit 49 = .ok (.ireturn, 1) := by decide +kernel
theorem dX11_knit_50 : decode cX11_knit 50 = .ok (.aload_n 0, 1) := by decide +kernel
theorem dX11_knit_51 : decode cX11_knit 51 = .ok (.getfield 38, 3) := by decide +kernel
theorem dX11_knit_54 : decode cX11_knit 54 = .ok (.aload 4, 2) := by decide +kernel
theorem dX11_knit_56 : decode cX11_knit 56 = .ok (.aload_n 0, 1) := by decide +kernel
theorem dX11_knit_57 : decode cX11_knit 57 = .ok (.getfield 65, 3) := by decide +kernel
theorem dX11_knit_60 : decode cX11_knit 60 = .ok (.aload_n 0, 1) := by decide +kernel
theorem dX11_knit_61 : decode cX11_knit 61 = .ok (.getfield 10, 3) := by decide +kernel
theorem dX11_knit_64 : decode cX11_knit 64 = .ok (.aload_n 0, 1) := by decide +kernel
theorem dX11_knit_65 : decode cX11_knit 65 = .ok (.getfield 10, 3) := by decide +kernel
theorem dX11_knit_68 : decode cX11_knit 68 = .ok (.getfield 85, 3) := by decide +kernel
theorem dX11_knit_71 : decode cX11_knit 71 = .ok (.invokevirtual 164, 3) := by decide +kernel
theorem dX11_knit_74 : decode cX11_knit 74 = .ok (.aload_n 0, 1) := by decide +kernel
theorem dX11_knit_75 : decode cX11_knit 75 = .ok (.getfield 38, 3) := by decide +kernel
theorem dX11_knit_78 : decode cX11_knit 78 = .ok (.iload_n 2, 1) := by decide +kernel
theorem dX11_knit_79 : decode cX11_knit 79 = .ok (.invokevirtual 182, 3) := by decide +kernel
theorem dX11_knit_82 : decode cX11_knit 82 = .ok (.istore 5, 2) := by decide +kernel
theorem dX11_knit_84 : decode cX11_knit 84 = .ok (.iload 5, 2) := by decide +kernel
theorem dX11_knit_86 : decode cX11_knit 86 = .ok (.iconst (-1), 1) := by decide +kernel
theorem dX11_knit_87 : decode cX11_knit 87 = .ok (.if_icmp .ne 25, 3) := by decide +kernel
theorem dX11_knit_90 : decode cX11_knit 90 = .ok (.aload_n 0, 1) := by decide +kernel
theorem dX11_knit_91 : decode cX11_knit 91 = .ok (.getfield 38, 3) := by decide +kernel
theorem dX11_knit_94 : decode cX11_knit 94 = .ok (.iload_n 2, 1) := by decide +kernel
theorem dX11_knit_95 : decode cX11_knit 95 = .ok (.aload_n 0, 1) := by decide +kernel
theorem dX11_knit_96 : decode cX11_knit 96 = .ok (.getfield 10, 3) := by decide +kernel
theorem dX11_knit_99 : decode cX11_knit 99 = .ok (.getfield 85, 3) := by decide +kernel
theorem dX11_knit_102 : decode cX11_knit 102 = .ok (.invokevirtual 201, 3) := by decide +kernel
theorem dX11_knit_105 : decode cX11_knit 105 = .ok (.aload 4, 2) := by decide +kernel
theorem dX11_knit_107 : decode cX11_knit 107 = .ok (.iload_n 2, 1) := by decide +kernel
theorem dX11_knit_108 : decode cX11_knit 108 = .ok (.iload_n 3, 1) := by decide +kernel
theorem dX11_knit_109 : decode cX11_knit 109 = .ok (.invokevirtual 205, 3) := by decide +kernel
theorem dX11_knit_112 : decode cX11_knit 112 = .ok (.iload 5, 2) := by decide +kernel
theorem dX11_knit_114 : decode cX11_knit 114 = .ok (.ireturn, 1) := by decide +kernel
theorem dX11_undo_0 : decode cX11_undo 0 = .ok (.aload_n 0, 1) := by decide +kernel
theorem dX11_undo_1 : decode cX11_undo 1 = .ok (.iload_n 1, 1) := by decide +kernel
theorem dX11_undo_2 : decode cX11_undo 2 = .ok (.invokevirtual 98, 3) := by decide +kernel
theorem dX11_undo_5 : decode cX11_undo 5 = .ok (.astore_n 2, 1) := by decide +kernel
theorem dX11_undo_6 : decode cX11_undo 6 = .ok (.aload_n 2, 1) := by decide +kernel
theorem dX11_undo_7 : decode cX11_undo 7 = .ok (.ifnonnull 6, 3) := by decide +kernel
theorem dX11_undo_10 : decode cX11_undo 10 = .ok (.bipush (-2), 2) := by decide +kernel
theorem dX11_undo_12 : decode cX11_undo 12 = .ok (.ireturn, 1) := by decide +kernel
theorem dX11_undo_13 : decode cX11_undo 13 = .ok (.aload_n 2, 1) := by decide +kernel
theorem dX11_undo_14 : decode cX11_undo 14 = .ok (.getfield 130, 3) := by decide +kernel
theorem dX11_undo_17 : decode cX11_undo 17 = .ok (.ifCond .ne 6, 3) := by decide +kernel
theorem dX11_undo_20 : decode cX11_undo 20 = .ok (.bipush (-3), 2) := by decide +kernel
theorem dX11_undo_22 : decode cX11_undo 22 = .ok (.ireturn, 1) := by decide +kernel
theorem dX11_undo_23 : decode cX11_undo 23 = .ok (.iconst 0, 1) := by decide +kernel
theorem dX11_undo_24 : decode cX11_undo 24 = .ok (.istore_n 3, 1) := by decide +kernel
theorem dX11_undo_25 : decode cX11_undo 25 = .ok (.iconst 0, 1) := by decide +kernel
theorem dX11_undo_26 : decode cX11_undo 26 = .ok (.istore 4, 2) := by decide +kernel
theorem dX11_undo_28 : decode cX11_undo 28 = .ok (.iload 4, 2) := by decide +kernel
theorem dX11_undo_30 : decode cX11_undo 30 = .ok (.iconst 5, 1) := by decide +kernel
theorem dX11_undo_31 : decode cX11_undo 31 = .ok (.if_icmp .ge 50, 3) := by decide +kernel
theorem dX11_undo_34 : decode cX11_undo 34 = .ok (.aload_n 2, 1) := by decide +kernel
theorem dX11_undo_35 : decode cX11_undo 35 = .ok (.iload 4, 2) := by decide +kernel
theorem dX11_undo_37 : decode cX11_undo 37 = .ok (.invokevirtual 102, 3) := by decide +kernel
theorem dX11_undo_40 : decode cX11_undo 40 = .ok (.iconst 1, 1) := by decide +kernel
theorem dX11_undo_41 : decode cX11_undo 41 = .ok (.isub, 1) := by decide +kernel
theorem dX11_undo_42 : decode cX11_undo 42 = .ok (.iconst 0, 1) := by decide +kernel
theorem dX11_undo_43 : decode cX11_undo 43 = .ok (.invokestatic 176, 3) := by decide +kernel
theorem dX11_undo_46 : decode cX11_undo 46 = .ok (.istore 5, 2) := by decide +kernel
theorem dX11_undo_48 : decode cX11_undo 48 = .ok (.aload_n 0, 1) := by decide +kernel
theorem dX11_undo_49 : decode cX11_undo 49 = .ok (.getfield 10, 3) := by decide +kernel
theorem dX11_undo_52 : decode cX11_undo 52 = .ok (.getfield 85, 3) := by decide +kernel
theorem dX11_undo_55 : decode cX11_undo 55 = .ok (.aload_n 2, 1) := by decide +kernel
theorem dX11_undo_56 : decode cX11_undo 56 = .ok (.getfield 209, 3) := by decide +kernel
theorem dX11_undo_59 : decode cX11_undo 59 = .ok (.iload 4, 2) := by decide +kernel
theorem dX11_undo_61 : decode cX11_undo 61 = .ok (.invokestatic 212, 3) := by decide +kernel
theorem dX11_undo_64 : decode cX11_undo 64 = .ok (.dup2, 1) := by decide +kernel
theorem dX11_undo_65 : decode cX11_undo 65 = .ok (.iaload, 1) := by decide +kernel
theorem dX11_undo_66 : decode cX11_undo 66 = .ok (.iload 5, 2) := by decide +kernel
theorem dX11_undo_68 : decode cX11_undo 68 = .ok (.iadd, 1) := by decide +kernel
theorem dX11_undo_69 : decode cX11_undo 69 = .ok (.iastore, 1) := by decide +kernel
theorem dX11_undo_70 : decode cX11_undo 70 = .ok (.iload_n 3, 1) := by decide +kernel
theorem dX11_undo_71 : decode cX11_undo 71 = .ok (.iload 5, 2) := by decide +kernel
theorem dX11_undo_73 : decode cX11_undo 73 = .ok (.iadd, 1) := by decide +kernel
theorem dX11_undo_74 : decode cX11_undo 74 = .ok (.istore_n 3, 1) := by decide +kernel
theorem dX11_undo_75 : decode cX11_undo 75 = .ok (.iinc 4 1, 3) := by decide +kernel
theorem dX11_undo_78 : decode cX11_undo 78 = .ok (.goto (-50), 3) := by decide +kernel
theorem dX11_undo_81 : decode cX11_undo 81 = .ok (.aload_n 2, 1) := by decide +kernel
theorem dX11_undo_82 : decode cX11_undo 82 = .ok (.iconst 0, 1) := by decide +kernel
theorem dX11_undo_83 : decode cX11_undo 83 = .ok (.putfield 130, 3) := by decide +kernel
theorem dX11_undo_86 : decode cX11_undo 86 = .ok (.iload_n 3, 1) := by decide +kernel
theorem dX11_undo_87 : decode cX11_undo 87 = .ok (.ireturn, 1) := by decide +kernel
theorem dX11_most_0 : decode cX11_most 0 = .ok (.iload_n 1, 1) := by decide +kernel
theorem dX11_most_1 : decode cX11_most 1 = .ok (.iconst 0, 1) := by decide +kernel
theorem dX11_most_2 : decode cX11_most 2 = .ok (.iconst 2, 1) := by decide +kernel
theorem dX11_most_3 : decode cX11_most 3 = .ok (.invokestatic 81, 3) := by decide +kernel
theorem dX11_most_6 : decode cX11_most 6 = .ok (.ifCond .ne 6, 3) := by decide +kernel
theorem dX11_most_9 : decode cX11_most 9 = .ok (.bipush (-2), 2) := by decide +kernel
theorem dX11_most_11 : decode cX11_most 11 = .ok (.ireturn, 1) := by decide +kernel
theorem dX11_most_12 : decode cX11_most 12 = .ok (.iload_n 1, 1) := by decide +kernel
theorem dX11_most_13 : decode cX11_most 13 = .ok (.iconst 2, 1) := by decide +kernel
theorem dX11_most_14 : decode cX11_most 14 = .ok (.if_icmp .ne 22, 3) := by decide +kernel
theorem dX11_most_17 : decode cX11_most 17 = .ok (.aload_n 0, 1) := by decide +kernel
theorem dX11_most_18 : decode cX11_most 18 = .ok (.getfield 45, 3) := by decide +kernel
theorem dX11_most_21 : decode cX11_most 21 = .ok (.aload_n 0, 1) := by decide +kernel
theorem dX11_most_22 : decode cX11_most 22 = .ok (.getfield 18, 3) := by decide +kernel
theorem dX11_most_25 : decode cX11_most 25 = .ok (.aload_n 0, 1) := by decide +kernel
theorem dX11_most_26 : decode cX11_most 26 = .ok (.getfield 10, 3) := by decide +kernel
theorem dX11_most_29 : decode cX11_most 29 = .ok (.invokevirtual 215, 3) := by decide +kernel
theorem dX11_most_32 : decode cX11_most 32 = .ok (.invokevirtual 218, 3) := by decide +kernel
theorem dX11_most_35 : decode cX11_most 35 = .ok (.ireturn, 1) := by decide +kernel
theorem dX11_most_36 : decode cX11_most 36 = .ok (.aload_n 0, 1) := by decide +kernel
theorem dX11_most_37 : decode cX11_most 37 = .ok (.getfield 45, 3) := by decide +kernel
theorem dX11_most_40 : decode cX11_most 40 = .ok (.aload_n 0, 1) := by decide +kernel
theorem dX11_most_41 : decode cX11_most 41 = .ok (.getfield 18, 3) := by decide +kernel
theorem dX11_most_44 : decode cX11_most 44 = .ok (.aload_n 0, 1) := by decide +kernel
theorem dX11_most_45 : decode cX11_most 45 = .ok (.getfield 65, 3) := by decide +kernel
theorem dX11_most_48 : decode cX11_most 48 = .ok (.aload_n 0, 1) := by decide +kernel
theorem dX11_most_49 : decode cX11_most 49 = .ok (.getfield 10, 3) := by decide +kernel
theorem dX11_most_52 : decode cX11_most 52 = .ok (.iconst (-1), 1) := by decide +kernel
theorem dX11_most_53 : decode cX11_most 53 = .ok (.iconst 0, 1) := by decide +kernel
theorem dX11_most_54 : decode cX11_most 54 = .ok (.invokevirtual 222, 3) := by decide +kernel
theorem dX11_most_57 : decode cX11_most 57 = .ok (.iload_n 1, 1) := by decide +kernel
theorem dX11_most_58 : decode cX11_most 58 = .ok (.ifCond .ne 13, 3) := by decide +kernel
theorem dX11_most_61 : decode cX11_most 61 = .ok (.aload_n 0, 1) := by decide +kernel
theorem dX11_most_62 : decode cX11_most 62 = .ok (.getfield 45, 3) := by decide +kernel
theorem dX11_most_65 : decode cX11_most 65 = .ok (.getfield 226, 3) := by decide +kernel
theorem dX11_most_68 : decode cX11_most 68 = .ok (.goto 10, 3) := by decide +kernel
theorem dX11_most_71 : decode cX11_most 71 = .ok (.aload_n 0, 1) := by decide +kernel
theorem dX11_most_72 : decode cX11_most 72 = .ok (.getfield 45, 3) := by decide +kernel
theorem dX11_most_75 : decode cX11_most 75 = .ok (.getfield 229, 3) := by decide +kernel
theorem dX11_most_78 : decode cX11_most 78 = .ok (.ireturn, 1) := by decide +kernel
theorem dX11_more_0 : decode cX11_more 0 = .ok (.iload_n 1, 1) := by decide +kernel
theorem dX11_more_1 : decode cX11_more 1 = .ok (.iconst 1, 1) := by decide +kernel
theorem dX11_more_2 : decode cX11_more 2 = .ok (.bipush 50, 2) := by decide +kernel
theorem dX11_more_4 : decode cX11_more 4 = .ok (.invokestatic 81, 3) := by decide +kernel
theorem dX11_more_7 : decode cX11_more 7 = .ok (.ifCond .ne 6, 3) := by decide +kernel
theorem dX11_more_10 : decode cX11_more 10 = .ok (.bipush (-2), 2) := by decide +kernel
theorem dX11_more_12 : decode cX11_more 12 = .ok (.ireturn, 1) := by decide +kernel
theorem dX11_more_13 : decode cX11_more 13 = .ok (.aload_n 0, 1) := by decide +kernel
theorem dX11_more_14 : decode cX11_more 14 = .ok (.getfield 45, 3) := by decide +kernel
theorem dX11_more_17 : decode cX11_more 17 = .ok (.aload_n 0, 1) := by decide +kernel
theorem dX11_more_18 : decode cX11_more 18 = .ok (.getfield 18, 3) := by decide +kernel
theorem dX11_more_21 : decode cX11_more 21 = .ok (.aload_n 0, 1) := by decide +kernel
theorem dX11_more_22 : decode cX11_more 22 = .ok (.getfield 65, 3) := by decide +kernel
theorem dX11_more_25 : decode cX11_more 25 = .ok (.aload_n 0, 1) := by decide +kernel
theorem dX11_more_26 : decode cX11_more 26 = .ok (.getfield 10, 3) := by decide +kernel
theorem dX11_more_29 : decode cX11_more 29 = .ok (.iconst (-1), 1) := by decide +kernel
theorem dX11_more_30 : decode cX11_more 30 = .ok (.iconst 0, 1) := by decide +kernel
theorem dX11_more_31 : decode cX11_more 31 = .ok (.invokevirtual 222, 3) := by decide +kernel
theorem dX11_more_34 : decode cX11_more 34 = .ok (.aload_n 0, 1) := by decide +kernel
theorem dX11_more_35 : decode cX11_more 35 = .ok (.getfield 45, 3) := by decide +kernel
theorem dX11_more_38 : decode cX11_more 38 = .ok (.getfield 226, 3) := by decide +kernel
theorem dX11_more_41 : decode cX11_more 41 = .ok (.istore_n 2, 1) := by decide +kernel
theorem dX11_more_42 : decode cX11_more 42 = .ok (.iconst (-1), 1) := by decide +kernel
theorem dX11_more_43 : decode cX11_more 43 = .ok (.istore_n 3, 1) := by decide +kernel
theorem dX11_more_44 : decode cX11_more 44 = .ok (.iconst 0, 1) := by decide +kernel
theorem dX11_more_45 : decode cX11_more 45 = .ok (.istore 4, 2) := by decide +kernel
theorem dX11_more_47 : decode cX11_more 47 = .ok (.iload 4, 2) := by decide +kernel
theorem dX11_more_49 : decode cX11_more 49 = .ok (.aload_n 0, 1) := by decide +kernel
theorem dX11_more_50 : decode cX11_more 50 = .ok (.getfield 10, 3) := by decide +kernel
theorem dX11_more_53 : decode cX11_more 53 = .ok (.getfield 171, 3) := by decide +kernel
theorem dX11_more_56 : decode cX11_more 56 = .ok (.if_icmp .ge 53, 3) := by decide +kernel
theorem dX11_more_59 : decode cX11_more 59 = .ok (.aload_n 0, 1) := by decide +kernel
theorem dX11_more_60 : decode cX11_more 60 = .ok (.getfield 45, 3) := by decide +kernel
theorem dX11_more_63 : decode cX11_more 63 = .ok (.aload_n 0, 1) := by decide +kernel
theorem dX11_more_64 : decode cX11_more 64 = .ok (.getfield 18, 3) := by decide +kernel
theorem dX11_more_67 : decode cX11_more 67 = .ok (.aload_n 0, 1) := by decide +kernel
theorem dX11_more_68 : decode cX11_more 68 = .ok (.getfield 65, 3) := by decide +kernel
theorem dX11_more_71 : decode cX11_more 71 = .ok (.aload_n 0, 1) := by decide +kernel
theorem dX11_more_72 : decode cX11_more 72 = .ok (.getfield 10, 3) := by decide +kernel
theorem dX11_more_75 : decode cX11_more 75 = .ok (.iload 4, 2) := by decide +kernel
theorem dX11_more_77 : decode cX11_more 77 = .ok (.iload_n 1, 1) := by decide +kernel
theorem dX11_more_78 : decode cX11_more 78 = .ok (.invokevirtual 222, 3) := by decide +kernel
theorem dX11_more_81 : decode cX11_more 81 = .ok (.aload_n 0, 1) := by decide +kernel
theorem dX11_more_82 : decode cX11_more 82 = .ok (.getfield 45, 3) := by decide +kernel
theorem dX11_more_85 : decode cX11_more 85 = .ok (.getfield 226, 3) := by decide +kernel
theorem dX11_more_88 : decode cX11_more 88 = .ok (.iload_n 2, 1) := by decide +kernel
theorem dX11_more_89 : decode cX11_more 89 = .ok (.if_icmp .le 14, 3) := by decide +kernel
theorem dX11_more_92 : decode cX11_more 92 = .ok (.aload_n 0, 1) := by decide +kernel
theorem dX11_more_93 : decode cX11_more 93 = .ok (.getfield 45, 3) := by decide +kernel
theorem dX11_more_96 : decode cX11_more 96 = .ok (.getfield 226, 3) := by decide +kernel
theorem dX11_more_99 : decode cX11_more 99 = .ok (.istore_n 2, 1) := by decide +kernel
theorem dX11_more_100 : decode cX11_more 100 = .ok (.iload 4, 2) := by decide +kernel
theorem dX11_more_102 : decode cX11_more 102 = .ok (.istore_n 3, 1) := by decide +kernel
theorem dX11_more_103 : decode cX11_more 103 = .ok (.iinc 4 1, 3) := by decide +kernel
theorem dX11_more_106 : decode cX11_more 106 = .ok (.goto (-59), 3) := by decide +kernel
theorem dX11_more_109 : decode cX11_more 109 = .ok (.iload_n 3, 1) := by decide +kernel
theorem dX11_more_110 : decode cX11_more 110 = .ok (.ireturn, 1) := by decide +kernel
theorem dX11_late_0 : decode cX11_late 0 = .ok (.iload_n 1, 1) := by decide +kernel
theorem dX11_late_1 : decode cX11_late 1 = .ok (.iconst 0, 1) := by decide +kernel
theorem dX11_late_2 : decode cX11_late 2 = .ok (.bipush 99, 2) := by decide +kernel
theorem dX11_late_4 : decode cX11_late 4 = .ok (.invokestatic 81, 3) := by decide +kernel
theorem dX11_late_7 : decode cX11_late 7 = .ok (.ifCond .ne 6, 3) := by decide +kernel
theorem dX11_late_10 : decode cX11_late 10 = .ok (.bipush (-2), 2) := by decide +kernel
theorem dX11_late_12 : decode cX11_late 12 = .ok (.ireturn, 1) := by decide +kernel
theorem dX11_late_13 : decode cX11_late 13 = .ok (.iconst 0, 1) := by decide +kernel
theorem dX11_late_14 : decode cX11_late 14 = .ok (.istore_n 2, 1) := by decide +kernel
theorem dX11_late_15 : decode cX11_late 15 = .ok (.aload_n 0, 1) := by decide +kernel
theorem dX11_late_16 : decode cX11_late 16 = .ok (.getfield 18, 3) := by decide +kernel
theorem dX11_late_19 : decode cX11_late 19 = .ok (.astore_n 3, 1) := by decide +kernel
theorem dX11_late_20 : decode cX11_late 20 = .ok (.aload_n 3, 1) := by decide +kernel
theorem dX11_late_21 : decode cX11_late 21 = .ok (.arraylength, 1) := by decide +kernel
theorem dX11_late_22 : decode cX11_late 22 = .ok (.istore 4, 2) := by decide +kernel
theorem dX11_late_24 : decode cX11_late 24 = .ok (.iconst 0, 1) := by decide +kernel
theorem dX11_late_25 : decode cX11_late 25 = .ok (.istore 5, 2) := by decide +kernel
theorem dX11_late_27 : decode cX11_late 27 = .ok (.iload 5, 2) := by decide +kernel
theorem dX11_late_29 : decode cX11_late 29 = .ok (.iload 4, 2) := by decide +kernel
theorem dX11_late_31 : decode cX11_late 31 = .ok (.if_icmp .ge 39, 3) := by decide +kernel
theorem dX11_late_34 : decode cX11_late 34 = .ok (.aload_n 3, 1) := by decide +kernel
theorem dX11_late_35 : decode cX11_late 35 = .ok (.iload 5, 2) := by decide +kernel
theorem dX11_late_37 : decode cX11_late 37 = .ok (.aaload, 1) := by decide +kernel
theorem dX11_late_38 : decode cX11_late 38 = .ok (.astore 6, 2) := by decide +kernel
theorem dX11_late_40 : decode cX11_late 40 = .ok (.aload 6, 2) := by decide +kernel
theorem dX11_late_42 : decode cX11_late 42 = .ok (.instanceof 232, 3) := by decide +kernel
theorem dX11_late_45 : decode cX11_late 45 = .ok (.ifCond .eq 19, 3) := by decide +kernel
theorem dX11_late_48 : decode cX11_late 48 = .ok (.aload 6, 2) := by decide +kernel
theorem dX11_late_50 : decode cX11_late 50 = .ok (.checkcast 232, 3) := by decide +kernel
theorem dX11_late_53 : decode cX11_late 53 = .ok (.astore 7, 2) := by decide +kernel
theorem dX11_late_55 : decode cX11_late 55 = .ok (.iload_n 2, 1) := by decide +kernel
theorem dX11_late_56 : decode cX11_late 56 = .ok (.aload 7, 2) := by decide +kernel
theorem dX11_late_58 : decode cX11_late 58 = .ok (.iload_n 1, 1) := by decide +kernel
theorem dX11_late_59 : decode cX11_late 59 = .ok (.invokevirtual 234, 3) := by decide +kernel
theorem dX11_late_62 : decode cX11_late 62 = .ok (.iadd, 1) := by decide +kernel
theorem dX11_late_63 : decode cX11_late 63 = .ok (.istore_n 2, 1) := by decide +kernel
theorem dX11_late_64 : decode cX11_late 64 = .ok (.iinc 5 1, 3) := by decide +kernel
theorem dX11_late_67 : decode cX11_late 67 = .ok (.goto (-40), 3) := by decide +kernel
theorem dX11_late_70 : decode cX11_late 70 = .ok (.iload_n 2, 1) := by decide +kernel
theorem dX11_late_71 : decode cX11_late 71 = .ok (.ireturn, 1) := by decide +kernel
theorem dX11_image_0 : decode cX11_image 0 = .ok (.aload_n 0, 1) := by decide +kernel
theorem dX11_image_1 : decode cX11_image 1 = .ok (.iconst 1, 1) := by decide +kernel
theorem dX11_image_2 : decode cX11_image 2 = .ok (.putfield 237, 3) := by decide +kernel
theorem dX11_image_5 : decode cX11_image 5 = .ok (.aload_n 0, 1) := by decide +kernel
theorem dX11_image_6 : decode cX11_image 6 = .ok (.aload_n 0, 1) := by decide +kernel
theorem dX11_image_7 : decode cX11_image 7 = .ok (.getfield 91, 3) := by decide +kernel
theorem dX11_image_10 : decode cX11_image 10 = .ok (.putfield 240, 3) := by decide +kernel
theorem dX11_image_13 : decode cX11_image 13 = .ok (.aload_n 0, 1) := by decide +kernel
theorem dX11_image_14 : decode cX11_image 14 = .ok (.aload_n 0, 1) := by decide +kernel
theorem dX11_image_15 : decode cX11_image 15 = .ok (.getfield 153, 3) := by decide +kernel
theorem dX11_image_18 : decode cX11_image 18 = .ok (.putfield 243, 3) := by decide +kernel
theorem dX11_image_21 : decode cX11_image 21 = .ok (.aload_n 0, 1) := by decide +kernel
theorem dX11_image_22 : decode cX11_image 22 = .ok (.getfield 10, 3) := by decide +kernel
theorem dX11_image_25 : decode cX11_image 25 = .ok (.invokevirtual 246, 3) := by decide +kernel
theorem dX11_image_28 : decode cX11_image 28 = .ok (.aload_n 0, 1) := by decide +kernel
theorem dX11_image_29 : decode cX11_image 29 = .ok (.getfield 18, 3) := by decide +kernel
theorem dX11_image_32 : decode cX11_image 32 = .ok (.astore_n 1, 1) := by decide +kernel
theorem dX11_image_33 : decode cX11_image 33 = .ok (.aload_n 1, 1) := by decide +kernel
theorem dX11_image_34 : decode cX11_image 34 = .ok (.arraylength, 1) := by decide +kernel
theorem dX11_image_35 : decode cX11_image 35 = .ok (.istore_n 2, 1) := by decide +kernel
theorem dX11_image_36 : decode cX11_image 36 = .ok (.iconst 0, 1) := by decide +kernel
theorem dX11_image_37 : decode cX11_image 37 = .ok (.istore_n 3, 1) := by decide +kernel
theorem dX11_image_38 : decode cX11_image 38 = .ok (.iload_n 3, 1) := by decide +kernel
theorem dX11_image_39 : decode cX11_image 39 = .ok (.iload_n 2, 1) := by decide +kernel
theorem dX11_image_40 : decode cX11_image 40 = .ok (.if_icmp .ge 24, 3) := by decide +kernel
theorem dX11_image_43 : decode cX11_image 43 = .ok (.aload_n 1, 1) := by decide +kernel
theorem dX11_image_44 : decode cX11_image 44 = .ok (.iload_n 3, 1) := by decide +kernel
theorem dX11_image_45 : decode cX11_image 45 = .ok (.aaload, 1) := by decide +kernel
theorem dX11_image_46 : decode cX11_image 46 = .ok (.astore 4, 2) := by decide +kernel
theorem dX11_image_48 : decode cX11_image 48 = .ok (.aload 4, 2) := by decide +kernel
theorem dX11_image_50 : decode cX11_image 50 = .ok (.ifnull 8, 3) := by decide +kernel
theorem dX11_image_53 : decode cX11_image 53 = .ok (.aload 4, 2) := by decide +kernel
theorem dX11_image_55 : decode cX11_image 55 = .ok (.invokevirtual 249, 3) := by decide +kernel
theorem dX11_image_58 : decode cX11_image 58 = .ok (.iinc 3 1, 3) := by decide +kernel
theorem dX11_image_61 : decode cX11_image 61 = .ok (.goto (-23), 3) := by decide +kernel
theorem dX11_image_64 : decode cX11_image 64 = .ok (.aload_n 0, 1) := by decide +kernel
theorem dX11_image_65 : decode cX11_image 65 = .ok (.invokevirtual 250, 3) := by decide +kernel
theorem dX11_image_68 : decode cX11_image 68 = .ok (.ireturn, 1) := by decide +kernel
theorem dX11_back_0 : decode cX11_back 0 = .ok (.aload_n 0, 1) := by decide +kernel
theorem dX11_back_1 : decode cX11_back 1 = .ok (.getfield 237, 3) := by decide +kernel
theorem dX11_back_4 : decode cX11_back 4 = .ok (.ifCond .ne 6, 3) := by decide +kernel
theorem dX11_back_7 : decode cX11_back 7 = .ok (.bipush (-3), 2) := by decide +kernel
theorem dX11_back_9 : decode cX11_back 9 = .ok (.ireturn, 1) := by decide +kernel
theorem dX11_back_10 : decode cX11_back 10 = .ok (.aload_n 0, 1) := by decide +kernel
theorem dX11_back_11 : decode cX11_back 11 = .ok (.aload_n 0, 1) := by decide +kernel
theorem dX11_back_12 : decode cX11_back 12 = .ok (.getfield 243, 3) := by decide +kernel
theorem dX11_back_15 : decode cX11_back 15 = .ok (.invokevirtual 156, 3) := by decide +kernel
theorem dX11_back_18 : decode cX11_back 18 = .ok (.aload_n 0, 1) := by decide +kernel
theorem dX11_back_19 : decode cX11_back 19 = .ok (.getfield 10, 3) := by decide +kernel
theorem dX11_back_22 : decode cX11_back 22 = .ok (.invokevirtual 253, 3) := by decide +kernel
theorem dX11_back_25 : decode cX11_back 25 = .ok (.iconst 0, 1) := by decide +kernel
theorem dX11_back_26 : decode cX11_back 26 = .ok (.istore_n 1, 1) := by decide +kernel
theorem dX11_back_27 : decode cX11_back 27 = .ok (.iload_n 1, 1) := by decide +kernel
theorem dX11_back_28 : decode cX11_back 28 = .ok (.aload_n 0, 1) := by decide +kernel
theorem dX11_back_29 : decode cX11_back 29 = .ok (.getfield 240, 3) := by decide +kernel
theorem dX11_back_32 : decode cX11_back 32 = .ok (.if_icmp .ge 23, 3) := by decide +kernel
theorem dX11_back_35 : decode cX11_back 35 = .ok (.aload_n 0, 1) := by decide +kernel
theorem dX11_back_36 : decode cX11_back 36 = .ok (.iload_n 1, 1) := by decide +kernel
theorem dX11_back_37 : decode cX11_back 37 = .ok (.invokevirtual 98, 3) := by decide +kernel
theorem dX11_back_40 : decode cX11_back 40 = .ok (.astore_n 2, 1) := by decide +kernel
theorem dX11_back_41 : decode cX11_back 41 = .ok (.aload_n 2, 1) := by decide +kernel
theorem dX11_back_42 : decode cX11_back 42 = .ok (.ifnull 7, 3) := by decide +kernel
theorem dX11_back_45 : decode cX11_back 45 = .ok (.aload_n 2, 1) := by decide +kernel
theorem dX11_back_46 : decode cX11_back 46 = .ok (.invokevirtual 256, 3) := by decide +kernel
theorem dX11_back_49 : decode cX11_back 49 = .ok (.iinc 1 1, 3) := by decide +kernel
theorem dX11_back_52 : decode cX11_back 52 = .ok (.goto (-25), 3) := by decide +kernel
theorem dX11_back_55 : decode cX11_back 55 = .ok (.aload_n 0, 1) := by decide +kernel
theorem dX11_back_56 : decode cX11_back 56 = .ok (.invokevirtual 250, 3) := by decide +kernel
theorem dX11_back_59 : decode cX11_back 59 = .ok (.ireturn, 1) := by decide +kernel
theorem dX11_count_0 : decode cX11_count 0 = .ok (.iload_n 1, 1) := by decide +kernel
theorem dX11_count_1 : decode cX11_count 1 = .ok (.tableswitch 108 0 8 #[51, 59, 64, 69, 74, 82, 87, 95, 100], 51) := by decide +kernel
theorem dX11_count_52 : decode cX11_count 52 = .ok (.aload_n 0, 1) := by decide +kernel
theorem dX11_count_53 : decode cX11_count 53 = .ok (.getfield 10, 3) := by decide +kernel
theorem dX11_count_56 : decode cX11_count 56 = .ok (.getfield 171, 3) := by decide +kernel
theorem dX11_count_59 : decode cX11_count 59 = .ok (.ireturn, 1) := by decide +kernel
theorem dX11_count_60 : decode cX11_count 60 = .ok (.aload_n 0, 1) := by decide +kernel
theorem dX11_count_61 : decode cX11_count 61 = .ok (.getfield 91, 3) := by decide +kernel
theorem dX11_count_64 : decode cX11_count 64 = .ok (.ireturn, 1) := by decide +kernel
theorem dX11_count_65 : decode cX11_count 65 = .ok (.aload_n 0, 1) := by decide +kernel
theorem dX11_count_66 : decode cX11_count 66 = .ok (.invokevirtual 250, 3) := by decide +kernel
theorem dX11_count_69 : decode cX11_count 69 = .ok (.ireturn, 1) := by decide +kernel
theorem dX11_count_70 : decode cX11_count 70 = .ok (.aload_n 0, 1) := by decide +kernel
theorem dX11_count_71 : decode cX11_count 71 = .ok (.getfield 69, 3) := by decide +kernel
theorem dX11_count_74 : decode cX11_count 74 = .ok (.ireturn, 1) := by decide +kernel
theorem dX11_count_75 : decode cX11_count 75 = .ok (.aload_n 0, 1) := by decide +kernel
theorem dX11_count_76 : decode cX11_count 76 = .ok (.getfield 25, 3) := by decide +kernel
theorem dX11_count_79 : decode cX11_count 79 = .ok (.getfield 140, 3) := by decide +kernel
theorem dX11_count_82 : decode cX11_count 82 = .ok (.ireturn, 1) := by decide +kernel
theorem dX11_count_83 : decode cX11_count 83 = .ok (.aload_n 0, 1) := by decide +kernel
theorem dX11_count_84 : decode cX11_count 84 = .ok (.getfield 153, 3) := by decide +kernel
theorem dX11_count_87 : decode cX11_count 87 = .ok (.ireturn, 1) := by decide +kernel
theorem dX11_count_88 : decode cX11_count 88 = .ok (.aload_n 0, 1) := by decide +kernel
theorem dX11_count_89 : decode cX11_count 89 = .ok (.getfield 10, 3) := by decide +kernel
theorem dX11_count_92 : decode cX11_count 92 = .ok (.invokevirtual 215, 3) := by decide +kernel
theorem dX11_count_95 : decode cX11_count 95 = .ok (.ireturn, 1) := by decide +kernel
theorem dX11_count_96 : decode cX11_count 96 = .ok (.aload_n 0, 1) := by decide +kernel
theorem dX11_count_97 : decode cX11_count 97 = .ok (.invokevirtual 257, 3) := by decide +kernel
theorem dX11_count_100 : decode cX11_count 100 = .ok (.ireturn, 1) := by decide +kernel
theorem dX11_count_101 : decode cX11_count 101 = .ok (.aload_n 0, 1) := by decide +kernel
theorem dX11_count_102 : decode cX11_count 102 = .ok (.getfield 10, 3) := by decide +kernel
theorem dX11_count_105 : decode cX11_count 105 = .ok (.invokevirtual 260, 3) := by decide +kernel
theorem dX11_count_108 : decode cX11_count 108 = .ok (.ireturn, 1) := by decide +kernel
theorem dX11_count_109 : decode cX11_count 109 = .ok (.bipush (-2), 2) := by decide +kernel
theorem dX11_count_111 : decode cX11_count 111 = .ok (.ireturn, 1) := by decide +kernel
theorem dX11_sheet_0 : decode cX11_sheet 0 = .ok (.iload_n 1, 1) := by decide +kernel
theorem dX11_sheet_1 : decode cX11_sheet 1 = .ok (.invokestatic 263, 3) := by decide +kernel
theorem dX11_sheet_4 : decode cX11_sheet 4 = .ok (.ifCond .eq 12, 3) := by decide +kernel
theorem dX11_sheet_7 : decode cX11_sheet 7 = .ok (.iload_n 2, 1) := by decide +kernel
theorem dX11_sheet_8 : decode cX11_sheet 8 = .ok (.iconst (-1), 1) := by decide +kernel
theorem dX11_sheet_9 : decode cX11_sheet 9 = .ok (.iconst 2, 1) := by decide +kernel
theorem dX11_sheet_10 : decode cX11_sheet 10 = .ok (.invokestatic 81, 3) := by decide +kernel
theorem dX11_sheet_13 : decode cX11_sheet 13 = .ok (.ifCond .ne 6, 3) := by decide +kernel
theorem dX11_sheet_16 : decode cX11_sheet 16 = .ok (.bipush (-2), 2) := by decide +kernel
theorem dX11_sheet_18 : decode cX11_sheet 18 = .ok (.ireturn, 1) := by decide +kernel
theorem dX11_sheet_19 : decode cX11_sheet 19 = .ok (.iload_n 2, 1) := by decide +kernel
theorem dX11_sheet_20 : decode cX11_sheet 20 = .ok (.iconst (-1), 1) := by decide +kernel
theorem dX11_sheet_21 : decode cX11_sheet 21 = .ok (.if_icmp .ne 12, 3) := by decide +kernel
theorem dX11_sheet_24 : decode cX11_sheet 24 = .ok (.aload_n 0, 1) := by decide +kernel
theorem dX11_sheet_25 : decode cX11_sheet 25 = .ok (.getfield 54, 3) := by decide +kernel
theorem dX11_sheet_28 : decode cX11_sheet 28 = .ok (.iload_n 1, 1) := by decide +kernel
theorem dX11_sheet_29 : decode cX11_sheet 29 = .ok (.iconst (-1), 1) := by decide +kernel
theorem dX11_sheet_30 : decode cX11_sheet 30 = .ok (.iastore, 1) := by decide +kernel
theorem dX11_sheet_31 : decode cX11_sheet 31 = .ok (.iconst 1, 1) := by decide +kernel
theorem dX11_sheet_32 : decode cX11_sheet 32 = .ok (.ireturn, 1) := by decide +kernel
theorem dX11_sheet_33 : decode cX11_sheet 33 = .ok (.iload_n 3, 1) := by decide +kernel
theorem dX11_sheet_34 : decode cX11_sheet 34 = .ok (.bipush 40, 2) := by decide +kernel
theorem dX11_sheet_36 : decode cX11_sheet 36 = .ok (.if_icmp .le 6, 3) := by decide +kernel
theorem dX11_sheet_39 : decode cX11_sheet 39 = .ok (.bipush (-2), 2) := by decide +kernel
theorem dX11_sheet_41 : decode cX11_sheet 41 = .ok (.ireturn, 1) := by decide +kernel
theorem dX11_sheet_42 : decode cX11_sheet 42 = .ok (.iload_n 3, 1) := by decide +kernel
theorem dX11_sheet_43 : decode cX11_sheet 43 = .ok (.ifCond .ge 6, 3) := by decide +kernel
theorem dX11_sheet_46 : decode cX11_sheet 46 = .ok (.bipush (-14), 2) := by decide +kernel
theorem dX11_sheet_48 : decode cX11_sheet 48 = .ok (.ireturn, 1) := by decide +kernel
theorem dX11_sheet_49 : decode cX11_sheet 49 = .ok (.aload_n 0, 1) := by decide +kernel
theorem dX11_sheet_50 : decode cX11_sheet 50 = .ok (.getfield 54, 3) := by decide +kernel
theorem dX11_sheet_53 : decode cX11_sheet 53 = .ok (.iload_n 1, 1) := by decide +kernel
theorem dX11_sheet_54 : decode cX11_sheet 54 = .ok (.iload_n 2, 1) := by decide +kernel
theorem dX11_sheet_55 : decode cX11_sheet 55 = .ok (.iastore, 1) := by decide +kernel
theorem dX11_sheet_56 : decode cX11_sheet 56 = .ok (.aload_n 0, 1) := by decide +kernel
theorem dX11_sheet_57 : decode cX11_sheet 57 = .ok (.getfield 58, 3) := by decide +kernel
theorem dX11_sheet_60 : decode cX11_sheet 60 = .ok (.iload_n 1, 1) := by decide +kernel
theorem dX11_sheet_61 : decode cX11_sheet 61 = .ok (.iload_n 3, 1) := by decide +kernel
theorem dX11_sheet_62 : decode cX11_sheet 62 = .ok (.iastore, 1) := by decide +kernel
theorem dX11_sheet_63 : decode cX11_sheet 63 = .ok (.aload_n 0, 1) := by decide +kernel
theorem dX11_sheet_64 : decode cX11_sheet 64 = .ok (.getfield 51, 3) := by decide +kernel
theorem dX11_sheet_67 : decode cX11_sheet 67 = .ok (.iload_n 1, 1) := by decide +kernel
theorem dX11_sheet_68 : decode cX11_sheet 68 = .ok (.aaload, 1) := by decide +kernel
theorem dX11_sheet_69 : decode cX11_sheet 69 = .ok (.iconst 0, 1) := by decide +kernel
theorem dX11_sheet_70 : decode cX11_sheet 70 = .ok (.invokestatic 266, 3) := by decide +kernel
theorem dX11_sheet_73 : decode cX11_sheet 73 = .ok (.iconst 1, 1) := by decide +kernel
theorem dX11_sheet_74 : decode cX11_sheet 74 = .ok (.ireturn, 1) := by decide +kernel
theorem dX11_cell_0 : decode cX11_cell 0 = .ok (.iload_n 1, 1) := by decide +kernel
theorem dX11_cell_1 : decode cX11_cell 1 = .ok (.invokestatic 263, 3) := by decide +kernel
theorem dX11_cell_4 : decode cX11_cell 4 = .ok (.ifCond .ne 6, 3) := by decide +kernel
theorem dX11_cell_7 : decode cX11_cell 7 = .ok (.bipush (-2), 2) := by decide +kernel
theorem dX11_cell_9 : decode cX11_cell 9 = .ok (.ireturn, 1) := by decide +kernel
theorem dX11_cell_10 : decode cX11_cell 10 = .ok (.aload_n 0, 1) := by decide +kernel
theorem dX11_cell_11 : decode cX11_cell 11 = .ok (.getfield 54, 3) := by decide +kernel
theorem dX11_cell_14 : decode cX11_cell 14 = .ok (.iload_n 1, 1) := by decide +kernel
theorem dX11_cell_15 : decode cX11_cell 15 = .ok (.iaload, 1) := by decide +kernel
theorem dX11_cell_16 : decode cX11_cell 16 = .ok (.iconst (-1), 1) := by decide +kernel
theorem dX11_cell_17 : decode cX11_cell 17 = .ok (.if_icmp .ne 6, 3) := by decide +kernel
theorem dX11_cell_20 : decode cX11_cell 20 = .ok (.bipush (-11), 2) := by decide +kernel
theorem dX11_cell_22 : decode cX11_cell 22 = .ok (.ireturn, 1) := by decide +kernel
theorem dX11_cell_23 : decode cX11_cell 23 = .ok (.iload_n 2, 1) := by decide +kernel
theorem dX11_cell_24 : decode cX11_cell 24 = .ok (.iconst 0, 1) := by decide +kernel
theorem dX11_cell_25 : decode cX11_cell 25 = .ok (.aload_n 0, 1) := by decide +kernel
theorem dX11_cell_26 : decode cX11_cell 26 = .ok (.getfield 58, 3) := by decide +kernel
theorem dX11_cell_29 : decode cX11_cell 29 = .ok (.iload_n 1, 1) := by decide +kernel
theorem dX11_cell_30 : decode cX11_cell 30 = .ok (.iaload, 1) := by decide +kernel
theorem dX11_cell_31 : decode cX11_cell 31 = .ok (.iconst 1, 1) := by decide +kernel
theorem dX11_cell_32 : decode cX11_cell 32 = .ok (.isub, 1) := by decide +kernel
theorem dX11_cell_33 : decode cX11_cell 33 = .ok (.invokestatic 81, 3) := by decide +kernel
theorem dX11_cell_36 : decode cX11_cell 36 = .ok (.ifCond .ne 6, 3) := by decide +kernel
theorem dX11_cell_39 : decode cX11_cell 39 = .ok (.bipush (-12), 2) := by decide +kernel
theorem dX11_cell_41 : decode cX11_cell 41 = .ok (.ireturn, 1) := by decide +kernel
theorem dX11_cell_42 : decode cX11_cell 42 = .ok (.aload_n 0, 1) := by decide +kernel
theorem dX11_cell_43 : decode cX11_cell 43 = .ok (.getfield 51, 3) := by decide +kernel
theorem dX11_cell_46 : decode cX11_cell 46 = .ok (.iload_n 1, 1) := by decide +kernel
theorem dX11_cell_47 : decode cX11_cell 47 = .ok (.aaload, 1) := by decide +kernel
theorem dX11_cell_48 : decode cX11_cell 48 = .ok (.iload_n 2, 1) := by decide +kernel
theorem dX11_cell_49 : decode cX11_cell 49 = .ok (.aload_n 0, 1) := by decide +kernel
theorem dX11_cell_50 : decode cX11_cell 50 = .ok (.getfield 54, 3) := by decide +kernel
theorem dX11_cell_53 : decode cX11_cell 53 = .ok (.iload_n 1, 1) := by decide +kernel
theorem dX11_cell_54 : decode cX11_cell 54 = .ok (.iaload, 1) := by decide +kernel
theorem dX11_cell_55 : decode cX11_cell 55 = .ok (.iload_n 3, 1) := by decide +kernel
theorem dX11_cell_56 : decode cX11_cell 56 = .ok (.invokestatic 272, 3) := by decide +kernel
theorem dX11_cell_59 : decode cX11_cell 59 = .ok (.iastore, 1) := by decide +kernel
theorem dX11_cell_60 : decode cX11_cell 60 = .ok (.iconst 1, 1) := by decide +kernel
theorem dX11_cell_61 : decode cX11_cell 61 = .ok (.ireturn, 1) := by decide +kernel
theorem dX11_copy_0 : decode cX11_copy 0 = .ok (.iload_n 1, 1) := by decide +kernel
theorem dX11_copy_1 : decode cX11_copy 1 = .ok (.invokestatic 263, 3) := by decide +kernel
theorem dX11_copy_4 : decode cX11_copy 4 = .ok (.ifCond .eq 10, 3) := by decide +kernel
theorem dX11_copy_7 : decode cX11_copy 7 = .ok (.iload_n 3, 1) := by decide +kernel
theorem dX11_copy_8 : decode cX11_copy 8 = .ok (.invokestatic 263, 3) := by decide +kernel
theorem dX11_copy_11 : decode cX11_copy 11 = .ok (.ifCond .ne 6, 3) := by decide +kernel
theorem dX11_copy_14 : decode cX11_copy 14 = .ok (.bipush (-2), 2) := by decide +kernel
theorem dX11_copy_16 : decode cX11_copy 16 = .ok (.ireturn, 1) := by decide +kernel
theorem dX11_copy_17 : decode cX11_copy 17 = .ok (.aload_n 0, 1) := by decide +kernel
theorem dX11_copy_18 : decode cX11_copy 18 = .ok (.getfield 54, 3) := by decide +kernel
theorem dX11_copy_21 : decode cX11_copy 21 = .ok (.iload_n 1, 1) := by decide +kernel
theorem dX11_copy_22 : decode cX11_copy 22 = .ok (.iaload, 1) := by decide +kernel
theorem dX11_copy_23 : decode cX11_copy 23 = .ok (.iconst (-1), 1) := by decide +kernel
theorem dX11_copy_24 : decode cX11_copy 24 = .ok (.if_icmp .eq 13, 3) := by decide +kernel
theorem dX11_copy_27 : decode cX11_copy 27 = .ok (.aload_n 0, 1) := by decide +kernel
theorem dX11_copy_28 : decode cX11_copy 28 = .ok (.getfield 54, 3) := by decide +kernel
theorem dX11_copy_31 : decode cX11_copy 31 = .ok (.iload_n 3, 1) := by decide +kernel
theorem dX11_copy_32 : decode cX11_copy 32 = .ok (.iaload, 1) := by decide +kernel
theorem dX11_copy_33 : decode cX11_copy 33 = .ok (.iconst (-1), 1) := by decide +kernel
theorem dX11_copy_34 : decode cX11_copy 34 = .ok (.if_icmp .ne 6, 3) := by decide +kernel
theorem dX11_copy_37 : decode cX11_copy 37 = .ok (.bipush (-11), 2) := by decide +kernel
theorem dX11_copy_39 : decode cX11_copy 39 = .ok (.ireturn, 1) := by decide +kernel
theorem dX11_copy_40 : decode cX11_copy 40 = .ok (.aload_n 0, 1) := by decide +kernel
theorem dX11_copy_41 : decode cX11_copy 41 = .ok (.getfield 54, 3) := by decide +kernel
theorem dX11_copy_44 : decode cX11_copy 44 = .ok (.iload_n 1, 1) := by decide +kernel
theorem dX11_copy_45 : decode cX11_copy 45 = .ok (.iaload, 1) := by decide +kernel
theorem dX11_copy_46 : decode cX11_copy 46 = .ok (.aload_n 0, 1) := by decide +kernel
theorem dX11_copy_47 : decode cX11_copy 47 = .ok (.getfield 54, 3) := by decide +kernel
theorem dX11_copy_50 : decode cX11_copy 50 = .ok (.iload_n 3, 1) := by decide +kernel
theorem dX11_copy_51 : decode cX11_copy 51 = .ok (.iaload, 1) := by decide +kernel
theorem dX11_copy_52 : decode cX11_copy 52 = .ok (.if_icmp .eq 6, 3) := by decide +kernel
theorem dX11_copy_55 : decode cX11_copy 55 = .ok (.bipush (-13), 2) := by decide +kernel
theorem dX11_copy_57 : decode cX11_copy 57 = .ok (.ireturn, 1) := by decide +kernel
theorem dX11_copy_58 : decode cX11_copy 58 = .ok (.aload_n 0, 1) := by decide +kernel
theorem dX11_copy_59 : decode cX11_copy 59 = .ok (.iload_n 1, 1) := by decide +kernel
theorem dX11_copy_60 : decode cX11_copy 60 = .ok (.iload_n 2, 1) := by decide +kernel
theorem dX11_copy_61 : decode cX11_copy 61 = .ok (.iload 5, 2) := by decide +kernel
theorem dX11_copy_63 : decode cX11_copy 63 = .ok (.invokevirtual 275, 3) := by decide +kernel
theorem dX11_copy_66 : decode cX11_copy 66 = .ok (.ifCond .eq 15, 3) := by decide +kernel
theorem dX11_copy_69 : decode cX11_copy 69 = .ok (.aload_n 0, 1) := by decide +kernel
theorem dX11_copy_70 : decode cX11_copy 70 = .ok (.iload_n 3, 1) := by decide +kernel
theorem dX11_copy_71 : decode cX11_copy 71 = .ok (.iload 4, 2) := by decide +kernel
theorem dX11_copy_73 : decode cX11_copy 73 = .ok (.iload 5, 2) := by decide +kernel
theorem dX11_copy_75 : decode cX11_copy 75 = .ok (.invokevirtual 275, 3) := by decide +kernel
theorem dX11_copy_78 : decode cX11_copy 78 = .ok (.ifCond .ne 6, 3) := by decide +kernel
theorem dX11_copy_81 : decode cX11_copy 81 = .ok (.bipush (-12), 2) := by decide +kernel
theorem dX11_copy_83 : decode cX11_copy 83 = .ok (.ireturn, 1) := by decide +kernel
theorem dX11_copy_84 : decode cX11_copy 84 = .ok (.aload_n 0, 1) := by decide +kernel
theorem dX11_copy_85 : decode cX11_copy 85 = .ok (.getfield 51, 3) := by decide +kernel
theorem dX11_copy_88 : decode cX11_copy 88 = .ok (.iload_n 1, 1) := by decide +kernel
theorem dX11_copy_89 : decode cX11_copy 89 = .ok (.aaload, 1) := by decide +kernel
theorem dX11_copy_90 : decode cX11_copy 90 = .ok (.iload_n 2, 1) := by decide +kernel
theorem dX11_copy_91 : decode cX11_copy 91 = .ok (.aload_n 0, 1) := by decide +kernel
theorem dX11_copy_92 : decode cX11_copy 92 = .ok (.getfield 51, 3) := by decide +kernel
theorem dX11_copy_95 : decode cX11_copy 95 = .ok (.iload_n 3, 1) := by decide +kernel
theorem dX11_copy_96 : decode cX11_copy 96 = .ok (.aaload, 1) := by decide +kernel
theorem dX11_copy_97 : decode cX11_copy 97 = .ok (.iload 4, 2) := by decide +kernel
theorem dX11_copy_99 : decode cX11_copy 99 = .ok (.iload 5, 2) := by decide +kernel
theorem dX11_copy_101 : decode cX11_copy 101 = .ok (.invokestatic 278, 3) := by decide +kernel
theorem dX11_copy_104 : decode cX11_copy 104 = .ok (.iload 5, 2) := by decide +kernel
theorem dX11_copy_106 : decode cX11_copy 106 = .ok (.ireturn, 1) := by decide +kernel
theorem dX11_hanks_0 : decode cX11_hanks 0 = .ok (.iload_n 1, 1) := by decide +kernel
theorem dX11_hanks_1 : decode cX11_hanks 1 = .ok (.invokestatic 263, 3) := by decide +kernel
theorem dX11_hanks_4 : decode cX11_hanks 4 = .ok (.ifCond .eq 23, 3) := by decide +kernel
theorem dX11_hanks_7 : decode cX11_hanks 7 = .ok (.iload_n 2, 1) := by decide +kernel
theorem dX11_hanks_8 : decode cX11_hanks 8 = .ok (.iconst 0, 1) := by decide +kernel
theorem dX11_hanks_9 : decode cX11_hanks 9 = .ok (.iconst 2, 1) := by decide +kernel
theorem dX11_hanks_10 : decode cX11_hanks 10 = .ok (.invokestatic 81, 3) := by decide +kernel
theorem dX11_hanks_13 : decode cX11_hanks 13 = .ok (.ifCond .eq 14, 3) := by decide +kernel
theorem dX11_hanks_16 : decode cX11_hanks 16 = .ok (.iload 4, 2) := by decide +kernel
theorem dX11_hanks_18 : decode cX11_hanks 18 = .ok (.iconst 0, 1) := by decide +kernel
theorem dX11_hanks_19 : decode cX11_hanks 19 = .ok (.bipush 12, 2) := by decide +kernel
theorem dX11_hanks_21 : decode cX11_hanks 21 = .ok (.invokestatic 81, 3) := by decide +kernel
theorem dX11_hanks_24 : decode cX11_hanks 24 = .ok (.ifCond .ne 6, 3) := by decide +kernel
theorem dX11_hanks_27 : decode cX11_hanks 27 = .ok (.bipush (-2), 2) := by decide +kernel
theorem dX11_hanks_29 : decode cX11_hanks 29 = .ok (.ireturn, 1) := by decide +kernel
theorem dX11_hanks_30 : decode cX11_hanks 30 = .ok (.aload_n 0, 1) := by decide +kernel
theorem dX11_hanks_31 : decode cX11_hanks 31 = .ok (.getfield 54, 3) := by decide +kernel
theorem dX11_hanks_34 : decode cX11_hanks 34 = .ok (.iload_n 1, 1) := by decide +kernel
theorem dX11_hanks_35 : decode cX11_hanks 35 = .ok (.iaload, 1) := by decide +kernel
theorem dX11_hanks_36 : decode cX11_hanks 36 = .ok (.iconst (-1), 1) := by decide +kernel
theorem dX11_hanks_37 : decode cX11_hanks 37 = .ok (.if_icmp .ne 6, 3) := by decide +kernel
theorem dX11_hanks_40 : decode cX11_hanks 40 = .ok (.bipush (-11), 2) := by decide +kernel
theorem dX11_hanks_42 : decode cX11_hanks 42 = .ok (.ireturn, 1) := by decide +kernel
theorem dX11_hanks_43 : decode cX11_hanks 43 = .ok (.aload_n 0, 1) := by decide +kernel
theorem dX11_hanks_44 : decode cX11_hanks 44 = .ok (.getfield 54, 3) := by decide +kernel
theorem dX11_hanks_47 : decode cX11_hanks 47 = .ok (.iload_n 1, 1) := by decide +kernel
theorem dX11_hanks_48 : decode cX11_hanks 48 = .ok (.iaload, 1) := by decide +kernel
theorem dX11_hanks_49 : decode cX11_hanks 49 = .ok (.iload_n 2, 1) := by decide +kernel
theorem dX11_hanks_50 : decode cX11_hanks 50 = .ok (.if_icmp .eq 6, 3) := by decide +kernel
theorem dX11_hanks_53 : decode cX11_hanks 53 = .ok (.bipush (-13), 2) := by decide +kernel
theorem dX11_hanks_55 : decode cX11_hanks 55 = .ok (.ireturn, 1) := by decide +kernel
theorem dX11_hanks_56 : decode cX11_hanks 56 = .ok (.iconst 0, 1) := by decide +kernel
theorem dX11_hanks_57 : decode cX11_hanks 57 = .ok (.istore 5, 2) := by decide +kernel
theorem dX11_hanks_59 : decode cX11_hanks 59 = .ok (.iconst 0, 1) := by decide +kernel
theorem dX11_hanks_60 : decode cX11_hanks 60 = .ok (.istore 6, 2) := by decide +kernel
theorem dX11_hanks_62 : decode cX11_hanks 62 = .ok (.iload 6, 2) := by decide +kernel
theorem dX11_hanks_64 : decode cX11_hanks 64 = .ok (.iload 4, 2) := by decide +kernel
theorem dX11_hanks_66 : decode cX11_hanks 66 = .ok (.if_icmp .ge 71, 3) := by decide +kernel
theorem dX11_hanks_69 : decode cX11_hanks 69 = .ok (.iload_n 3, 1) := by decide +kernel
theorem dX11_hanks_70 : decode cX11_hanks 70 = .ok (.iconst 3, 1) := by decide +kernel
theorem dX11_hanks_71 : decode cX11_hanks 71 = .ok (.iload 6, 2) := by decide +kernel
theorem dX11_hanks_73 : decode cX11_hanks 73 = .ok (.imul, 1) := by decide +kernel
theorem dX11_hanks_74 : decode cX11_hanks 74 = .ok (.iadd, 1) := by decide +kernel
theorem dX11_hanks_75 : decode cX11_hanks 75 = .ok (.istore 7, 2) := by decide +kernel
theorem dX11_hanks_77 : decode cX11_hanks 77 = .ok (.aload_n 0, 1) := by decide +kernel
theorem dX11_hanks_78 : decode cX11_hanks 78 = .ok (.iload_n 1, 1) := by decide +kernel
theorem dX11_hanks_79 : decode cX11_hanks 79 = .ok (.iload 7, 2) := by decide +kernel
theorem dX11_hanks_81 : decode cX11_hanks 81 = .ok (.iconst 3, 1) := by decide +kernel
theorem dX11_hanks_82 : decode cX11_hanks 82 = .ok (.invokevirtual 275, 3) := by decide +kernel
theorem dX11_hanks_85 : decode cX11_hanks 85 = .ok (.ifCond .ne 6, 3) := by decide +kernel
theorem dX11_hanks_88 : decode cX11_hanks 88 = .ok (.bipush (-12), 2) := by decide +kernel
theorem dX11_hanks_90 : decode cX11_hanks 90 = .ok (.ireturn, 1) := by decide +kernel
theorem dX11_hanks_91 : decode cX11_hanks 91 = .ok (.aload_n 0, 1) := by decide +kernel
theorem dX11_hanks_92 : decode cX11_hanks 92 = .ok (.getfield 51, 3) := by decide +kernel
theorem dX11_hanks_95 : decode cX11_hanks 95 = .ok (.iload_n 1, 1) := by decide +kernel
theorem dX11_hanks_96 : decode cX11_hanks 96 = .ok (.aaload, 1) := by decide +kernel
theorem dX11_hanks_97 : decode cX11_hanks 97 = .ok (.astore 8, 2) := by decide +kernel
theorem dX11_hanks_99 : decode cX11_hanks 99 = .ok (.aload_n 0, 1) := by decide +kernel
theorem dX11_hanks_100 : decode cX11_hanks 100 = .ok (.getfield 10, 3) := by decide +kernel
theorem dX11_hanks_103 : decode cX11_hanks 103 = .ok (.aload 8, 2) := by decide +kernel
theorem dX11_hanks_105 : decode cX11_hanks 105 = .ok (.iload 7, 2) := by decide +kernel
theorem dX11_hanks_107 : decode cX11_hanks 107 = .ok (.iaload, 1) := by decide +kernel
theorem dX11_hanks_108 : decode cX11_hanks 108 = .ok (.aload 8, 2) := by decide +kernel
theorem dX11_hanks_110 : decode cX11_hanks 110 = .ok (.iload 7, 2) := by decide +kernel
theorem dX11_hanks_112 : decode cX11_hanks 112 = .ok (.iconst 1, 1) := by decide +kernel
theorem dX11_hanks_113 : decode cX11_hanks 113 = .ok (.iadd, 1) := by decide +kernel
theorem dX11_hanks_114 : decode cX11_hanks 114 = .ok (.iaload, 1) := by decide +kernel
theorem dX11_hanks_115 : decode cX11_hanks 115 = .ok (.aload 8, 2) := by decide +kernel
theorem dX11_hanks_117 : decode cX11_hanks 117 = .ok (.iload 7, 2) := by decide +kernel
theorem dX11_hanks_119 : decode cX11_hanks 119 = .ok (.iconst 2, 1) := by decide +kernel
theorem dX11_hanks_120 : decode cX11_hanks 120 = .ok (.iadd, 1) := by decide +kernel
theorem dX11_hanks_121 : decode cX11_hanks 121 = .ok (.iaload, 1) := by decide +kernel
theorem dX11_hanks_122 : decode cX11_hanks 122 = .ok (.invokevirtual 73, 3) := by decide +kernel
theorem dX11_hanks_125 : decode cX11_hanks 125 = .ok (.ifCond .lt 6, 3) := by decide +kernel
theorem dX11_hanks_128 : decode cX11_hanks 128 = .ok (.iinc 5 1, 3) := by decide +kernel
theorem dX11_hanks_131 : decode cX11_hanks 131 = .ok (.iinc 6 1, 3) := by decide +kernel
theorem dX11_hanks_134 : decode cX11_hanks 134 = .ok (.goto (-72), 3) := by decide +kernel
theorem dX11_hanks_137 : decode cX11_hanks 137 = .ok (.iload 5, 2) := by decide +kernel
theorem dX11_hanks_139 : decode cX11_hanks 139 = .ok (.ireturn, 1) := by decide +kernel
theorem dX11_taken_0 : decode cX11_taken 0 = .ok (.iload_n 2, 1) := by decide +kernel
theorem dX11_taken_1 : decode cX11_taken 1 = .ok (.iconst 0, 1) := by decide +kernel
theorem dX11_taken_2 : decode cX11_taken 2 = .ok (.iconst 5, 1) := by decide +kernel
theorem dX11_taken_3 : decode cX11_taken 3 = .ok (.invokestatic 81, 3) := by decide +kernel
theorem dX11_taken_6 : decode cX11_taken 6 = .ok (.ifCond .ne 6, 3) := by decide +kernel
theorem dX11_taken_9 : decode cX11_taken 9 = .ok (.bipush (-2), 2) := by decide +kernel
theorem dX11_taken_11 : decode cX11_taken 11 = .ok (.ireturn, 1) := by decide +kernel
theorem dX11_taken_12 : decode cX11_taken 12 = .ok (.aload_n 0, 1) := by decide +kernel
theorem dX11_taken_13 : decode cX11_taken 13 = .ok (.iload_n 1, 1) := by decide +kernel
theorem dX11_taken_14 : decode cX11_taken 14 = .ok (.invokevirtual 98, 3) := by decide +kernel
theorem dX11_taken_17 : decode cX11_taken 17 = .ok (.astore_n 3, 1) := by decide +kernel
theorem dX11_taken_18 : decode cX11_taken 18 = .ok (.aload_n 3, 1) := by decide +kernel
theorem dX11_taken_19 : decode cX11_taken 19 = .ok (.ifnonnull 6, 3) := by decide +kernel
theorem dX11_taken_22 : decode cX11_taken 22 = .ok (.bipush (-11), 2) := by decide +kernel
theorem dX11_taken_24 : decode cX11_taken 24 = .ok (.ireturn, 1) := by decide +kernel
theorem dX11_taken_25 : decode cX11_taken 25 = .ok (.aload_n 3, 1) := by decide +kernel
theorem dX11_taken_26 : decode cX11_taken 26 = .ok (.iload_n 2, 1) := by decide +kernel
theorem dX11_taken_27 : decode cX11_taken 27 = .ok (.invokestatic 284, 3) := by decide +kernel
theorem dX11_taken_30 : decode cX11_taken 30 = .ok (.ifCond .eq 10, 3) := by decide +kernel
theorem dX11_taken_33 : decode cX11_taken 33 = .ok (.aload_n 3, 1) := by decide +kernel
theorem dX11_taken_34 : decode cX11_taken 34 = .ok (.getfield 288, 3) := by decide +kernel
theorem dX11_taken_37 : decode cX11_taken 37 = .ok (.goto 5, 3) := by decide +kernel
theorem dX11_taken_40 : decode cX11_taken 40 = .ok (.bipush (-13), 2) := by decide +kernel
theorem dX11_taken_42 : decode cX11_taken 42 = .ok (.ireturn, 1) := by decide +kernel
theorem dX11_isWithin_0 : decode cX11_isWithin 0 = .ok (.iload_n 0, 1) := by decide +kernel
theorem dX11_isWithin_1 : decode cX11_isWithin 1 = .ok (.iload_n 1, 1) := by decide +kernel
theorem dX11_isWithin_2 : decode cX11_isWithin 2 = .ok (.if_icmp .lt 12, 3) := by decide +kernel
theorem dX11_isWithin_5 : decode cX11_isWithin 5 = .ok (.iload_n 0, 1) := by decide +kernel
theorem dX11_isWithin_6 : decode cX11_isWithin 6 = .ok (.iload_n 2, 1) := by decide +kernel
theorem dX11_isWithin_7 : decode cX11_isWithin 7 = .ok (.if_icmp .gt 7, 3) := by decide +kernel
theorem dX11_isWithin_10 : decode cX11_isWithin 10 = .ok (.iconst 1, 1) := by decide +kernel
theorem dX11_isWithin_11 : decode cX11_isWithin 11 = .ok (.goto 4, 3) := by decide +kernel
theorem dX11_isWithin_14 : decode cX11_isWithin 14 = .ok (.iconst 0, 1) := by decide +kernel
theorem dX11_isWithin_15 : decode cX11_isWithin 15 = .ok (.ireturn, 1) := by decide +kernel
theorem dX11_hasBit_0 : decode cX11_hasBit 0 = .ok (.iload_n 0, 1) := by decide +kernel
theorem dX11_hasBit_1 : decode cX11_hasBit 1 = .ok (.iload_n 1, 1) := by decide +kernel
theorem dX11_hasBit_2 : decode cX11_hasBit 2 = .ok (.ishr, 1) := by decide +kernel
theorem dX11_hasBit_3 : decode cX11_hasBit 3 = .ok (.iconst 1, 1) := by decide +kernel
theorem dX11_hasBit_4 : decode cX11_hasBit 4 = .ok (.iand, 1) := by decide +kernel
theorem dX11_hasBit_5 : decode cX11_hasBit 5 = .ok (.iconst 1, 1) := by decide +kernel
theorem dX11_hasBit_6 : decode cX11_hasBit 6 = .ok (.if_icmp .ne 7, 3) := by decide +kernel
theorem dX11_hasBit_9 : decode cX11_hasBit 9 = .ok (.iconst 1, 1) := by decide +kernel
theorem dX11_hasBit_10 : decode cX11_hasBit 10 = .ok (.goto 4, 3) := by decide +kernel
theorem dX11_hasBit_13 : decode cX11_hasBit 13 = .ok (.iconst 0, 1) := by decide +kernel
theorem dX11_hasBit_14 : decode cX11_hasBit 14 = .ok (.ireturn, 1) := by decide +kernel
theorem dX11_clamp_0 : decode cX11_clamp 0 = .ok (.iconst 0, 1) := by decide +kernel
theorem dX11_clamp_1 : decode cX11_clamp 1 = .ok (.iload_n 0, 1) := by decide +kernel
theorem dX11_clamp_2 : decode cX11_clamp 2 = .ok (.iload_n 1, 1) := by decide +kernel
theorem dX11_clamp_3 : decode cX11_clamp 3 = .ok (.invokestatic 291, 3) := by decide +kernel
theorem dX11_clamp_6 : decode cX11_clamp 6 = .ok (.invokestatic 176, 3) := by decide +kernel
theorem dX11_clamp_9 : decode cX11_clamp 9 = .ok (.ireturn, 1) := by decide +kernel
theorem dX11_hankOf_0 : decode cX11_hankOf 0 = .ok (.iload_n 0, 1) := by decide +kernel
theorem dX11_hankOf_1 : decode cX11_hankOf 1 = .ok (.getstatic 294, 3) := by decide +kernel
theorem dX11_hankOf_4 : decode cX11_hankOf 4 = .ok (.iload_n 1, 1) := by decide +kernel
theorem dX11_hankOf_5 : decode cX11_hankOf 5 = .ok (.iaload, 1) := by decide +kernel
theorem dX11_hankOf_6 : decode cX11_hankOf 6 = .ok (.idiv, 1) := by decide +kernel
theorem dX11_hankOf_7 : decode cX11_hankOf 7 = .ok (.bipush 6, 2) := by decide +kernel
theorem dX11_hankOf_9 : decode cX11_hankOf 9 = .ok (.irem, 1) := by decide +kernel
theorem dX11_hankOf_10 : decode cX11_hankOf 10 = .ok (.ireturn, 1) := by decide +kernel
theorem dX11_newCoat_0 : decode cX11_newCoat 0 = .ok (.iload_n 2, 1) := by decide +kernel
theorem dX11_newCoat_1 : decode cX11_newCoat 1 = .ok (.sipush 1000, 3) := by decide +kernel
theorem dX11_newCoat_4 : decode cX11_newCoat 4 = .ok (.idiv, 1) := by decide +kernel
theorem dX11_newCoat_5 : decode cX11_newCoat 5 = .ok (.istore_n 3, 1) := by decide +kernel
theorem dX11_newCoat_6 : decode cX11_newCoat 6 = .ok (.iload_n 2, 1) := by decide +kernel
theorem dX11_newCoat_7 : decode cX11_newCoat 7 = .ok (.sipush 1000, 3) := by decide +kernel
theorem dX11_newCoat_10 : decode cX11_newCoat 10 = .ok (.irem, 1) := by decide +kernel
theorem dX11_newCoat_11 : decode cX11_newCoat 11 = .ok (.istore 4, 2) := by decide +kernel
theorem dX11_newCoat_13 : decode cX11_newCoat 13 = .ok (.iload_n 0, 1) := by decide +kernel
theorem dX11_newCoat_14 : decode cX11_newCoat 14 = .ok (.tableswitch 99 1 5 #[34, 47, 60, 73, 86], 34) := by decide +kernel
theorem dX11_newCoat_48 : decode cX11_newCoat 48 = .ok (.new 297, 3) := by decide +kernel
theorem dX11_newCoat_51 : decode cX11_newCoat 51 = .ok (.dup, 1) := by decide +kernel
theorem dX11_newCoat_52 : decode cX11_newCoat 52 = .ok (.iload_n 0, 1) := by decide +kernel
theorem dX11_newCoat_53 : decode cX11_newCoat 53 = .ok (.iload_n 1, 1) := by decide +kernel
theorem dX11_newCoat_54 : decode cX11_newCoat 54 = .ok (.iload_n 3, 1) := by decide +kernel
theorem dX11_newCoat_55 : decode cX11_newCoat 55 = .ok (.iload 4, 2) := by decide +kernel
theorem dX11_newCoat_57 : decode cX11_newCoat 57 = .ok (.invokespecial 299, 3) := by decide +kernel
theorem dX11_newCoat_60 : decode cX11_newCoat 60 = .ok (.areturn, 1) := by decide +kernel
theorem dX11_newCoat_61 : decode cX11_newCoat 61 = .ok (.new 302, 3) := by decide +kernel
theorem dX11_newCoat_64 : decode cX11_newCoat 64 = .ok (.dup, 1) := by decide +kernel
theorem dX11_newCoat_65 : decode cX11_newCoat 65 = .ok (.iload_n 0, 1) := by decide +kernel
theorem dX11_newCoat_66 : decode cX11_newCoat 66 = .ok (.iload_n 1, 1) := by decide +kernel
theorem dX11_newCoat_67 : decode cX11_newCoat 67 = .ok (.iload_n 3, 1) := by decide +kernel
theorem dX11_newCoat_68 : decode cX11_newCoat 68 = .ok (.iload 4, 2) := by decide +kernel
theorem dX11_newCoat_70 : decode cX11_newCoat 70 = .ok (.invokespecial 304, 3) := by decide +kernel
theorem dX11_newCoat_73 : decode cX11_newCoat 73 = .ok (.areturn, 1) := by decide +kernel
theorem dX11_newCoat_74 : decode cX11_newCoat 74 = .ok (.new 305, 3) := by decide +kernel
theorem dX11_newCoat_77 : decode cX11_newCoat 77 = .ok (.dup, 1) := by decide +kernel
theorem dX11_newCoat_78 : decode cX11_newCoat 78 = .ok (.iload_n 0, 1) := by decide +kernel
theorem dX11_newCoat_79 : decode cX11_newCoat 79 = .ok (.iload_n 1, 1) := by decide +kernel
theorem dX11_newCoat_80 : decode cX11_newCoat 80 = .ok (.iload_n 3, 1) := by decide +kernel
theorem dX11_newCoat_81 : decode cX11_newCoat 81 = .ok (.iload 4, 2) := by decide +kernel
theorem dX11_newCoat_83 : decode cX11_newCoat 83 = .ok (.invokespecial 307, 3) := by decide +kernel
theorem dX11_newCoat_86 : decode cX11_newCoat 86 = .ok (.areturn, 1) := by decide +kernel
theorem dX11_newCoat_87 : decode cX11_newCoat 87 = .ok (.new 232, 3) := by decide +kernel
theorem dX11_newCoat_90 : decode cX11_newCoat 90 = .ok (.dup, 1) := by decide +kernel
theorem dX11_newCoat_91 : decode cX11_newCoat 91 = .ok (.iload_n 0, 1) := by decide +kernel
theorem dX11_newCoat_92 : decode cX11_newCoat 92 = .ok (.iload_n 1, 1) := by decide +kernel
theorem dX11_newCoat_93 : decode cX11_newCoat 93 = .ok (.iload_n 3, 1) := by decide +kernel
theorem dX11_newCoat_94 : decode cX11_newCoat 94 = .ok (.iload 4, 2) := by decide +kernel
theorem dX11_newCoat_96 : decode cX11_newCoat 96 = .ok (.invokespecial 308, 3) := by decide +kernel
theorem dX11_newCoat_99 : decode cX11_newCoat 99 = .ok (.areturn, 1) := by decide +kernel
theorem dX11_newCoat_100 : decode cX11_newCoat 100 = .ok (.new 309, 3) := by decide +kernel
theorem dX11_newCoat_103 : decode cX11_newCoat 103 = .ok (.dup, 1) := by decide +kernel
theorem dX11_newCoat_104 : decode cX11_newCoat 104 = .ok (.iload_n 0, 1) := by decide +kernel
theorem dX11_newCoat_105 : decode cX11_newCoat 105 = .ok (.iload_n 1, 1) := by decide +kernel
theorem dX11_newCoat_106 : decode cX11_newCoat 106 = .ok (.iload_n 3, 1) := by decide +kernel
theorem dX11_newCoat_107 : decode cX11_newCoat 107 = .ok (.iload 4, 2) := by decide +kernel
theorem dX11_newCoat_109 : decode cX11_newCoat 109 = .ok (.invokespecial 311, 3) := by decide +kernel
theorem dX11_newCoat_112 : decode cX11_newCoat 112 = .ok (.areturn, 1) := by decide +kernel
theorem dX11_newCoat_113 : decode cX11_newCoat 113 = .ok (.new 16, 3) := by decide +kernel
theorem dX11_newCoat_116 : decode cX11_newCoat 116 = .ok (.dup, 1) := by decide +kernel
theorem dX11_newCoat_117 : decode cX11_newCoat 117 = .ok (.iload_n 0, 1) := by decide +kernel
theorem dX11_newCoat_118 : decode cX11_newCoat 118 = .ok (.iload_n 1, 1) := by decide +kernel
theorem dX11_newCoat_119 : decode cX11_newCoat 119 = .ok (.iload_n 3, 1) := by decide +kernel
theorem dX11_newCoat_120 : decode cX11_newCoat 120 = .ok (.iload 4, 2) := by decide +kernel
theorem dX11_newCoat_122 : decode cX11_newCoat 122 = .ok (.invokespecial 312, 3) := by decide +kernel
theorem dX11_newCoat_125 : decode cX11_newCoat 125 = .ok (.areturn, 1) := by decide +kernel
theorem dX11_isOfKind_0 : decode cX11_isOfKind 0 = .ok (.iload_n 1, 1) := by decide +kernel
theorem dX11_isOfKind_1 : decode cX11_isOfKind 1 = .ok (.tableswitch 60 1 5 #[35, 40, 45, 50, 55], 35) := by decide +kernel
theorem dX11_isOfKind_36 : decode cX11_isOfKind 36 = .ok (.aload_n 0, 1) := by decide +kernel
theorem dX11_isOfKind_37 : decode cX11_isOfKind 37 = .ok (.instanceof 297, 3) := by decide +kernel
theorem dX11_isOfKind_40 : decode cX11_isOfKind 40 = .ok (.ireturn, 1) := by decide +kernel
theorem dX11_isOfKind_41 : decode cX11_isOfKind 41 = .ok (.aload_n 0, 1) := by decide +kernel
theorem dX11_isOfKind_42 : decode cX11_isOfKind 42 = .ok (.instanceof 302, 3) := by decide +kernel
theorem dX11_isOfKind_45 : decode cX11_isOfKind 45 = .ok (.ireturn, 1) := by decide +kernel
theorem dX11_isOfKind_46 : decode cX11_isOfKind 46 = .ok (.aload_n 0, 1) := by decide +kernel
theorem dX11_isOfKind_47 : decode cX11_isOfKind 47 = .ok (.instanceof 305, 3) := by decide +kernel
theorem dX11_isOfKind_50 : decode cX11_isOfKind 50 = .ok (.ireturn, 1) := by decide +kernel
theorem dX11_isOfKind_51 : decode cX11_isOfKind 51 = .ok (.aload_n 0, 1) := by decide +kernel
theorem dX11_isOfKind_52 : decode cX11_isOfKind 52 = .ok (.instanceof 232, 3) := by decide +kernel
theorem dX11_isOfKind_55 : decode cX11_isOfKind 55 = .ok (.ireturn, 1) := by decide +kernel
theorem dX11_isOfKind_56 : decode cX11_isOfKind 56 = .ok (.aload_n 0, 1) := by decide +kernel
theorem dX11_isOfKind_57 : decode cX11_isOfKind 57 = .ok (.instanceof 309, 3) := by decide +kernel
theorem dX11_isOfKind_60 : decode cX11_isOfKind 60 = .ok (.ireturn, 1) := by decide +kernel
theorem dX11_isOfKind_61 : decode cX11_isOfKind 61 = .ok (.iconst 1, 1) := by decide +kernel
theorem dX11_isOfKind_62 : decode cX11_isOfKind 62 = .ok (.ireturn, 1) := by decide +kernel
theorem dX11_coatAt_0 : decode cX11_coatAt 0 = .ok (.iload_n 1, 1) := by decide +kernel
theorem dX11_coatAt_1 : decode cX11_coatAt 1 = .ok (.iconst 0, 1) := by decide +kernel
theorem dX11_coatAt_2 : decode cX11_coatAt 2 = .ok (.aload_n 0, 1) := by decide +kernel
theorem dX11_coatAt_3 : decode cX11_coatAt 3 = .ok (.getfield 91, 3) := by decide +kernel
theorem dX11_coatAt_6 : decode cX11_coatAt 6 = .ok (.iconst 1, 1) := by decide +kernel
theorem dX11_coatAt_7 : decode cX11_coatAt 7 = .ok (.isub, 1) := by decide +kernel
theorem dX11_coatAt_8 : decode cX11_coatAt 8 = .ok (.invokestatic 81, 3) := by decide +kernel
theorem dX11_coatAt_11 : decode cX11_coatAt 11 = .ok (.ifCond .eq 12, 3) := by decide +kernel
theorem dX11_coatAt_14 : decode cX11_coatAt 14 = .ok (.aload_n 0, 1) := by decide +kernel
theorem dX11_coatAt_15 : decode cX11_coatAt 15 = .ok (.getfield 18, 3) := by decide +kernel
theorem dX11_coatAt_18 : decode cX11_coatAt 18 = .ok (.iload_n 1, 1) := by decide +kernel
theorem dX11_coatAt_19 : decode cX11_coatAt 19 = .ok (.aaload, 1) := by decide +kernel
theorem dX11_coatAt_20 : decode cX11_coatAt 20 = .ok (.goto 4, 3) := by decide +kernel
theorem dX11_coatAt_23 : decode cX11_coatAt 23 = .ok (.aconst_null, 1) := by decide +kernel
theorem dX11_coatAt_24 : decode cX11_coatAt 24 = .ok (.areturn, 1) := by decide +kernel
theorem dX11_useRule_0 : decode cX11_useRule 0 = .ok (.iload_n 1, 1) := by decide +kernel
theorem dX11_useRule_1 : decode cX11_useRule 1 = .ok (.iconst 0, 1) := by decide +kernel
theorem dX11_useRule_2 : decode cX11_useRule 2 = .ok (.aload_n 0, 1) := by decide +kernel
theorem dX11_useRule_3 : decode cX11_useRule 3 = .ok (.getfield 69, 3) := by decide +kernel
theorem dX11_useRule_6 : decode cX11_useRule 6 = .ok (.iconst 1, 1) := by decide +kernel
theorem dX11_useRule_7 : decode cX11_useRule 7 = .ok (.isub, 1) := by decide +kernel
theorem dX11_useRule_8 : decode cX11_useRule 8 = .ok (.invokestatic 81, 3) := by decide +kernel
theorem dX11_useRule_11 : decode cX11_useRule 11 = .ok (.ifCond .eq 12, 3) := by decide +kernel
theorem dX11_useRule_14 : decode cX11_useRule 14 = .ok (.aload_n 0, 1) := by decide +kernel
theorem dX11_useRule_15 : decode cX11_useRule 15 = .ok (.getfield 31, 3) := by decide +kernel
theorem dX11_useRule_18 : decode cX11_useRule 18 = .ok (.iload_n 1, 1) := by decide +kernel
theorem dX11_useRule_19 : decode cX11_useRule 19 = .ok (.aaload, 1) := by decide +kernel
theorem dX11_useRule_20 : decode cX11_useRule 20 = .ok (.goto 4, 3) := by decide +kernel
theorem dX11_useRule_23 : decode cX11_useRule 23 = .ok (.aconst_null, 1) := by decide +kernel
theorem dX11_useRule_24 : decode cX11_useRule 24 = .ok (.astore_n 2, 1) := by decide +kernel
theorem dX11_useRule_25 : decode cX11_useRule 25 = .ok (.aload_n 2, 1) := by decide +kernel
theorem dX11_useRule_26 : decode cX11_useRule 26 = .ok (.ifnull 13, 3) := by decide +kernel
theorem dX11_useRule_29 : decode cX11_useRule 29 = .ok (.aload_n 0, 1) := by decide +kernel
theorem dX11_useRule_30 : decode cX11_useRule 30 = .ok (.aload_n 2, 1) := by decide +kernel
theorem dX11_useRule_31 : decode cX11_useRule 31 = .ok (.putfield 65, 3) := by decide +kernel
theorem dX11_useRule_34 : decode cX11_useRule 34 = .ok (.aload_n 0, 1) := by decide +kernel
theorem dX11_useRule_35 : decode cX11_useRule 35 = .ok (.iload_n 1, 1) := by decide +kernel
theorem dX11_useRule_36 : decode cX11_useRule 36 = .ok (.putfield 153, 3) := by decide +kernel
theorem dX11_useRule_39 : decode cX11_useRule 39 = .ok (.return_, 1) := by decide +kernel
theorem dX11_lastDay_0 : decode cX11_lastDay 0 = .ok (.iconst 0, 1) := by decide +kernel
theorem dX11_lastDay_1 : decode cX11_lastDay 1 = .ok (.istore_n 1, 1) := by decide +kernel
theorem dX11_lastDay_2 : decode cX11_lastDay 2 = .ok (.aload_n 0, 1) := by decide +kernel
theorem dX11_lastDay_3 : decode cX11_lastDay 3 = .ok (.getfield 18, 3) := by decide +kernel
theorem dX11_lastDay_6 : decode cX11_lastDay 6 = .ok (.astore_n 2, 1) := by decide +kernel
theorem dX11_lastDay_7 : decode cX11_lastDay 7 = .ok (.aload_n 2, 1) := by decide +kernel
theorem dX11_lastDay_8 : decode cX11_lastDay 8 = .ok (.arraylength, 1) := by decide +kernel
theorem dX11_lastDay_9 : decode cX11_lastDay 9 = .ok (.istore_n 3, 1) := by decide +kernel
theorem dX11_lastDay_10 : decode cX11_lastDay 10 = .ok (.iconst 0, 1) := by decide +kernel
theorem dX11_lastDay_11 : decode cX11_lastDay 11 = .ok (.istore 4, 2) := by decide +kernel
theorem dX11_lastDay_13 : decode cX11_lastDay 13 = .ok (.iload 4, 2) := by decide +kernel
theorem dX11_lastDay_15 : decode cX11_lastDay 15 = .ok (.iload_n 3, 1) := by decide +kernel
theorem dX11_lastDay_16 : decode cX11_lastDay 16 = .ok (.if_icmp .ge 38, 3) := by decide +kernel
theorem dX11_lastDay_19 : decode cX11_lastDay 19 = .ok (.aload_n 2, 1) := by decide +kernel
theorem dX11_lastDay_20 : decode cX11_lastDay 20 = .ok (.iload 4, 2) := by decide +kernel
theorem dX11_lastDay_22 : decode cX11_lastDay 22 = .ok (.aaload, 1) := by decide +kernel
theorem dX11_lastDay_23 : decode cX11_lastDay 23 = .ok (.astore 5, 2) := by decide +kernel
theorem dX11_lastDay_25 : decode cX11_lastDay 25 = .ok (.aload 5, 2) := by decide +kernel
theorem dX11_lastDay_27 : decode cX11_lastDay 27 = .ok (.ifnull 21, 3) := by decide +kernel
theorem dX11_lastDay_30 : decode cX11_lastDay 30 = .ok (.aload 5, 2) := by decide +kernel
theorem dX11_lastDay_32 : decode cX11_lastDay 32 = .ok (.getfield 130, 3) := by decide +kernel
theorem dX11_lastDay_35 : decode cX11_lastDay 35 = .ok (.ifCond .eq 13, 3) := by decide +kernel
theorem dX11_lastDay_38 : decode cX11_lastDay 38 = .ok (.iload_n 1, 1) := by decide +kernel
theorem dX11_lastDay_39 : decode cX11_lastDay 39 = .ok (.aload 5, 2) := by decide +kernel
theorem dX11_lastDay_41 : decode cX11_lastDay 41 = .ok (.getfield 313, 3) := by decide +kernel
theorem dX11_lastDay_44 : decode cX11_lastDay 44 = .ok (.invokestatic 176, 3) := by decide +kernel
theorem dX11_lastDay_47 : decode cX11_lastDay 47 = .ok (.istore_n 1, 1) := by decide +kernel
theorem dX11_lastDay_48 : decode cX11_lastDay 48 = .ok (.iinc 4 1, 3) := by decide +kernel
theorem dX11_lastDay_51 : decode cX11_lastDay 51 = .ok (.goto (-38), 3) := by decide +kernel
theorem dX11_lastDay_54 : decode cX11_lastDay 54 = .ok (.iload_n 1, 1) := by decide +kernel
theorem dX11_lastDay_55 : decode cX11_lastDay 55 = .ok (.ireturn, 1) := by decide +kernel
theorem dX11_doneCount_0 : decode cX11_doneCount 0 = .ok (.iconst 0, 1) := by decide +kernel
theorem dX11_doneCount_1 : decode cX11_doneCount 1 = .ok (.istore_n 1, 1) := by decide +kernel
theorem dX11_doneCount_2 : decode cX11_doneCount 2 = .ok (.aload_n 0, 1) := by decide +kernel
theorem dX11_doneCount_3 : decode cX11_doneCount 3 = .ok (.getfield 18, 3) := by decide +kernel
theorem dX11_doneCount_6 : decode cX11_doneCount 6 = .ok (.astore_n 2, 1) := by decide +kernel
theorem dX11_doneCount_7 : decode cX11_doneCount 7 = .ok (.aload_n 2, 1) := by decide +kernel
theorem dX11_doneCount_8 : decode cX11_doneCount 8 = .ok (.arraylength, 1) := by decide +kernel
theorem dX11_doneCount_9 : decode cX11_doneCount 9 = .ok (.istore_n 3, 1) := by decide +kernel
theorem dX11_doneCount_10 : decode cX11_doneCount 10 = .ok (.iconst 0, 1) := by decide +kernel
theorem dX11_doneCount_11 : decode cX11_doneCount 11 = .ok (.istore 4, 2) := by decide +kernel
theorem dX11_doneCount_13 : decode cX11_doneCount 13 = .ok (.iload 4, 2) := by decide +kernel
theorem dX11_doneCount_15 : decode cX11_doneCount 15 = .ok (.iload_n 3, 1) := by decide +kernel
theorem dX11_doneCount_16 : decode cX11_doneCount 16 = .ok (.if_icmp .ge 31, 3) := by decide +kernel
theorem dX11_doneCount_19 : decode cX11_doneCount 19 = .ok (.aload_n 2, 1) := by decide +kernel
theorem dX11_doneCount_20 : decode cX11_doneCount 20 = .ok (.iload 4, 2) := by decide +kernel
theorem dX11_doneCount_22 : decode cX11_doneCount 22 = .ok (.aaload, 1) := by decide +kernel
theorem dX11_doneCount_23 : decode cX11_doneCount 23 = .ok (.astore 5, 2) := by decide +kernel
theorem dX11_doneCount_25 : decode cX11_doneCount 25 = .ok (.aload 5, 2) := by decide +kernel
theorem dX11_doneCount_27 : decode cX11_doneCount 27 = .ok (.ifnull 14, 3) := by decide +kernel
theorem dX11_doneCount_30 : decode cX11_doneCount 30 = .ok (.aload 5, 2) := by decide +kernel
theorem dX11_doneCount_32 : decode cX11_doneCount 32 = .ok (.getfield 130, 3) := by decide +kernel
theorem dX11_doneCount_35 : decode cX11_doneCount 35 = .ok (.ifCond .eq 6, 3) := by decide +kernel
theorem dX11_doneCount_38 : decode cX11_doneCount 38 = .ok (.iinc 1 1, 3) := by decide +kernel
theorem dX11_doneCount_41 : decode cX11_doneCount 41 = .ok (.iinc 4 1, 3) := by decide +kernel
theorem dX11_doneCount_44 : decode cX11_doneCount 44 = .ok (.goto (-31), 3) := by decide +kernel
theorem dX11_doneCount_47 : decode cX11_doneCount 47 = .ok (.iload_n 1, 1) := by decide +kernel
theorem dX11_doneCount_48 : decode cX11_doneCount 48 = .ok (.ireturn, 1) := by decide +kernel
theorem dX11_keptByInAll_0 : decode cX11_keptByInAll 0 = .ok (.iconst 0, 1) := by decide +kernel
theorem dX11_keptByInAll_1 : decode cX11_keptByInAll 1 = .ok (.istore_n 1, 1) := by decide +kernel
theorem dX11_keptByInAll_2 : decode cX11_keptByInAll 2 = .ok (.aload_n 0, 1) := by decide +kernel
theorem dX11_keptByInAll_3 : decode cX11_keptByInAll 3 = .ok (.getfield 18, 3) := by decide +kernel
theorem dX11_keptByInAll_6 : decode cX11_keptByInAll 6 = .ok (.astore_n 2, 1) := by decide +kernel
theorem dX11_keptByInAll_7 : decode cX11_keptByInAll 7 = .ok (.aload_n 2, 1) := by decide +kernel
theorem dX11_keptByInAll_8 : decode cX11_keptByInAll 8 = .ok (.arraylength, 1) := by decide +kernel
theorem dX11_keptByInAll_9 : decode cX11_keptByInAll 9 = .ok (.istore_n 3, 1) := by decide +kernel
theorem dX11_keptByInAll_10 : decode cX11_keptByInAll 10 = .ok (.iconst 0, 1) := by decide +kernel
theorem dX11_keptByInAll_11 : decode cX11_keptByInAll 11 = .ok (.istore 4, 2) := by decide +kernel
theorem dX11_keptByInAll_13 : decode cX11_keptByInAll 13 = .ok (.iload 4, 2) := by decide +kernel
theorem dX11_keptByInAll_15 : decode cX11_keptByInAll 15 = .ok (.iload_n 3, 1) := by decide +kernel
theorem dX11_keptByInAll_16 : decode cX11_keptByInAll 16 = .ok (.if_icmp .ge 40, 3) := by decide +kernel
theorem dX11_keptByInAll_19 : decode cX11_keptByInAll 19 = .ok (.aload_n 2, 1) := by decide +kernel
theorem dX11_keptByInAll_20 : decode cX11_keptByInAll 20 = .ok (.iload 4, 2) := by decide +kernel
theorem dX11_keptByInAll_22 : decode cX11_keptByInAll 22 = .ok (.aaload, 1) := by decide +kernel
theorem dX11_keptByInAll_23 : decode cX11_keptByInAll 23 = .ok (.astore 5, 2) := by decide +kernel
theorem dX11_keptByInAll_25 : decode cX11_keptByInAll 25 = .ok (.aload 5, 2) := by decide +kernel
theorem dX11_keptByInAll_27 : decode cX11_keptByInAll 27 = .ok (.ifnull 23, 3) := by decide +kernel
theorem dX11_keptByInAll_30 : decode cX11_keptByInAll 30 = .ok (.aload 5, 2) := by decide +kernel
theorem dX11_keptByInAll_32 : decode cX11_keptByInAll 32 = .ok (.getfield 130, 3) := by decide +kernel
theorem dX11_keptByInAll_35 : decode cX11_keptByInAll 35 = .ok (.ifCond .eq 15, 3) := by decide +kernel
theorem dX11_keptByInAll_38 : decode cX11_keptByInAll 38 = .ok (.iload_n 1, 1) := by decide +kernel
theorem dX11_keptByInAll_39 : decode cX11_keptByInAll 39 = .ok (.aload_n 0, 1) := by decide +kernel
theorem dX11_keptByInAll_40 : decode cX11_keptByInAll 40 = .ok (.getfield 65, 3) := by decide +kernel
theorem dX11_keptByInAll_43 : decode cX11_keptByInAll 43 = .ok (.aload 5, 2) := by decide +kernel
theorem dX11_keptByInAll_45 : decode cX11_keptByInAll 45 = .ok (.invokevirtual 126, 3) := by decide +kernel
theorem dX11_keptByInAll_48 : decode cX11_keptByInAll 48 = .ok (.iadd, 1) := by decide +kernel
theorem dX11_keptByInAll_49 : decode cX11_keptByInAll 49 = .ok (.istore_n 1, 1) := by decide +kernel
theorem dX11_keptByInAll_50 : decode cX11_keptByInAll 50 = .ok (.iinc 4 1, 3) := by decide +kernel
theorem dX11_keptByInAll_53 : decode cX11_keptByInAll 53 = .ok (.goto (-40), 3) := by decide +kernel
theorem dX11_keptByInAll_56 : decode cX11_keptByInAll 56 = .ok (.iload_n 1, 1) := by decide +kernel
theorem dX11_keptByInAll_57 : decode cX11_keptByInAll 57 = .ok (.ireturn, 1) := by decide +kernel
theorem dX11_isSheet_0 : decode cX11_isSheet 0 = .ok (.iload_n 0, 1) := by decide +kernel
theorem dX11_isSheet_1 : decode cX11_isSheet 1 = .ok (.iconst 0, 1) := by decide +kernel
theorem dX11_isSheet_2 : decode cX11_isSheet 2 = .ok (.iconst 3, 1) := by decide +kernel
theorem dX11_isSheet_3 : decode cX11_isSheet 3 = .ok (.invokestatic 81, 3) := by decide +kernel
theorem dX11_isSheet_6 : decode cX11_isSheet 6 = .ok (.ireturn, 1) := by decide +kernel
theorem dX11_hasRun_0 : decode cX11_hasRun 0 = .ok (.iload_n 2, 1) := by decide +kernel
theorem dX11_hasRun_1 : decode cX11_hasRun 1 = .ok (.ifCond .lt 23, 3) := by decide +kernel
theorem dX11_hasRun_4 : decode cX11_hasRun 4 = .ok (.iload_n 3, 1) := by decide +kernel
theorem dX11_hasRun_5 : decode cX11_hasRun 5 = .ok (.ifCond .lt 19, 3) := by decide +kernel
theorem dX11_hasRun_8 : decode cX11_hasRun 8 = .ok (.iload_n 2, 1) := by decide +kernel
theorem dX11_hasRun_9 : decode cX11_hasRun 9 = .ok (.aload_n 0, 1) := by decide +kernel
theorem dX11_hasRun_10 : decode cX11_hasRun 10 = .ok (.getfield 58, 3) := by decide +kernel
theorem dX11_hasRun_13 : decode cX11_hasRun 13 = .ok (.iload_n 1, 1) := by decide +kernel
theorem dX11_hasRun_14 : decode cX11_hasRun 14 = .ok (.iaload, 1) := by decide +kernel
theorem dX11_hasRun_15 : decode cX11_hasRun 15 = .ok (.iload_n 3, 1) := by decide +kernel
theorem dX11_hasRun_16 : decode cX11_hasRun 16 = .ok (.isub, 1) := by decide +kernel
theorem dX11_hasRun_17 : decode cX11_hasRun 17 = .ok (.if_icmp .gt 7, 3) := by decide +kernel
theorem dX11_hasRun_20 : decode cX11_hasRun 20 = .ok (.iconst 1, 1) := by decide +kernel
theorem dX11_hasRun_21 : decode cX11_hasRun 21 = .ok (.goto 4, 3) := by decide +kernel
theorem dX11_hasRun_24 : decode cX11_hasRun 24 = .ok (.iconst 0, 1) := by decide +kernel
theorem dX11_hasRun_25 : decode cX11_hasRun 25 = .ok (.ireturn, 1) := by decide +kernel
theorem dX11_cutToSort_0 : decode cX11_cutToSort 0 = .ok (.iload_n 0, 1) := by decide +kernel
theorem dX11_cutToSort_1 : decode cX11_cutToSort 1 = .ok (.lookupswitch 33 #[(0, 27), (1, 30)], 27) := by decide +kernel
theorem dX11_cutToSort_28 : decode cX11_cutToSort 28 = .ok (.iload_n 1, 1) := by decide +kernel
theorem dX11_cutToSort_29 : decode cX11_cutToSort 29 = .ok (.i2b, 1) := by decide +kernel
theorem dX11_cutToSort_30 : decode cX11_cutToSort 30 = .ok (.ireturn, 1) := by decide +kernel
theorem dX11_cutToSort_31 : decode cX11_cutToSort 31 = .ok (.iload_n 1, 1) := by decide +kernel
theorem dX11_cutToSort_32 : decode cX11_cutToSort 32 = .ok (.i2s, 1) := by decide +kernel
theorem dX11_cutToSort_33 : decode cX11_cutToSort 33 = .ok (.ireturn, 1) := by decide +kernel
theorem dX11_cutToSort_34 : decode cX11_cutToSort 34 = .ok (.iload_n 1, 1) := by decide +kernel
theorem dX11_cutToSort_35 : decode cX11_cutToSort 35 = .ok (.ireturn, 1) := by decide +kernel
end
section
theorem dX12_init_0 : decode cX12_init 0 = .ok (.aload_n 0, 1) := by decide +kernel
theorem dX12_init_1 : decode cX12_init 1 = .ok (.invokespecial 1, 3) := by decide +kernel
theorem dX12_init_4 : decode cX12_init 4 = .ok (.aload_n 0, 1) := by decide +kernel
theorem dX12_init_5 : decode cX12_init 5 = .ok (.bipush 6, 2) := by decide +kernel
theorem dX12_init_7 : decode cX12_init 7 = .ok (.newarray .int, 2) := by decide +kernel
theorem dX12_init_9 : decode cX12_init 9 = .ok (.putfield 7, 3) := by decide +kernel
theorem dX12_init_12 : decode cX12_init 12 = .ok (.aload_n 0, 1) := by decide +kernel
theorem dX12_init_13 : decode cX12_init 13 = .ok (.bipush 6, 2) := by decide +kernel
theorem dX12_init_15 : decode cX12_init 15 = .ok (.newarray .int, 2) := by decide +kernel
theorem dX12_init_17 : decode cX12_init 17 = .ok (.putfield 13, 3) := by decide +kernel
theorem dX12_init_20 : decode cX12_init 20 = .ok (.aload_n 0, 1) := by decide +kernel
theorem dX12_init_21 : decode cX12_init 21 = .ok (.bipush 6, 2) := by decide +kernel
theorem dX12_init_23 : decode cX12_init 23 = .ok (.newarray .int, 2) := by decide +kernel
theorem dX12_init_25 : decode cX12_init 25 = .ok (.putfield 16, 3) := by decide +kernel
theorem dX12_init_28 : decode cX12_init 28 = .ok (.aload_n 0, 1) := by decide +kernel
theorem dX12_init_29 : decode cX12_init 29 = .ok (.bipush 9, 2) := by decide +kernel
theorem dX12_init_31 : decode cX12_init 31 = .ok (.newarray .int, 2) := by decide +kernel
theorem dX12_init_33 : decode cX12_init 33 = .ok (.putfield 19, 3) := by decide +kernel
theorem dX12_init_36 : decode cX12_init 36 = .ok (.aload_n 0, 1) := by decide +kernel
theorem dX12_init_37 : decode cX12_init 37 = .ok (.bipush 8, 2) := by decide +kernel
theorem dX12_init_39 : decode cX12_init 39 = .ok (.newarray .int, 2) := by decide +kernel
theorem dX12_init_41 : decode cX12_init 41 = .ok (.putfield 22, 3) := by decide +kernel
theorem dX12_init_44 : decode cX12_init 44 = .ok (.aload_n 0, 1) := by decide +kernel
theorem dX12_init_45 : decode cX12_init 45 = .ok (.bipush 8, 2) := by decide +kernel
theorem dX12_init_47 : decode cX12_init 47 = .ok (.newarray .int, 2) := by decide +kernel
theorem dX12_init_49 : decode cX12_init 49 = .ok (.putfield 25, 3) := by decide +kernel
theorem dX12_init_52 : decode cX12_init 52 = .ok (.aload_n 0, 1) := by decide +kernel
theorem dX12_init_53 : decode cX12_init 53 = .ok (.bipush 8, 2) := by decide +kernel
theorem dX12_init_55 : decode cX12_init 55 = .ok (.newarray .int, 2) := by decide +kernel
theorem dX12_init_57 : decode cX12_init 57 = .ok (.putfield 28, 3) := by decide +kernel
theorem dX12_init_60 : decode cX12_init 60 = .ok (.aload_n 0, 1) := by decide +kernel
theorem dX12_init_61 : decode cX12_init 61 = .ok (.bipush 8, 2) := by decide +kernel
theorem dX12_init_63 : decode cX12_init 63 = .ok (.newarray .int, 2) := by decide +kernel
theorem dX12_init_65 : decode cX12_init 65 = .ok (.putfield 31, 3) := by decide +kernel
theorem dX12_init_68 : decode cX12_init 68 = .ok (.aload_n 0, 1) := by decide +kernel
theorem dX12_init_69 : decode cX12_init 69 = .ok (.bipush 8, 2) := by decide +kernel
theorem dX12_init_71 : decode cX12_init 71 = .ok (.newarray .boolean, 2) := by decide +kernel
theorem dX12_init_73 : decode cX12_init 73 = .ok (.putfield 34, 3) := by decide +kernel
theorem dX12_init_76 : decode cX12_init 76 = .ok (.aload_n 0, 1) := by decide +kernel
theorem dX12_init_77 : decode cX12_init 77 = .ok (.bipush 8, 2) := by decide +kernel
theorem dX12_init_79 : decode cX12_init 79 = .ok (.newarray .int, 2) := by decide +kernel
theorem dX12_init_81 : decode cX12_init 81 = .ok (.putfield 38, 3) := by decide +kernel
theorem dX12_init_84 : decode cX12_init 84 = .ok (.aload_n 0, 1) := by decide +kernel
theorem dX12_init_85 : decode cX12_init 85 = .ok (.bipush 8, 2) := by decide +kernel
theorem dX12_init_87 : decode cX12_init 87 = .ok (.newarray .int, 2) := by decide +kernel
theorem dX12_init_89 : decode cX12_init 89 = .ok (.putfield 41, 3) := by decide +kernel
theorem dX12_init_92 : decode cX12_init 92 = .ok (.aload_n 0, 1) := by decide +kernel
theorem dX12_init_93 : decode cX12_init 93 = .ok (.sipush 160, 3) := by decide +kernel
theorem dX12_init_96 : decode cX12_init 96 = .ok (.newarray .byte, 2) := by decide +kernel
theorem dX12_init_98 : decode cX12_init 98 = .ok (.putfield 44, 3) := by decide +kernel
theorem dX12_init_101 : decode cX12_init 101 = .ok (.aload_n 0, 1) := by decide +kernel
theorem dX12_init_102 : decode cX12_init 102 = .ok (.iconst 1, 1) := by decide +kernel
theorem dX12_init_103 : decode cX12_init 103 = .ok (.putfield 48, 3) := by decide +kernel
theorem dX12_init_106 : decode cX12_init 106 = .ok (.aload_n 0, 1) := by decide +kernel
theorem dX12_init_107 : decode cX12_init 107 = .ok (.sipush 1190, 3) := by decide +kernel
theorem dX12_init_110 : decode cX12_init 110 = .ok (.newarray .int, 2) := by decide +kernel
theorem dX12_init_112 : decode cX12_init 112 = .ok (.putfield 52, 3) := by decide +kernel
theorem dX12_init_115 : decode cX12_init 115 = .ok (.aload_n 0, 1) := by decide +kernel
theorem dX12_init_116 : decode cX12_init 116 = .ok (.sipush 1190, 3) := by decide +kernel
theorem dX12_init_119 : decode cX12_init 119 = .ok (.newarray .int, 2) := by decide +kernel
theorem dX12_init_121 : decode cX12_init 121 = .ok (.putfield 55, 3) := by decide +kernel
theorem dX12_init_124 : decode cX12_init 124 = .ok (.aload_n 0, 1) := by decide +kernel
theorem dX12_init_125 : decode cX12_init 125 = .ok (.bipush 21, 2) := by decide +kernel
theorem dX12_init_127 : decode cX12_init 127 = .ok (.newarray .int, 2) := by decide +kernel
theorem dX12_init_129 : decode cX12_init 129 = .ok (.putfield 58, 3) := by decide +kernel
theorem dX12_init_132 : decode cX12_init 132 = .ok (.aload_n 0, 1) := by decide +kernel
theorem dX12_init_133 : decode cX12_init 133 = .ok (.sipush 170, 3) := by decide +kernel
theorem dX12_init_136 : decode cX12_init 136 = .ok (.newarray .int, 2) := by decide +kernel
theorem dX12_init_138 : decode cX12_init 138 = .ok (.putfield 61, 3) := by decide +kernel
theorem dX12_init_141 : decode cX12_init 141 = .ok (.aload_n 0, 1) := by decide +kernel
theorem dX12_init_142 : decode cX12_init 142 = .ok (.bipush 6, 2) := by decide +kernel
theorem dX12_init_144 : decode cX12_init 144 = .ok (.newarray .int, 2) := by decide +kernel
theorem dX12_init_146 : decode cX12_init 146 = .ok (.putfield 64, 3) := by decide +kernel
theorem dX12_init_149 : decode cX12_init 149 = .ok (.aload_n 0, 1) := by decide +kernel
theorem dX12_init_150 : decode cX12_init 150 = .ok (.iconst 5, 1) := by decide +kernel
theorem dX12_init_151 : decode cX12_init 151 = .ok (.newarray .int, 2) := by decide +kernel
theorem dX12_init_153 : decode cX12_init 153 = .ok (.putfield 67, 3) := by decide +kernel
theorem dX12_init_156 : decode cX12_init 156 = .ok (.aload_n 0, 1) := by decide +kernel
theorem dX12_init_157 : decode cX12_init 157 = .ok (.bipush 6, 2) := by decide +kernel
theorem dX12_init_159 : decode cX12_init 159 = .ok (.newarray .int, 2) := by decide +kernel
theorem dX12_init_161 : decode cX12_init 161 = .ok (.putfield 70, 3) := by decide +kernel
theorem dX12_init_164 : decode cX12_init 164 = .ok (.aload_n 0, 1) := by decide +kernel
theorem dX12_init_165 : decode cX12_init 165 = .ok (.sipush 216, 3) := by decide +kernel
theorem dX12_init_168 : decode cX12_init 168 = .ok (.newarray .boolean, 2) := by decide +kernel
theorem dX12_init_170 : decode cX12_init 170 = .ok (.putfield 73, 3) := by decide +kernel
theorem dX12_init_173 : decode cX12_init 173 = .ok (.aload_n 0, 1) := by decide +kernel
theorem dX12_init_174 : decode cX12_init 174 = .ok (.bipush 6, 2) := by decide +kernel
theorem dX12_init_176 : decode cX12_init 176 = .ok (.newarray .int, 2) := by decide +kernel
theorem dX12_init_178 : decode cX12_init 178 = .ok (.putfield 76, 3) := by decide +kernel
theorem dX12_init_181 : decode cX12_init 181 = .ok (.aload_n 0, 1) := by decide +kernel
theorem dX12_init_182 : decode cX12_init 182 = .ok (.bipush 9, 2) := by decide +kernel
theorem dX12_init_184 : decode cX12_init 184 = .ok (.newarray .int, 2) := by decide +kernel
theorem dX12_init_186 : decode cX12_init 186 = .ok (.putfield 79, 3) := by decide +kernel
theorem dX12_init_189 : decode cX12_init 189 = .ok (.aload_n 0, 1) := by decide +kernel
theorem dX12_init_190 : decode cX12_init 190 = .ok (.bipush 8, 2) := by decide +kernel
theorem dX12_init_192 : decode cX12_init 192 = .ok (.newarray .boolean, 2) := by decide +kernel
theorem dX12_init_194 : decode cX12_init 194 = .ok (.putfield 82, 3) := by decide +kernel
theorem dX12_init_197 : decode cX12_init 197 = .ok (.aload_n 0, 1) := by decide +kernel
theorem dX12_init_198 : decode cX12_init 198 = .ok (.bipush 8, 2) := by decide +kernel
theorem dX12_init_200 : decode cX12_init 200 = .ok (.newarray .int, 2) := by decide +kernel
theorem dX12_init_202 : decode cX12_init 202 = .ok (.putfield 85, 3) := by decide +kernel
theorem dX12_init_205 : decode cX12_init 205 = .ok (.aload_n 0, 1) := by decide +kernel
theorem dX12_init_206 : decode cX12_init 206 = .ok (.bipush 8, 2) := by decide +kernel
theorem dX12_init_208 : decode cX12_init 208 = .ok (.newarray .int, 2) := by decide +kernel
theorem dX12_init_210 : decode cX12_init 210 = .ok (.putfield 88, 3) := by decide +kernel
theorem dX12_init_213 : decode cX12_init 213 = .ok (.aload_n 0, 1) := by decide +kernel
theorem dX12_init_214 : decode cX12_init 214 = .ok (.iconst 4, 1) := by decide +kernel
theorem dX12_init_215 : decode cX12_init 215 = .ok (.newarray .int, 2) := by decide +kernel
theorem dX12_init_217 : decode cX12_init 217 = .ok (.dup, 1) := by decide +kernel
theorem dX12_init_218 : decode cX12_init 218 = .ok (.iconst 0, 1) := by decide +kernel
theorem dX12_init_219 : decode cX12_init 219 = .ok (.iconst (-1), 1) := by decide +kernel
theorem dX12_init_220 : decode cX12_init 220 = .ok (.iastore, 1) := by decide +kernel
theorem dX12_init_221 : decode cX12_init 221 = .ok (.dup, 1) := by decide +kernel
theorem dX12_init_222 : decode cX12_init 222 = .ok (.iconst 1, 1) := by decide +kernel
theorem dX12_init_223 : decode cX12_init 223 = .ok (.iconst (-1), 1) := by decide +kernel
theorem dX12_init_224 : decode cX12_init 224 = .ok (.iastore, 1) := by decide +kernel
theorem dX12_init_225 : decode cX12_init 225 = .ok (.dup, 1) := by decide +kernel
theorem dX12_init_226 : decode cX12_init 226 = .ok (.iconst 2, 1) := by decide +kernel
theorem dX12_init_227 : decode cX12_init 227 = .ok (.iconst (-1), 1) := by decide +kernel
theorem dX12_init_228 : decode cX12_init 228 = .ok (.iastore, 1) := by decide +kernel
theorem dX12_init_229 : decode cX12_init 229 = .ok (.dup, 1) := by decide +kernel
theorem dX12_init_230 : decode cX12_init 230 = .ok (.iconst 3, 1) := by decide +kernel
theorem dX12_init_231 : decode cX12_init 231 = .ok (.iconst (-1), 1) := by decide +kernel
theorem dX12_init_232 : decode cX12_init 232 = .ok (.iastore, 1) := by decide +kernel
theorem dX12_init_233 : decode cX12_init 233 = .ok (.putfield 91, 3) := by decide +kernel
theorem dX12_init_236 : decode cX12_init 236 = .ok (.aload_n 0, 1) := by decide +kernel
theorem dX12_init_237 : decode cX12_init 237 = .ok (.iconst 4, 1) := by decide +kernel
theorem dX12_init_238 : decode cX12_init 238 = .ok (.newarray .int, 2) := by decide +kernel
theorem dX12_init_240 : decode cX12_init 240 = .ok (.putfield 94, 3) := by decide +kernel
theorem dX12_init_243 : decode cX12_init 243 = .ok (.aload_n 0, 1) := by decide +kernel
theorem dX12_init_244 : decode cX12_init 244 = .ok (.sipush 160, 3) := by decide +kernel
theorem dX12_init_247 : decode cX12_init 247 = .ok (.newarray .int, 2) := by decide +kernel
theorem dX12_init_249 : decode cX12_init 249 = .ok (.putfield 97, 3) := by decide +kernel
theorem dX12_init_252 : decode cX12_init 252 = .ok (.aload_n 0, 1) := by decide +kernel
theorem dX12_init_253 : decode cX12_init 253 = .ok (.bipush 40, 2) := by decide +kernel
theorem dX12_init_255 : decode cX12_init 255 = .ok (.newarray .int, 2) := by decide +kernel
theorem dX12_init_257 : decode cX12_init 257 = .ok (.putfield 100, 3) := by decide +kernel
theorem dX12_init_260 : decode cX12_init 260 = .ok (.return_, 1) := by decide +kernel
theorem dX12_in_0 : decode cX12_in 0 = .ok (.iload_n 0, 1) := by decide +kernel
theorem dX12_in_1 : decode cX12_in 1 = .ok (.iload_n 1, 1) := by decide +kernel
theorem dX12_in_2 : decode cX12_in 2 = .ok (.if_icmp .lt 12, 3) := by decide +kernel
theorem dX12_in_5 : decode cX12_in 5 = .ok (.iload_n 0, 1) := by decide +kernel
theorem dX12_in_6 : decode cX12_in 6 = .ok (.iload_n 2, 1) := by decide +kernel
theorem dX12_in_7 : decode cX12_in 7 = .ok (.if_icmp .gt 7, 3) := by decide +kernel
theorem dX12_in_10 : decode cX12_in 10 = .ok (.iconst 1, 1) := by decide +kernel
theorem dX12_in_11 : decode cX12_in 11 = .ok (.goto 4, 3) := by decide +kernel
theorem dX12_in_14 : decode cX12_in 14 = .ok (.iconst 0, 1) := by decide +kernel
theorem dX12_in_15 : decode cX12_in 15 = .ok (.ireturn, 1) := by decide +kernel
theorem dX12_held_0 : decode cX12_held 0 = .ok (.iload_n 0, 1) := by decide +kernel
theorem dX12_held_1 : decode cX12_held 1 = .ok (.ifCond .ge 7, 3) := by decide +kernel
theorem dX12_held_4 : decode cX12_held 4 = .ok (.iconst 0, 1) := by decide +kernel
theorem dX12_held_5 : decode cX12_held 5 = .ok (.goto 13, 3) := by decide +kernel
theorem dX12_held_8 : decode cX12_held 8 = .ok (.iload_n 0, 1) := by decide +kernel
theorem dX12_held_9 : decode cX12_held 9 = .ok (.iload_n 1, 1) := by decide +kernel
theorem dX12_held_10 : decode cX12_held 10 = .ok (.if_icmp .le 7, 3) := by decide +kernel
theorem dX12_held_13 : decode cX12_held 13 = .ok (.iload_n 1, 1) := by decide +kernel
theorem dX12_held_14 : decode cX12_held 14 = .ok (.goto 4, 3) := by decide +kernel
theorem dX12_held_17 : decode cX12_held 17 = .ok (.iload_n 0, 1) := by decide +kernel
theorem dX12_held_18 : decode cX12_held 18 = .ok (.ireturn, 1) := by decide +kernel
theorem dX12_isHank_0 : decode cX12_isHank 0 = .ok (.iload_n 1, 1) := by decide +kernel
theorem dX12_isHank_1 : decode cX12_isHank 1 = .ok (.iconst 0, 1) := by decide +kernel
theorem dX12_isHank_2 : decode cX12_isHank 2 = .ok (.aload_n 0, 1) := by decide +kernel
theorem dX12_isHank_3 : decode cX12_isHank 3 = .ok (.getfield 106, 3) := by decide +kernel
theorem dX12_isHank_6 : decode cX12_isHank 6 = .ok (.iconst 1, 1) := by decide +kernel
theorem dX12_isHank_7 : decode cX12_isHank 7 = .ok (.isub, 1) := by decide +kernel
theorem dX12_isHank_8 : decode cX12_isHank 8 = .ok (.invokestatic 109, 3) := by decide +kernel
theorem dX12_isHank_11 : decode cX12_isHank 11 = .ok (.ireturn, 1) := by decide +kernel
theorem dX12_isCoat_0 : decode cX12_isCoat 0 = .ok (.iload_n 1, 1) := by decide +kernel
theorem dX12_isCoat_1 : decode cX12_isCoat 1 = .ok (.iconst 0, 1) := by decide +kernel
theorem dX12_isCoat_2 : decode cX12_isCoat 2 = .ok (.aload_n 0, 1) := by decide +kernel
theorem dX12_isCoat_3 : decode cX12_isCoat 3 = .ok (.getfield 113, 3) := by decide +kernel
theorem dX12_isCoat_6 : decode cX12_isCoat 6 = .ok (.iconst 1, 1) := by decide +kernel
theorem dX12_isCoat_7 : decode cX12_isCoat 7 = .ok (.isub, 1) := by decide +kernel
theorem dX12_isCoat_8 : decode cX12_isCoat 8 = .ok (.invokestatic 109, 3) := by decide +kernel
theorem dX12_isCoat_11 : decode cX12_isCoat 11 = .ok (.ireturn, 1) := by decide +kernel
theorem dX12_hank_0 : decode cX12_hank 0 = .ok (.iload_n 1, 1) := by decide +kernel
theorem dX12_hank_1 : decode cX12_hank 1 = .ok (.iconst 0, 1) := by decide +kernel
theorem dX12_hank_2 : decode cX12_hank 2 = .ok (.bipush 99, 2) := by decide +kernel
theorem dX12_hank_4 : decode cX12_hank 4 = .ok (.invokestatic 109, 3) := by decide +kernel
theorem dX12_hank_7 : decode cX12_hank 7 = .ok (.ifCond .eq 23, 3) := by decide +kernel
theorem dX12_hank_10 : decode cX12_hank 10 = .ok (.iload_n 2, 1) := by decide +kernel
theorem dX12_hank_11 : decode cX12_hank 11 = .ok (.iconst 0, 1) := by decide +kernel
theorem dX12_hank_12 : decode cX12_hank 12 = .ok (.bipush 99, 2) := by decide +kernel
theorem dX12_hank_14 : decode cX12_hank 14 = .ok (.invokestatic 109, 3) := by decide +kernel
theorem dX12_hank_17 : decode cX12_hank 17 = .ok (.ifCond .eq 13, 3) := by decide +kernel
theorem dX12_hank_20 : decode cX12_hank 20 = .ok (.iload_n 3, 1) := by decide +kernel
theorem dX12_hank_21 : decode cX12_hank 21 = .ok (.iconst 0, 1) := by decide +kernel
theorem dX12_hank_22 : decode cX12_hank 22 = .ok (.bipush 8, 2) := by decide +kernel
theorem dX12_hank_24 : decode cX12_hank 24 = .ok (.invokestatic 109, 3) := by decide +kernel
theorem dX12_hank_27 : decode cX12_hank 27 = .ok (.ifCond .ne 6, 3) := by decide +kernel
theorem dX12_hank_30 : decode cX12_hank 30 = .ok (.bipush (-2), 2) := by decide +kernel
theorem dX12_hank_32 : decode cX12_hank 32 = .ok (.ireturn, 1) := by decide +kernel
theorem dX12_hank_33 : decode cX12_hank 33 = .ok (.aload_n 0, 1) := by decide +kernel
theorem dX12_hank_34 : decode cX12_hank 34 = .ok (.getfield 106, 3) := by decide +kernel
theorem dX12_hank_37 : decode cX12_hank 37 = .ok (.bipush 6, 2) := by decide +kernel
theorem dX12_hank_39 : decode cX12_hank 39 = .ok (.if_icmp .ne 6, 3) := by decide +kernel
theorem dX12_hank_42 : decode cX12_hank 42 = .ok (.bipush (-4), 2) := by decide +kernel
theorem dX12_hank_44 : decode cX12_hank 44 = .ok (.ireturn, 1) := by decide +kernel
theorem dX12_hank_45 : decode cX12_hank 45 = .ok (.aload_n 0, 1) := by decide +kernel
theorem dX12_hank_46 : decode cX12_hank 46 = .ok (.getfield 7, 3) := by decide +kernel
theorem dX12_hank_49 : decode cX12_hank 49 = .ok (.aload_n 0, 1) := by decide +kernel
theorem dX12_hank_50 : decode cX12_hank 50 = .ok (.getfield 106, 3) := by decide +kernel
theorem dX12_hank_53 : decode cX12_hank 53 = .ok (.iload_n 1, 1) := by decide +kernel
theorem dX12_hank_54 : decode cX12_hank 54 = .ok (.iastore, 1) := by decide +kernel
theorem dX12_hank_55 : decode cX12_hank 55 = .ok (.aload_n 0, 1) := by decide +kernel
theorem dX12_hank_56 : decode cX12_hank 56 = .ok (.getfield 13, 3) := by decide +kernel
theorem dX12_hank_59 : decode cX12_hank 59 = .ok (.aload_n 0, 1) := by decide +kernel
theorem dX12_hank_60 : decode cX12_hank 60 = .ok (.getfield 106, 3) := by decide +kernel
theorem dX12_hank_63 : decode cX12_hank 63 = .ok (.iload_n 2, 1) := by decide +kernel
theorem dX12_hank_64 : decode cX12_hank 64 = .ok (.iastore, 1) := by decide +kernel
theorem dX12_hank_65 : decode cX12_hank 65 = .ok (.aload_n 0, 1) := by decide +kernel
theorem dX12_hank_66 : decode cX12_hank 66 = .ok (.getfield 16, 3) := by decide +kernel
theorem dX12_hank_69 : decode cX12_hank 69 = .ok (.aload_n 0, 1) := by decide +kernel
theorem dX12_hank_70 : decode cX12_hank 70 = .ok (.getfield 106, 3) := by decide +kernel
theorem dX12_hank_73 : decode cX12_hank 73 = .ok (.iload_n 3, 1) := by decide +kernel
theorem dX12_hank_74 : decode cX12_hank 74 = .ok (.iastore, 1) := by decide +kernel
theorem dX12_hank_75 : decode cX12_hank 75 = .ok (.aload_n 0, 1) := by decide +kernel
theorem dX12_hank_76 : decode cX12_hank 76 = .ok (.dup, 1) := by decide +kernel
theorem dX12_hank_77 : decode cX12_hank 77 = .ok (.getfield 106, 3) := by decide +kernel
theorem dX12_hank_80 : decode cX12_hank 80 = .ok (.iconst 1, 1) := by decide +kernel
theorem dX12_hank_81 : decode cX12_hank 81 = .ok (.iadd, 1) := by decide +kernel
theorem dX12_hank_82 : decode cX12_hank 82 = .ok (.putfield 106, 3) := by decide +kernel
theorem dX12_hank_85 : decode cX12_hank 85 = .ok (.aload_n 0, 1) := by decide +kernel
theorem dX12_hank_86 : decode cX12_hank 86 = .ok (.getfield 106, 3) := by decide +kernel
theorem dX12_hank_89 : decode cX12_hank 89 = .ok (.iconst 1, 1) := by decide +kernel
theorem dX12_hank_90 : decode cX12_hank 90 = .ok (.isub, 1) := by decide +kernel
theorem dX12_hank_91 : decode cX12_hank 91 = .ok (.ireturn, 1) := by decide +kernel
theorem dX12_ounces_0 : decode cX12_ounces 0 = .ok (.aload_n 0, 1) := by decide +kernel
theorem dX12_ounces_1 : decode cX12_ounces 1 = .ok (.iload_n 1, 1) := by decide +kernel
theorem dX12_ounces_2 : decode cX12_ounces 2 = .ok (.invokevirtual 116, 3) := by decide +kernel
theorem dX12_ounces_5 : decode cX12_ounces 5 = .ok (.ifCond .eq 13, 3) := by decide +kernel
theorem dX12_ounces_8 : decode cX12_ounces 8 = .ok (.iload_n 2, 1) := by decide +kernel
theorem dX12_ounces_9 : decode cX12_ounces 9 = .ok (.iconst 0, 1) := by decide +kernel
theorem dX12_ounces_10 : decode cX12_ounces 10 = .ok (.bipush 99, 2) := by decide +kernel
theorem dX12_ounces_12 : decode cX12_ounces 12 = .ok (.invokestatic 109, 3) := by decide +kernel
theorem dX12_ounces_15 : decode cX12_ounces 15 = .ok (.ifCond .ne 6, 3) := by decide +kernel
theorem dX12_ounces_18 : decode cX12_ounces 18 = .ok (.bipush (-2), 2) := by decide +kernel
theorem dX12_ounces_20 : decode cX12_ounces 20 = .ok (.ireturn, 1) := by decide +kernel
theorem dX12_ounces_21 : decode cX12_ounces 21 = .ok (.aload_n 0, 1) := by decide +kernel
theorem dX12_ounces_22 : decode cX12_ounces 22 = .ok (.getfield 7, 3) := by decide +kernel
theorem dX12_ounces_25 : decode cX12_ounces 25 = .ok (.iload_n 1, 1) := by decide +kernel
theorem dX12_ounces_26 : decode cX12_ounces 26 = .ok (.iaload, 1) := by decide +kernel
theorem dX12_ounces_27 : decode cX12_ounces 27 = .ok (.istore_n 3, 1) := by decide +kernel
theorem dX12_ounces_28 : decode cX12_ounces 28 = .ok (.aload_n 0, 1) := by decide +kernel
theorem dX12_ounces_29 : decode cX12_ounces 29 = .ok (.getfield 7, 3) := by decide +kernel
theorem dX12_ounces_32 : decode cX12_ounces 32 = .ok (.iload_n 1, 1) := by decide +kernel
theorem dX12_ounces_33 : decode cX12_ounces 33 = .ok (.iload_n 2, 1) := by decide +kernel
theorem dX12_ounces_34 : decode cX12_ounces 34 = .ok (.iastore, 1) := by decide +kernel
theorem dX12_ounces_35 : decode cX12_ounces 35 = .ok (.iload_n 3, 1) := by decide +kernel
theorem dX12_ounces_36 : decode cX12_ounces 36 = .ok (.ireturn, 1) := by decide +kernel
theorem dX12_fade_0 : decode cX12_fade 0 = .ok (.iload_n 1, 1) := by decide +kernel
theorem dX12_fade_1 : decode cX12_fade 1 = .ok (.iconst 0, 1) := by decide +kernel
theorem dX12_fade_2 : decode cX12_fade 2 = .ok (.bipush 8, 2) := by decide +kernel
theorem dX12_fade_4 : decode cX12_fade 4 = .ok (.invokestatic 109, 3) := by decide +kernel
theorem dX12_fade_7 : decode cX12_fade 7 = .ok (.ifCond .eq 13, 3) := by decide +kernel
theorem dX12_fade_10 : decode cX12_fade 10 = .ok (.iload_n 2, 1) := by decide +kernel
theorem dX12_fade_11 : decode cX12_fade 11 = .ok (.iconst 0, 1) := by decide +kernel
theorem dX12_fade_12 : decode cX12_fade 12 = .ok (.bipush 50, 2) := by decide +kernel
theorem dX12_fade_14 : decode cX12_fade 14 = .ok (.invokestatic 109, 3) := by decide +kernel
theorem dX12_fade_17 : decode cX12_fade 17 = .ok (.ifCond .ne 6, 3) := by decide +kernel
theorem dX12_fade_20 : decode cX12_fade 20 = .ok (.bipush (-2), 2) := by decide +kernel
theorem dX12_fade_22 : decode cX12_fade 22 = .ok (.ireturn, 1) := by decide +kernel
theorem dX12_fade_23 : decode cX12_fade 23 = .ok (.aload_n 0, 1) := by decide +kernel
theorem dX12_fade_24 : decode cX12_fade 24 = .ok (.getfield 19, 3) := by decide +kernel
theorem dX12_fade_27 : decode cX12_fade 27 = .ok (.iload_n 1, 1) := by decide +kernel
theorem dX12_fade_28 : decode cX12_fade 28 = .ok (.iaload, 1) := by decide +kernel
theorem dX12_fade_29 : decode cX12_fade 29 = .ok (.istore_n 3, 1) := by decide +kernel
theorem dX12_fade_30 : decode cX12_fade 30 = .ok (.aload_n 0, 1) := by decide +kernel
theorem dX12_fade_31 : decode cX12_fade 31 = .ok (.getfield 19, 3) := by decide +kernel
theorem dX12_fade_34 : decode cX12_fade 34 = .ok (.iload_n 1, 1) := by decide +kernel
theorem dX12_fade_35 : decode cX12_fade 35 = .ok (.iload_n 2, 1) := by decide +kernel
theorem dX12_fade_36 : decode cX12_fade 36 = .ok (.iastore, 1) := by decide +kernel
theorem dX12_fade_37 : decode cX12_fade 37 = .ok (.iload_n 3, 1) := by decide +kernel
theorem dX12_fade_38 : decode cX12_fade 38 = .ok (.ireturn, 1) := by decide +kernel
theorem dX12_coat_0 : decode cX12_coat 0 = .ok (.iload_n 1, 1) := by decide +kernel
theorem dX12_coat_1 : decode cX12_coat 1 = .ok (.iconst 0, 1) := by decide +kernel
theorem dX12_coat_2 : decode cX12_coat 2 = .ok (.iconst 5, 1) := by decide +kernel
theorem dX12_coat_3 : decode cX12_coat 3 = .ok (.invokestatic 109, 3) := by decide +kernel
theorem dX12_coat_6 : decode cX12_coat 6 = .ok (.ifCond .eq 27, 3) := by decide +kernel
theorem dX12_coat_9 : decode cX12_coat 9 = .ok (.iload_n 2, 1) := by decide +kernel
theorem dX12_coat_10 : decode cX12_coat 10 = .ok (.iconst 1, 1) := by decide +kernel
theorem dX12_coat_11 : decode cX12_coat 11 = .ok (.bipush 9, 2) := by decide +kernel
theorem dX12_coat_13 : decode cX12_coat 13 = .ok (.invokestatic 109, 3) := by decide +kernel
theorem dX12_coat_16 : decode cX12_coat 16 = .ok (.ifCond .eq 17, 3) := by decide +kernel
theorem dX12_coat_19 : decode cX12_coat 19 = .ok (.iload_n 3, 1) := by decide +kernel
theorem dX12_coat_20 : decode cX12_coat 20 = .ok (.ifCond .lt 13, 3) := by decide +kernel
theorem dX12_coat_23 : decode cX12_coat 23 = .ok (.iload_n 3, 1) := by decide +kernel
theorem dX12_coat_24 : decode cX12_coat 24 = .ok (.sipush 1000, 3) := by decide +kernel
theorem dX12_coat_27 : decode cX12_coat 27 = .ok (.idiv, 1) := by decide +kernel
theorem dX12_coat_28 : decode cX12_coat 28 = .ok (.bipush 20, 2) := by decide +kernel
theorem dX12_coat_30 : decode cX12_coat 30 = .ok (.if_icmp .le 6, 3) := by decide +kernel
theorem dX12_coat_33 : decode cX12_coat 33 = .ok (.bipush (-2), 2) := by decide +kernel
theorem dX12_coat_35 : decode cX12_coat 35 = .ok (.ireturn, 1) := by decide +kernel
theorem dX12_coat_36 : decode cX12_coat 36 = .ok (.aload_n 0, 1) := by decide +kernel
theorem dX12_coat_37 : decode cX12_coat 37 = .ok (.getfield 113, 3) := by decide +kernel
theorem dX12_coat_40 : decode cX12_coat 40 = .ok (.bipush 8, 2) := by decide +kernel
theorem dX12_coat_42 : decode cX12_coat 42 = .ok (.if_icmp .ne 6, 3) := by decide +kernel
theorem dX12_coat_45 : decode cX12_coat 45 = .ok (.bipush (-4), 2) := by decide +kernel
theorem dX12_coat_47 : decode cX12_coat 47 = .ok (.ireturn, 1) := by decide +kernel
theorem dX12_coat_48 : decode cX12_coat 48 = .ok (.aload_n 0, 1) := by decide +kernel
theorem dX12_coat_49 : decode cX12_coat 49 = .ok (.getfield 22, 3) := by decide +kernel
theorem dX12_coat_52 : decode cX12_coat 52 = .ok (.aload_n 0, 1) := by decide +kernel
theorem dX12_coat_53 : decode cX12_coat 53 = .ok (.getfield 113, 3) := by decide +kernel
theorem dX12_coat_56 : decode cX12_coat 56 = .ok (.iload_n 1, 1) := by decide +kernel
theorem dX12_coat_57 : decode cX12_coat 57 = .ok (.iastore, 1) := by decide +kernel
theorem dX12_coat_58 : decode cX12_coat 58 = .ok (.aload_n 0, 1) := by decide +kernel
theorem dX12_coat_59 : decode cX12_coat 59 = .ok (.getfield 25, 3) := by decide +kernel
theorem dX12_coat_62 : decode cX12_coat 62 = .ok (.aload_n 0, 1) := by decide +kernel
theorem dX12_coat_63 : decode cX12_coat 63 = .ok (.getfield 113, 3) := by decide +kernel
theorem dX12_coat_66 : decode cX12_coat 66 = .ok (.iload_n 2, 1) := by decide +kernel
theorem dX12_coat_67 : decode cX12_coat 67 = .ok (.iastore, 1) := by decide +kernel
theorem dX12_coat_68 : decode cX12_coat 68 = .ok (.aload_n 0, 1) := by decide +kernel
theorem dX12_coat_69 : decode cX12_coat 69 = .ok (.getfield 28, 3) := by decide +kernel
theorem dX12_coat_72 : decode cX12_coat 72 = .ok (.aload_n 0, 1) := by decide +kernel
theorem dX12_coat_73 : decode cX12_coat 73 = .ok (.getfield 113, 3) := by decide +kernel
theorem dX12_coat_76 : decode cX12_coat 76 = .ok (.iload_n 3, 1) := by decide +kernel
theorem dX12_coat_77 : decode cX12_coat 77 = .ok (.sipush 1000, 3) := by decide +kernel
theorem dX12_coat_80 : decode cX12_coat 80 = .ok (.idiv, 1) := by decide +kernel
theorem dX12_coat_81 : decode cX12_coat 81 = .ok (.iastore, 1) := by decide +kernel
theorem dX12_coat_82 : decode cX12_coat 82 = .ok (.aload_n 0, 1) := by decide +kernel
theorem dX12_coat_83 : decode cX12_coat 83 = .ok (.getfield 31, 3) := by decide +kernel
theorem dX12_coat_86 : decode cX12_coat 86 = .ok (.aload_n 0, 1) := by decide +kernel
theorem dX12_coat_87 : decode cX12_coat 87 = .ok (.getfield 113, 3) := by decide +kernel
theorem dX12_coat_90 : decode cX12_coat 90 = .ok (.iload_n 3, 1) := by decide +kernel
theorem dX12_coat_91 : decode cX12_coat 91 = .ok (.sipush 1000, 3) := by decide +kernel
theorem dX12_coat_94 : decode cX12_coat 94 = .ok (.irem, 1) := by decide +kernel
theorem dX12_coat_95 : decode cX12_coat 95 = .ok (.iastore, 1) := by decide +kernel
theorem dX12_coat_96 : decode cX12_coat 96 = .ok (.aload_n 0, 1) := by decide +kernel
theorem dX12_coat_97 : decode cX12_coat 97 = .ok (.getfield 34, 3) := by decide +kernel
theorem dX12_coat_100 : decode cX12_coat 100 = .ok (.aload_n 0, 1) := by decide +kernel
theorem dX12_coat_101 : decode cX12_coat 101 = .ok (.getfield 113, 3) := by decide +kernel
theorem dX12_coat_104 : decode cX12_coat 104 = .ok (.iconst 0, 1) := by decide +kernel
theorem dX12_coat_105 : decode cX12_coat 105 = .ok (.bastore, 1) := by decide +kernel
theorem dX12_coat_106 : decode cX12_coat 106 = .ok (.aload_n 0, 1) := by decide +kernel
theorem dX12_coat_107 : decode cX12_coat 107 = .ok (.dup, 1) := by decide +kernel
theorem dX12_coat_108 : decode cX12_coat 108 = .ok (.getfield 113, 3) := by decide +kernel
theorem dX12_coat_111 : decode cX12_coat 111 = .ok (.iconst 1, 1) := by decide +kernel
theorem dX12_coat_112 : decode cX12_coat 112 = .ok (.iadd, 1) := by decide +kernel
theorem dX12_coat_113 : decode cX12_coat 113 = .ok (.putfield 113, 3) := by decide +kernel
theorem dX12_coat_116 : decode cX12_coat 116 = .ok (.aload_n 0, 1) := by decide +kernel
theorem dX12_coat_117 : decode cX12_coat 117 = .ok (.getfield 113, 3) := by decide +kernel
theorem dX12_coat_120 : decode cX12_coat 120 = .ok (.iconst 1, 1) := by decide +kernel
theorem dX12_coat_121 : decode cX12_coat 121 = .ok (.isub, 1) := by decide +kernel
theorem dX12_coat_122 : decode cX12_coat 122 = .ok (.ireturn, 1) := by decide +kernel
theorem dX12_shadeOf_0 : decode cX12_shadeOf 0 = .ok (.aload_n 0, 1) := by decide +kernel
theorem dX12_shadeOf_1 : decode cX12_shadeOf 1 = .ok (.getfield 13, 3) := by decide +kernel
theorem dX12_shadeOf_4 : decode cX12_shadeOf 4 = .ok (.iload_n 1, 1) := by decide +kernel
theorem dX12_shadeOf_5 : decode cX12_shadeOf 5 = .ok (.iaload, 1) := by decide +kernel
theorem dX12_shadeOf_6 : decode cX12_shadeOf 6 = .ok (.aload_n 0, 1) := by decide +kernel
theorem dX12_shadeOf_7 : decode cX12_shadeOf 7 = .ok (.getfield 19, 3) := by decide +kernel
theorem dX12_shadeOf_10 : decode cX12_shadeOf 10 = .ok (.aload_n 0, 1) := by decide +kernel
theorem dX12_shadeOf_11 : decode cX12_shadeOf 11 = .ok (.getfield 16, 3) := by decide +kernel
theorem dX12_shadeOf_14 : decode cX12_shadeOf 14 = .ok (.iload_n 1, 1) := by decide +kernel
theorem dX12_shadeOf_15 : decode cX12_shadeOf 15 = .ok (.iaload, 1) := by decide +kernel
theorem dX12_shadeOf_16 : decode cX12_shadeOf 16 = .ok (.iaload, 1) := by decide +kernel
theorem dX12_shadeOf_17 : decode cX12_shadeOf 17 = .ok (.isub, 1) := by decide +kernel
theorem dX12_shadeOf_18 : decode cX12_shadeOf 18 = .ok (.bipush 99, 2) := by decide +kernel
theorem dX12_shadeOf_20 : decode cX12_shadeOf 20 = .ok (.invokestatic 120, 3) := by decide +kernel
theorem dX12_shadeOf_23 : decode cX12_shadeOf 23 = .ok (.ireturn, 1) := by decide +kernel
theorem dX12_takes_0 : decode cX12_takes 0 = .ok (.aload_n 0, 1) := by decide +kernel
theorem dX12_takes_1 : decode cX12_takes 1 = .ok (.getfield 22, 3) := by decide +kernel
theorem dX12_takes_4 : decode cX12_takes 4 = .ok (.iload_n 1, 1) := by decide +kernel
theorem dX12_takes_5 : decode cX12_takes 5 = .ok (.iaload, 1) := by decide +kernel
theorem dX12_takes_6 : decode cX12_takes 6 = .ok (.iconst 3, 1) := by decide +kernel
theorem dX12_takes_7 : decode cX12_takes 7 = .ok (.if_icmp .ne 19, 3) := by decide +kernel
theorem dX12_takes_10 : decode cX12_takes 10 = .ok (.aload_n 0, 1) := by decide +kernel
theorem dX12_takes_11 : decode cX12_takes 11 = .ok (.getfield 28, 3) := by decide +kernel
theorem dX12_takes_14 : decode cX12_takes 14 = .ok (.iload_n 1, 1) := by decide +kernel
theorem dX12_takes_15 : decode cX12_takes 15 = .ok (.iaload, 1) := by decide +kernel
theorem dX12_takes_16 : decode cX12_takes 16 = .ok (.iload_n 2, 1) := by decide +kernel
theorem dX12_takes_17 : decode cX12_takes 17 = .ok (.ishr, 1) := by decide +kernel
theorem dX12_takes_18 : decode cX12_takes 18 = .ok (.iconst 1, 1) := by decide +kernel
theorem dX12_takes_19 : decode cX12_takes 19 = .ok (.iand, 1) := by decide +kernel
theorem dX12_takes_20 : decode cX12_takes 20 = .ok (.iconst 1, 1) := by decide +kernel
theorem dX12_takes_21 : decode cX12_takes 21 = .ok (.if_icmp .ne 5, 3) := by decide +kernel
theorem dX12_takes_24 : decode cX12_takes 24 = .ok (.iconst 0, 1) := by decide +kernel
theorem dX12_takes_25 : decode cX12_takes 25 = .ok (.ireturn, 1) := by decide +kernel
theorem dX12_takes_26 : decode cX12_takes 26 = .ok (.iload_n 2, 1) := by decide +kernel
theorem dX12_takes_27 : decode cX12_takes 27 = .ok (.iconst 2, 1) := by decide +kernel
theorem dX12_takes_28 : decode cX12_takes 28 = .ok (.if_icmp .ge 14, 3) := by decide +kernel
theorem dX12_takes_31 : decode cX12_takes 31 = .ok (.aload_n 0, 1) := by decide +kernel
theorem dX12_takes_32 : decode cX12_takes 32 = .ok (.getfield 25, 3) := by decide +kernel
theorem dX12_takes_35 : decode cX12_takes 35 = .ok (.iload_n 1, 1) := by decide +kernel
theorem dX12_takes_36 : decode cX12_takes 36 = .ok (.iaload, 1) := by decide +kernel
theorem dX12_takes_37 : decode cX12_takes 37 = .ok (.iconst 1, 1) := by decide +kernel
theorem dX12_takes_38 : decode cX12_takes 38 = .ok (.iadd, 1) := by decide +kernel
theorem dX12_takes_39 : decode cX12_takes 39 = .ok (.goto 20, 3) := by decide +kernel
theorem dX12_takes_42 : decode cX12_takes 42 = .ok (.iload_n 2, 1) := by decide +kernel
theorem dX12_takes_43 : decode cX12_takes 43 = .ok (.iconst 4, 1) := by decide +kernel
theorem dX12_takes_44 : decode cX12_takes 44 = .ok (.if_icmp .ge 14, 3) := by decide +kernel
theorem dX12_takes_47 : decode cX12_takes 47 = .ok (.iconst 2, 1) := by decide +kernel
theorem dX12_takes_48 : decode cX12_takes 48 = .ok (.aload_n 0, 1) := by decide +kernel
theorem dX12_takes_49 : decode cX12_takes 49 = .ok (.getfield 25, 3) := by decide +kernel
theorem dX12_takes_52 : decode cX12_takes 52 = .ok (.iload_n 1, 1) := by decide +kernel
theorem dX12_takes_53 : decode cX12_takes 53 = .ok (.iaload, 1) := by decide +kernel
theorem dX12_takes_54 : decode cX12_takes 54 = .ok (.imul, 1) := by decide +kernel
theorem dX12_takes_55 : decode cX12_takes 55 = .ok (.goto 4, 3) := by decide +kernel
theorem dX12_takes_58 : decode cX12_takes 58 = .ok (.iconst 1, 1) := by decide +kernel
theorem dX12_takes_59 : decode cX12_takes 59 = .ok (.istore_n 3, 1) := by decide +kernel
theorem dX12_takes_60 : decode cX12_takes 60 = .ok (.aload_n 0, 1) := by decide +kernel
theorem dX12_takes_61 : decode cX12_takes 61 = .ok (.getfield 22, 3) := by decide +kernel
theorem dX12_takes_64 : decode cX12_takes 64 = .ok (.iload_n 1, 1) := by decide +kernel
theorem dX12_takes_65 : decode cX12_takes 65 = .ok (.iaload, 1) := by decide +kernel
theorem dX12_takes_66 : decode cX12_takes 66 = .ok (.iconst 5, 1) := by decide +kernel
theorem dX12_takes_67 : decode cX12_takes 67 = .ok (.if_icmp .ne 9, 3) := by decide +kernel
theorem dX12_takes_70 : decode cX12_takes 70 = .ok (.iload_n 3, 1) := by decide +kernel
theorem dX12_takes_71 : decode cX12_takes 71 = .ok (.iconst 1, 1) := by decide +kernel
theorem dX12_takes_72 : decode cX12_takes 72 = .ok (.iadd, 1) := by decide +kernel
theorem dX12_takes_73 : decode cX12_takes 73 = .ok (.goto 4, 3) := by decide +kernel
theorem dX12_takes_76 : decode cX12_takes 76 = .ok (.iload_n 3, 1) := by decide +kernel
theorem dX12_takes_77 : decode cX12_takes 77 = .ok (.ireturn, 1) := by decide +kernel
theorem dX12_takesAll_0 : decode cX12_takesAll 0 = .ok (.iconst 0, 1) := by decide +kernel
theorem dX12_takesAll_1 : decode cX12_takesAll 1 = .ok (.istore_n 2, 1) := by decide +kernel
theorem dX12_takesAll_2 : decode cX12_takesAll 2 = .ok (.iconst 0, 1) := by decide +kernel
theorem dX12_takesAll_3 : decode cX12_takesAll 3 = .ok (.istore_n 3, 1) := by decide +kernel
theorem dX12_takesAll_4 : decode cX12_takesAll 4 = .ok (.iload_n 3, 1) := by decide +kernel
theorem dX12_takesAll_5 : decode cX12_takesAll 5 = .ok (.iconst 5, 1) := by decide +kernel
theorem dX12_takesAll_6 : decode cX12_takesAll 6 = .ok (.if_icmp .ge 18, 3) := by decide +kernel
theorem dX12_takesAll_9 : decode cX12_takesAll 9 = .ok (.iload_n 2, 1) := by decide +kernel
theorem dX12_takesAll_10 : decode cX12_takesAll 10 = .ok (.aload_n 0, 1) := by decide +kernel
theorem dX12_takesAll_11 : decode cX12_takesAll 11 = .ok (.iload_n 1, 1) := by decide +kernel
theorem dX12_takesAll_12 : decode cX12_takesAll 12 = .ok (.iload_n 3, 1) := by decide +kernel
theorem dX12_takesAll_13 : decode cX12_takesAll 13 = .ok (.invokevirtual 124, 3) := by decide +kernel
theorem dX12_takesAll_16 : decode cX12_takesAll 16 = .ok (.iadd, 1) := by decide +kernel
theorem dX12_takesAll_17 : decode cX12_takesAll 17 = .ok (.istore_n 2, 1) := by decide +kernel
theorem dX12_takesAll_18 : decode cX12_takesAll 18 = .ok (.iinc 3 1, 3) := by decide +kernel
theorem dX12_takesAll_21 : decode cX12_takesAll 21 = .ok (.goto (-17), 3) := by decide +kernel
theorem dX12_takesAll_24 : decode cX12_takesAll 24 = .ok (.iload_n 2, 1) := by decide +kernel
theorem dX12_takesAll_25 : decode cX12_takesAll 25 = .ok (.ireturn, 1) := by decide +kernel
theorem dX12_bears_0 : decode cX12_bears 0 = .ok (.iload_n 2, 1) := by decide +kernel
theorem dX12_bears_1 : decode cX12_bears 1 = .ok (.ifCond .ne 7, 3) := by decide +kernel
theorem dX12_bears_4 : decode cX12_bears 4 = .ok (.iconst 0, 1) := by decide +kernel
theorem dX12_bears_5 : decode cX12_bears 5 = .ok (.goto 13, 3) := by decide +kernel
theorem dX12_bears_8 : decode cX12_bears 8 = .ok (.iload_n 2, 1) := by decide +kernel
theorem dX12_bears_9 : decode cX12_bears 9 = .ok (.iconst 3, 1) := by decide +kernel
theorem dX12_bears_10 : decode cX12_bears 10 = .ok (.if_icmp .ge 7, 3) := by decide +kernel
theorem dX12_bears_13 : decode cX12_bears 13 = .ok (.iconst 2, 1) := by decide +kernel
theorem dX12_bears_14 : decode cX12_bears 14 = .ok (.goto 4, 3) := by decide +kernel
theorem dX12_bears_17 : decode cX12_bears 17 = .ok (.iconst 4, 1) := by decide +kernel
theorem dX12_bears_18 : decode cX12_bears 18 = .ok (.istore_n 3, 1) := by decide +kernel
theorem dX12_bears_19 : decode cX12_bears 19 = .ok (.aload_n 0, 1) := by decide +kernel
theorem dX12_bears_20 : decode cX12_bears 20 = .ok (.getfield 22, 3) := by decide +kernel
theorem dX12_bears_23 : decode cX12_bears 23 = .ok (.iload_n 1, 1) := by decide +kernel
theorem dX12_bears_24 : decode cX12_bears 24 = .ok (.iaload, 1) := by decide +kernel
theorem dX12_bears_25 : decode cX12_bears 25 = .ok (.tableswitch 61 1 5 #[35, 44, 61, 48, 59], 35) := by decide +kernel
theorem dX12_bears_60 : decode cX12_bears 60 = .ok (.iload_n 3, 1) := by decide +kernel
theorem dX12_bears_61 : decode cX12_bears 61 = .ok (.aload_n 0, 1) := by decide +kernel
theorem dX12_bears_62 : decode cX12_bears 62 = .ok (.getfield 28, 3) := by decide +kernel
theorem dX12_bears_65 : decode cX12_bears 65 = .ok (.iload_n 1, 1) := by decide +kernel
theorem dX12_bears_66 : decode cX12_bears 66 = .ok (.iaload, 1) := by decide +kernel
theorem dX12_bears_67 : decode cX12_bears 67 = .ok (.iadd, 1) := by decide +kernel
theorem dX12_bears_68 : decode cX12_bears 68 = .ok (.ireturn, 1) := by decide +kernel
theorem dX12_bears_69 : decode cX12_bears 69 = .ok (.iload_n 3, 1) := by decide +kernel
theorem dX12_bears_70 : decode cX12_bears 70 = .ok (.iconst 1, 1) := by decide +kernel
theorem dX12_bears_71 : decode cX12_bears 71 = .ok (.iadd, 1) := by decide +kernel
theorem dX12_bears_72 : decode cX12_bears 72 = .ok (.ireturn, 1) := by decide +kernel
theorem dX12_bears_73 : decode cX12_bears 73 = .ok (.iload_n 3, 1) := by decide +kernel
theorem dX12_bears_74 : decode cX12_bears 74 = .ok (.aload_n 0, 1) := by decide +kernel
theorem dX12_bears_75 : decode cX12_bears 75 = .ok (.getfield 28, 3) := by decide +kernel
theorem dX12_bears_78 : decode cX12_bears 78 = .ok (.iload_n 1, 1) := by decide +kernel
theorem dX12_bears_79 : decode cX12_bears 79 = .ok (.iaload, 1) := by decide +kernel
theorem dX12_bears_80 : decode cX12_bears 80 = .ok (.iadd, 1) := by decide +kernel
theorem dX12_bears_81 : decode cX12_bears 81 = .ok (.iconst 2, 1) := by decide +kernel
theorem dX12_bears_82 : decode cX12_bears 82 = .ok (.idiv, 1) := by decide +kernel
theorem dX12_bears_83 : decode cX12_bears 83 = .ok (.ireturn, 1) := by decide +kernel
theorem dX12_bears_84 : decode cX12_bears 84 = .ok (.iload_n 3, 1) := by decide +kernel
theorem dX12_bears_85 : decode cX12_bears 85 = .ok (.ireturn, 1) := by decide +kernel
theorem dX12_bears_86 : decode cX12_bears 86 = .ok (.iload_n 3, 1) := by decide +kernel
theorem dX12_bears_87 : decode cX12_bears 87 = .ok (.ireturn, 1) := by decide +kernel
theorem dX12_brings_0 : decode cX12_brings 0 = .ok (.aload_n 0, 1) := by decide +kernel
theorem dX12_brings_1 : decode cX12_brings 1 = .ok (.getfield 22, 3) := by decide +kernel
theorem dX12_brings_4 : decode cX12_brings 4 = .ok (.iload_n 1, 1) := by decide +kernel
theorem dX12_brings_5 : decode cX12_brings 5 = .ok (.iaload, 1) := by decide +kernel
theorem dX12_brings_6 : decode cX12_brings 6 = .ok (.tableswitch 78 1 5 #[34, 78, 78, 48, 64], 34) := by decide +kernel
theorem dX12_brings_40 : decode cX12_brings 40 = .ok (.aload_n 0, 1) := by decide +kernel
theorem dX12_brings_41 : decode cX12_brings 41 = .ok (.getfield 31, 3) := by decide +kernel
theorem dX12_brings_44 : decode cX12_brings 44 = .ok (.iload_n 1, 1) := by decide +kernel
theorem dX12_brings_45 : decode cX12_brings 45 = .ok (.iaload, 1) := by decide +kernel
theorem dX12_brings_46 : decode cX12_brings 46 = .ok (.aload_n 0, 1) := by decide +kernel
theorem dX12_brings_47 : decode cX12_brings 47 = .ok (.getfield 28, 3) := by decide +kernel
theorem dX12_brings_50 : decode cX12_brings 50 = .ok (.iload_n 1, 1) := by decide +kernel
theorem dX12_brings_51 : decode cX12_brings 51 = .ok (.iaload, 1) := by decide +kernel
theorem dX12_brings_52 : decode cX12_brings 52 = .ok (.isub, 1) := by decide +kernel
theorem dX12_brings_53 : decode cX12_brings 53 = .ok (.ireturn, 1) := by decide +kernel
theorem dX12_brings_54 : decode cX12_brings 54 = .ok (.iconst 2, 1) := by decide +kernel
theorem dX12_brings_55 : decode cX12_brings 55 = .ok (.aload_n 0, 1) := by decide +kernel
theorem dX12_brings_56 : decode cX12_brings 56 = .ok (.getfield 31, 3) := by decide +kernel
theorem dX12_brings_59 : decode cX12_brings 59 = .ok (.iload_n 1, 1) := by decide +kernel
theorem dX12_brings_60 : decode cX12_brings 60 = .ok (.iaload, 1) := by decide +kernel
theorem dX12_brings_61 : decode cX12_brings 61 = .ok (.aload_n 0, 1) := by decide +kernel
theorem dX12_brings_62 : decode cX12_brings 62 = .ok (.getfield 28, 3) := by decide +kernel
theorem dX12_brings_65 : decode cX12_brings 65 = .ok (.iload_n 1, 1) := by decide +kernel
theorem dX12_brings_66 : decode cX12_brings 66 = .ok (.iaload, 1) := by decide +kernel
theorem dX12_brings_67 : decode cX12_brings 67 = .ok (.isub, 1) := by decide +kernel
theorem dX12_brings_68 : decode cX12_brings 68 = .ok (.imul, 1) := by decide +kernel
theorem dX12_brings_69 : decode cX12_brings 69 = .ok (.ireturn, 1) := by decide +kernel
theorem dX12_brings_70 : decode cX12_brings 70 = .ok (.aload_n 0, 1) := by decide +kernel
theorem dX12_brings_71 : decode cX12_brings 71 = .ok (.getfield 31, 3) := by decide +kernel
theorem dX12_brings_74 : decode cX12_brings 74 = .ok (.iload_n 1, 1) := by decide +kernel
theorem dX12_brings_75 : decode cX12_brings 75 = .ok (.iaload, 1) := by decide +kernel
theorem dX12_brings_76 : decode cX12_brings 76 = .ok (.aload_n 0, 1) := by decide +kernel
theorem dX12_brings_77 : decode cX12_brings 77 = .ok (.getfield 28, 3) := by decide +kernel
theorem dX12_brings_80 : decode cX12_brings 80 = .ok (.iload_n 1, 1) := by decide +kernel
theorem dX12_brings_81 : decode cX12_brings 81 = .ok (.iaload, 1) := by decide +kernel
theorem dX12_brings_82 : decode cX12_brings 82 = .ok (.iadd, 1) := by decide +kernel
theorem dX12_brings_83 : decode cX12_brings 83 = .ok (.ireturn, 1) := by decide +kernel
theorem dX12_brings_84 : decode cX12_brings 84 = .ok (.aload_n 0, 1) := by decide +kernel
theorem dX12_brings_85 : decode cX12_brings 85 = .ok (.getfield 31, 3) := by decide +kernel
theorem dX12_brings_88 : decode cX12_brings 88 = .ok (.iload_n 1, 1) := by decide +kernel
theorem dX12_brings_89 : decode cX12_brings 89 = .ok (.iaload, 1) := by decide +kernel
theorem dX12_brings_90 : decode cX12_brings 90 = .ok (.ireturn, 1) := by decide +kernel
theorem dX12_oneOf_0 : decode cX12_oneOf 0 = .ok (.iload_n 0, 1) := by decide +kernel
theorem dX12_oneOf_1 : decode cX12_oneOf 1 = .ok (.iconst 2, 1) := by decide +kernel
theorem dX12_oneOf_2 : decode cX12_oneOf 2 = .ok (.if_icmp .ge 7, 3) := by decide +kernel
theorem dX12_oneOf_5 : decode cX12_oneOf 5 = .ok (.iconst 0, 1) := by decide +kernel
theorem dX12_oneOf_6 : decode cX12_oneOf 6 = .ok (.goto 22, 3) := by decide +kernel
theorem dX12_oneOf_9 : decode cX12_oneOf 9 = .ok (.iload_n 0, 1) := by decide +kernel
theorem dX12_oneOf_10 : decode cX12_oneOf 10 = .ok (.iconst 2, 1) := by decide +kernel
theorem dX12_oneOf_11 : decode cX12_oneOf 11 = .ok (.if_icmp .ne 7, 3) := by decide +kernel
theorem dX12_oneOf_14 : decode cX12_oneOf 14 = .ok (.iconst 1, 1) := by decide +kernel
theorem dX12_oneOf_15 : decode cX12_oneOf 15 = .ok (.goto 13, 3) := by decide +kernel
theorem dX12_oneOf_18 : decode cX12_oneOf 18 = .ok (.iload_n 0, 1) := by decide +kernel
theorem dX12_oneOf_19 : decode cX12_oneOf 19 = .ok (.iconst 5, 1) := by decide +kernel
theorem dX12_oneOf_20 : decode cX12_oneOf 20 = .ok (.if_icmp .ne 7, 3) := by decide +kernel
theorem dX12_oneOf_23 : decode cX12_oneOf 23 = .ok (.iconst 3, 1) := by decide +kernel
theorem dX12_oneOf_24 : decode cX12_oneOf 24 = .ok (.goto 4, 3) := by decide +kernel
theorem dX12_oneOf_27 : decode cX12_oneOf 27 = .ok (.iconst 2, 1) := by decide +kernel
theorem dX12_oneOf_28 : decode cX12_oneOf 28 = .ok (.ireturn, 1) := by decide +kernel
theorem dX12_otherOf_0 : decode cX12_otherOf 0 = .ok (.iload_n 0, 1) := by decide +kernel
theorem dX12_otherOf_1 : decode cX12_otherOf 1 = .ok (.ifCond .ne 7, 3) := by decide +kernel
theorem dX12_otherOf_4 : decode cX12_otherOf 4 = .ok (.iconst 1, 1) := by decide +kernel
theorem dX12_otherOf_5 : decode cX12_otherOf 5 = .ok (.goto 22, 3) := by decide +kernel
theorem dX12_otherOf_8 : decode cX12_otherOf 8 = .ok (.iload_n 0, 1) := by decide +kernel
theorem dX12_otherOf_9 : decode cX12_otherOf 9 = .ok (.iconst 3, 1) := by decide +kernel
theorem dX12_otherOf_10 : decode cX12_otherOf 10 = .ok (.if_icmp .ge 7, 3) := by decide +kernel
theorem dX12_otherOf_13 : decode cX12_otherOf 13 = .ok (.iconst 2, 1) := by decide +kernel
theorem dX12_otherOf_14 : decode cX12_otherOf 14 = .ok (.goto 13, 3) := by decide +kernel
theorem dX12_otherOf_17 : decode cX12_otherOf 17 = .ok (.iload_n 0, 1) := by decide +kernel
theorem dX12_otherOf_18 : decode cX12_otherOf 18 = .ok (.iconst 3, 1) := by decide +kernel
theorem dX12_otherOf_19 : decode cX12_otherOf 19 = .ok (.if_icmp .ne 7, 3) := by decide +kernel
theorem dX12_otherOf_22 : decode cX12_otherOf 22 = .ok (.iconst 3, 1) := by decide +kernel
theorem dX12_otherOf_23 : decode cX12_otherOf 23 = .ok (.goto 4, 3) := by decide +kernel
theorem dX12_otherOf_26 : decode cX12_otherOf 26 = .ok (.iconst 4, 1) := by decide +kernel
theorem dX12_otherOf_27 : decode cX12_otherOf 27 = .ok (.ireturn, 1) := by decide +kernel
theorem dX12_told_0 : decode cX12_told 0 = .ok (.aload_n 0, 1) := by decide +kernel
theorem dX12_told_1 : decode cX12_told 1 = .ok (.iload_n 1, 1) := by decide +kernel
theorem dX12_told_2 : decode cX12_told 2 = .ok (.invokevirtual 127, 3) := by decide +kernel
theorem dX12_told_5 : decode cX12_told 5 = .ok (.ifCond .ne 6, 3) := by decide +kernel
theorem dX12_told_8 : decode cX12_told 8 = .ok (.bipush (-5), 2) := by decide +kernel
theorem dX12_told_10 : decode cX12_told 10 = .ok (.ireturn, 1) := by decide +kernel
theorem dX12_told_11 : decode cX12_told 11 = .ok (.iload_n 2, 1) := by decide +kernel
theorem dX12_told_12 : decode cX12_told 12 = .ok (.bipush 10, 2) := by decide +kernel
theorem dX12_told_14 : decode cX12_told 14 = .ok (.bipush 14, 2) := by decide +kernel
theorem dX12_told_16 : decode cX12_told 16 = .ok (.invokestatic 109, 3) := by decide +kernel
theorem dX12_told_19 : decode cX12_told 19 = .ok (.ifCond .eq 13, 3) := by decide +kernel
theorem dX12_told_22 : decode cX12_told 22 = .ok (.aload_n 0, 1) := by decide +kernel
theorem dX12_told_23 : decode cX12_told 23 = .ok (.iload_n 1, 1) := by decide +kernel
theorem dX12_told_24 : decode cX12_told 24 = .ok (.iload_n 2, 1) := by decide +kernel
theorem dX12_told_25 : decode cX12_told 25 = .ok (.bipush 10, 2) := by decide +kernel
theorem dX12_told_27 : decode cX12_told 27 = .ok (.isub, 1) := by decide +kernel
theorem dX12_told_28 : decode cX12_told 28 = .ok (.invokevirtual 124, 3) := by decide +kernel
theorem dX12_told_31 : decode cX12_told 31 = .ok (.ireturn, 1) := by decide +kernel
theorem dX12_told_32 : decode cX12_told 32 = .ok (.iload_n 2, 1) := by decide +kernel
theorem dX12_told_33 : decode cX12_told 33 = .ok (.bipush 20, 2) := by decide +kernel
theorem dX12_told_35 : decode cX12_told 35 = .ok (.bipush 25, 2) := by decide +kernel
theorem dX12_told_37 : decode cX12_told 37 = .ok (.invokestatic 109, 3) := by decide +kernel
theorem dX12_told_40 : decode cX12_told 40 = .ok (.ifCond .eq 23, 3) := by decide +kernel
theorem dX12_told_43 : decode cX12_told 43 = .ok (.aload_n 0, 1) := by decide +kernel
theorem dX12_told_44 : decode cX12_told 44 = .ok (.iload_n 1, 1) := by decide +kernel
theorem dX12_told_45 : decode cX12_told 45 = .ok (.iload_n 2, 1) := by decide +kernel
theorem dX12_told_46 : decode cX12_told 46 = .ok (.bipush 20, 2) := by decide +kernel
theorem dX12_told_48 : decode cX12_told 48 = .ok (.isub, 1) := by decide +kernel
theorem dX12_told_49 : decode cX12_told 49 = .ok (.invokevirtual 130, 3) := by decide +kernel
theorem dX12_told_52 : decode cX12_told 52 = .ok (.aload_n 0, 1) := by decide +kernel
theorem dX12_told_53 : decode cX12_told 53 = .ok (.iload_n 1, 1) := by decide +kernel
theorem dX12_told_54 : decode cX12_told 54 = .ok (.iload_n 2, 1) := by decide +kernel
theorem dX12_told_55 : decode cX12_told 55 = .ok (.bipush 20, 2) := by decide +kernel
theorem dX12_told_57 : decode cX12_told 57 = .ok (.isub, 1) := by decide +kernel
theorem dX12_told_58 : decode cX12_told 58 = .ok (.invokevirtual 133, 3) := by decide +kernel
theorem dX12_told_61 : decode cX12_told 61 = .ok (.iadd, 1) := by decide +kernel
theorem dX12_told_62 : decode cX12_told 62 = .ok (.ireturn, 1) := by decide +kernel
theorem dX12_told_63 : decode cX12_told 63 = .ok (.iload_n 2, 1) := by decide +kernel
theorem dX12_told_64 : decode cX12_told 64 = .ok (.tableswitch 98 0 6 #[44, 51, 58, 65, 71, 77, 83], 44) := by decide +kernel
theorem dX12_told_108 : decode cX12_told 108 = .ok (.aload_n 0, 1) := by decide +kernel
theorem dX12_told_109 : decode cX12_told 109 = .ok (.getfield 22, 3) := by decide +kernel
theorem dX12_told_112 : decode cX12_told 112 = .ok (.iload_n 1, 1) := by decide +kernel
theorem dX12_told_113 : decode cX12_told 113 = .ok (.iaload, 1) := by decide +kernel
theorem dX12_told_114 : decode cX12_told 114 = .ok (.ireturn, 1) := by decide +kernel
theorem dX12_told_115 : decode cX12_told 115 = .ok (.aload_n 0, 1) := by decide +kernel
theorem dX12_told_116 : decode cX12_told 116 = .ok (.getfield 25, 3) := by decide +kernel
theorem dX12_told_119 : decode cX12_told 119 = .ok (.iload_n 1, 1) := by decide +kernel
theorem dX12_told_120 : decode cX12_told 120 = .ok (.iaload, 1) := by decide +kernel
theorem dX12_told_121 : decode cX12_told 121 = .ok (.ireturn, 1) := by decide +kernel
theorem dX12_told_122 : decode cX12_told 122 = .ok (.aload_n 0, 1) := by decide +kernel
theorem dX12_told_123 : decode cX12_told 123 = .ok (.getfield 28, 3) := by decide +kernel
theorem dX12_told_126 : decode cX12_told 126 = .ok (.iload_n 1, 1) := by decide +kernel
theorem dX12_told_127 : decode cX12_told 127 = .ok (.iaload, 1) := by decide +kernel
theorem dX12_told_128 : decode cX12_told 128 = .ok (.ireturn, 1) := by decide +kernel
theorem dX12_told_129 : decode cX12_told 129 = .ok (.aload_n 0, 1) := by decide +kernel
theorem dX12_told_130 : decode cX12_told 130 = .ok (.iload_n 1, 1) := by decide +kernel
theorem dX12_told_131 : decode cX12_told 131 = .ok (.invokevirtual 136, 3) := by decide +kernel
theorem dX12_told_134 : decode cX12_told 134 = .ok (.ireturn, 1) := by decide +kernel
theorem dX12_told_135 : decode cX12_told 135 = .ok (.aload_n 0, 1) := by decide +kernel
theorem dX12_told_136 : decode cX12_told 136 = .ok (.iload_n 1, 1) := by decide +kernel
theorem dX12_told_137 : decode cX12_told 137 = .ok (.invokevirtual 140, 3) := by decide +kernel
theorem dX12_told_140 : decode cX12_told 140 = .ok (.ireturn, 1) := by decide +kernel
theorem dX12_told_141 : decode cX12_told 141 = .ok (.aload_n 0, 1) := by decide +kernel
theorem dX12_told_142 : decode cX12_told 142 = .ok (.iload_n 1, 1) := by decide +kernel
theorem dX12_told_143 : decode cX12_told 143 = .ok (.invokevirtual 143, 3) := by decide +kernel
theorem dX12_told_146 : decode cX12_told 146 = .ok (.ireturn, 1) := by decide +kernel
theorem dX12_told_147 : decode cX12_told 147 = .ok (.aload_n 0, 1) := by decide +kernel
theorem dX12_told_148 : decode cX12_told 148 = .ok (.getfield 34, 3) := by decide +kernel
theorem dX12_told_151 : decode cX12_told 151 = .ok (.iload_n 1, 1) := by decide +kernel
theorem dX12_told_152 : decode cX12_told 152 = .ok (.baload, 1) := by decide +kernel
theorem dX12_told_153 : decode cX12_told 153 = .ok (.ifCond .eq 7, 3) := by decide +kernel
theorem dX12_told_156 : decode cX12_told 156 = .ok (.iconst 1, 1) := by decide +kernel
theorem dX12_told_157 : decode cX12_told 157 = .ok (.goto 4, 3) := by decide +kernel
theorem dX12_told_160 : decode cX12_told 160 = .ok (.iconst 0, 1) := by decide +kernel
theorem dX12_told_161 : decode cX12_told 161 = .ok (.ireturn, 1) := by decide +kernel
theorem dX12_told_162 : decode cX12_told 162 = .ok (.bipush (-5), 2) := by decide +kernel
theorem dX12_told_164 : decode cX12_told 164 = .ok (.ireturn, 1) := by decide +kernel
theorem dX12_hankTold_0 : decode cX12_hankTold 0 = .ok (.aload_n 0, 1) := by decide +kernel
theorem dX12_hankTold_1 : decode cX12_hankTold 1 = .ok (.iload_n 1, 1) := by decide +kernel
theorem dX12_hankTold_2 : decode cX12_hankTold 2 = .ok (.invokevirtual 116, 3) := by decide +kernel
theorem dX12_hankTold_5 : decode cX12_hankTold 5 = .ok (.ifCond .ne 8, 3) := by decide +kernel
theorem dX12_hankTold_8 : decode cX12_hankTold 8 = .ok (.bipush (-5), 2) := by decide +kernel
theorem dX12_hankTold_10 : decode cX12_hankTold 10 = .ok (.goto 45, 3) := by decide +kernel
theorem dX12_hankTold_13 : decode cX12_hankTold 13 = .ok (.iload_n 2, 1) := by decide +kernel
theorem dX12_hankTold_14 : decode cX12_hankTold 14 = .ok (.ifCond .ne 12, 3) := by decide +kernel
theorem dX12_hankTold_17 : decode cX12_hankTold 17 = .ok (.aload_n 0, 1) := by decide +kernel
theorem dX12_hankTold_18 : decode cX12_hankTold 18 = .ok (.getfield 7, 3) := by decide +kernel
theorem dX12_hankTold_21 : decode cX12_hankTold 21 = .ok (.iload_n 1, 1) := by decide +kernel
theorem dX12_hankTold_22 : decode cX12_hankTold 22 = .ok (.iaload, 1) := by decide +kernel
theorem dX12_hankTold_23 : decode cX12_hankTold 23 = .ok (.goto 32, 3) := by decide +kernel
theorem dX12_hankTold_26 : decode cX12_hankTold 26 = .ok (.iload_n 2, 1) := by decide +kernel
theorem dX12_hankTold_27 : decode cX12_hankTold 27 = .ok (.iconst 1, 1) := by decide +kernel
theorem dX12_hankTold_28 : decode cX12_hankTold 28 = .ok (.if_icmp .ne 11, 3) := by decide +kernel
theorem dX12_hankTold_31 : decode cX12_hankTold 31 = .ok (.aload_n 0, 1) := by decide +kernel
theorem dX12_hankTold_32 : decode cX12_hankTold 32 = .ok (.iload_n 1, 1) := by decide +kernel
theorem dX12_hankTold_33 : decode cX12_hankTold 33 = .ok (.invokevirtual 146, 3) := by decide +kernel
theorem dX12_hankTold_36 : decode cX12_hankTold 36 = .ok (.goto 19, 3) := by decide +kernel
theorem dX12_hankTold_39 : decode cX12_hankTold 39 = .ok (.iload_n 2, 1) := by decide +kernel
theorem dX12_hankTold_40 : decode cX12_hankTold 40 = .ok (.iconst 2, 1) := by decide +kernel
theorem dX12_hankTold_41 : decode cX12_hankTold 41 = .ok (.if_icmp .ne 12, 3) := by decide +kernel
theorem dX12_hankTold_44 : decode cX12_hankTold 44 = .ok (.aload_n 0, 1) := by decide +kernel
theorem dX12_hankTold_45 : decode cX12_hankTold 45 = .ok (.getfield 16, 3) := by decide +kernel
theorem dX12_hankTold_48 : decode cX12_hankTold 48 = .ok (.iload_n 1, 1) := by decide +kernel
theorem dX12_hankTold_49 : decode cX12_hankTold 49 = .ok (.iaload, 1) := by decide +kernel
theorem dX12_hankTold_50 : decode cX12_hankTold 50 = .ok (.goto 5, 3) := by decide +kernel
theorem dX12_hankTold_53 : decode cX12_hankTold 53 = .ok (.bipush (-5), 2) := by decide +kernel
theorem dX12_hankTold_55 : decode cX12_hankTold 55 = .ok (.ireturn, 1) := by decide +kernel
theorem dX12_feed_0 : decode cX12_feed 0 = .ok (.iload_n 1, 1) := by decide +kernel
theorem dX12_feed_1 : decode cX12_feed 1 = .ok (.iconst 1, 1) := by decide +kernel
theorem dX12_feed_2 : decode cX12_feed 2 = .ok (.bipush 8, 2) := by decide +kernel
theorem dX12_feed_4 : decode cX12_feed 4 = .ok (.invokestatic 109, 3) := by decide +kernel
theorem dX12_feed_7 : decode cX12_feed 7 = .ok (.ifCond .ne 6, 3) := by decide +kernel
theorem dX12_feed_10 : decode cX12_feed 10 = .ok (.bipush (-2), 2) := by decide +kernel
theorem dX12_feed_12 : decode cX12_feed 12 = .ok (.ireturn, 1) := by decide +kernel
theorem dX12_feed_13 : decode cX12_feed 13 = .ok (.aload_n 0, 1) := by decide +kernel
theorem dX12_feed_14 : decode cX12_feed 14 = .ok (.getfield 149, 3) := by decide +kernel
theorem dX12_feed_17 : decode cX12_feed 17 = .ok (.iload_n 1, 1) := by decide +kernel
theorem dX12_feed_18 : decode cX12_feed 18 = .ok (.iadd, 1) := by decide +kernel
theorem dX12_feed_19 : decode cX12_feed 19 = .ok (.sipush 160, 3) := by decide +kernel
theorem dX12_feed_22 : decode cX12_feed 22 = .ok (.if_icmp .le 6, 3) := by decide +kernel
theorem dX12_feed_25 : decode cX12_feed 25 = .ok (.bipush (-4), 2) := by decide +kernel
theorem dX12_feed_27 : decode cX12_feed 27 = .ok (.ireturn, 1) := by decide +kernel
theorem dX12_feed_28 : decode cX12_feed 28 = .ok (.iconst 0, 1) := by decide +kernel
theorem dX12_feed_29 : decode cX12_feed 29 = .ok (.istore 4, 2) := by decide +kernel
theorem dX12_feed_31 : decode cX12_feed 31 = .ok (.iload 4, 2) := by decide +kernel
theorem dX12_feed_33 : decode cX12_feed 33 = .ok (.iload_n 1, 1) := by decide +kernel
theorem dX12_feed_34 : decode cX12_feed 34 = .ok (.if_icmp .ge 37, 3) := by decide +kernel
theorem dX12_feed_37 : decode cX12_feed 37 = .ok (.aload_n 0, 1) := by decide +kernel
theorem dX12_feed_38 : decode cX12_feed 38 = .ok (.getfield 44, 3) := by decide +kernel
theorem dX12_feed_41 : decode cX12_feed 41 = .ok (.aload_n 0, 1) := by decide +kernel
theorem dX12_feed_42 : decode cX12_feed 42 = .ok (.getfield 149, 3) := by decide +kernel
theorem dX12_feed_45 : decode cX12_feed 45 = .ok (.lload_n 2, 1) := by decide +kernel
theorem dX12_feed_46 : decode cX12_feed 46 = .ok (.bipush 8, 2) := by decide +kernel
theorem dX12_feed_48 : decode cX12_feed 48 = .ok (.iload 4, 2) := by decide +kernel
theorem dX12_feed_50 : decode cX12_feed 50 = .ok (.imul, 1) := by decide +kernel
theorem dX12_feed_51 : decode cX12_feed 51 = .ok (.lshr, 1) := by decide +kernel
theorem dX12_feed_52 : decode cX12_feed 52 = .ok (.l2i, 1) := by decide +kernel
theorem dX12_feed_53 : decode cX12_feed 53 = .ok (.i2b, 1) := by decide +kernel
theorem dX12_feed_54 : decode cX12_feed 54 = .ok (.bastore, 1) := by decide +kernel
theorem dX12_feed_55 : decode cX12_feed 55 = .ok (.aload_n 0, 1) := by decide +kernel
theorem dX12_feed_56 : decode cX12_feed 56 = .ok (.dup, 1) := by decide +kernel
theorem dX12_feed_57 : decode cX12_feed 57 = .ok (.getfield 149, 3) := by decide +kernel
theorem dX12_feed_60 : decode cX12_feed 60 = .ok (.iconst 1, 1) := by decide +kernel
theorem dX12_feed_61 : decode cX12_feed 61 = .ok (.iadd, 1) := by decide +kernel
theorem dX12_feed_62 : decode cX12_feed 62 = .ok (.putfield 149, 3) := by decide +kernel
theorem dX12_feed_65 : decode cX12_feed 65 = .ok (.iinc 4 1, 3) := by decide +kernel
theorem dX12_feed_68 : decode cX12_feed 68 = .ok (.goto (-37), 3) := by decide +kernel
theorem dX12_feed_71 : decode cX12_feed 71 = .ok (.aload_n 0, 1) := by decide +kernel
theorem dX12_feed_72 : decode cX12_feed 72 = .ok (.getfield 149, 3) := by decide +kernel
theorem dX12_feed_75 : decode cX12_feed 75 = .ok (.ireturn, 1) := by decide +kernel
theorem dX12_isLetter_0 : decode cX12_isLetter 0 = .ok (.iload_n 0, 1) := by decide +kernel
theorem dX12_isLetter_1 : decode cX12_isLetter 1 = .ok (.bipush 97, 2) := by decide +kernel
theorem dX12_isLetter_3 : decode cX12_isLetter 3 = .ok (.bipush 122, 2) := by decide +kernel
theorem dX12_isLetter_5 : decode cX12_isLetter 5 = .ok (.invokestatic 109, 3) := by decide +kernel
theorem dX12_isLetter_8 : decode cX12_isLetter 8 = .ok (.ireturn, 1) := by decide +kernel
theorem dX12_isDigit_0 : decode cX12_isDigit 0 = .ok (.iload_n 0, 1) := by decide +kernel
theorem dX12_isDigit_1 : decode cX12_isDigit 1 = .ok (.bipush 48, 2) := by decide +kernel
theorem dX12_isDigit_3 : decode cX12_isDigit 3 = .ok (.bipush 57, 2) := by decide +kernel
theorem dX12_isDigit_5 : decode cX12_isDigit 5 = .ok (.invokestatic 109, 3) := by decide +kernel
theorem dX12_isDigit_8 : decode cX12_isDigit 8 = .ok (.ireturn, 1) := by decide +kernel
theorem dX12_isWord_0 : decode cX12_isWord 0 = .ok (.aload_n 0, 1) := by decide +kernel
theorem dX12_isWord_1 : decode cX12_isWord 1 = .ok (.getfield 152, 3) := by decide +kernel
theorem dX12_isWord_4 : decode cX12_isWord 4 = .ok (.aload_n 0, 1) := by decide +kernel
theorem dX12_isWord_5 : decode cX12_isWord 5 = .ok (.getfield 155, 3) := by decide +kernel
theorem dX12_isWord_8 : decode cX12_isWord 8 = .ok (.isub, 1) := by decide +kernel
theorem dX12_isWord_9 : decode cX12_isWord 9 = .ok (.iload 7, 2) := by decide +kernel
theorem dX12_isWord_11 : decode cX12_isWord 11 = .ok (.if_icmp .eq 5, 3) := by decide +kernel
theorem dX12_isWord_14 : decode cX12_isWord 14 = .ok (.iconst 0, 1) := by decide +kernel
theorem dX12_isWord_15 : decode cX12_isWord 15 = .ok (.ireturn, 1) := by decide +kernel
theorem dX12_isWord_16 : decode cX12_isWord 16 = .ok (.iload 7, 2) := by decide +kernel
theorem dX12_isWord_18 : decode cX12_isWord 18 = .ok (.iconst 1, 1) := by decide +kernel
theorem dX12_isWord_19 : decode cX12_isWord 19 = .ok (.if_icmp .lt 16, 3) := by decide +kernel
theorem dX12_isWord_22 : decode cX12_isWord 22 = .ok (.aload_n 0, 1) := by decide +kernel
theorem dX12_isWord_23 : decode cX12_isWord 23 = .ok (.getfield 44, 3) := by decide +kernel
theorem dX12_isWord_26 : decode cX12_isWord 26 = .ok (.aload_n 0, 1) := by decide +kernel
theorem dX12_isWord_27 : decode cX12_isWord 27 = .ok (.getfield 155, 3) := by decide +kernel
theorem dX12_isWord_30 : decode cX12_isWord 30 = .ok (.baload, 1) := by decide +kernel
theorem dX12_isWord_31 : decode cX12_isWord 31 = .ok (.iload_n 1, 1) := by decide +kernel
theorem dX12_isWord_32 : decode cX12_isWord 32 = .ok (.if_icmp .ne 116, 3) := by decide +kernel
theorem dX12_isWord_35 : decode cX12_isWord 35 = .ok (.iload 7, 2) := by decide +kernel
theorem dX12_isWord_37 : decode cX12_isWord 37 = .ok (.iconst 2, 1) := by decide +kernel
theorem dX12_isWord_38 : decode cX12_isWord 38 = .ok (.if_icmp .lt 18, 3) := by decide +kernel
theorem dX12_isWord_41 : decode cX12_isWord 41 = .ok (.aload_n 0, 1) := by decide +kernel
theorem dX12_isWord_42 : decode cX12_isWord 42 = .ok (.getfield 44, 3) := by decide +kernel
theorem dX12_isWord_45 : decode cX12_isWord 45 = .ok (.aload_n 0, 1) := by decide +kernel
theorem dX12_isWord_46 : decode cX12_isWord 46 = .ok (.getfield 155, 3) := by decide +kernel
theorem dX12_isWord_49 : decode cX12_isWord 49 = .ok (.iconst 1, 1) := by decide +kernel
theorem dX12_isWord_50 : decode cX12_isWord 50 = .ok (.iadd, 1) := by decide +kernel
theorem dX12_isWord_51 : decode cX12_isWord 51 = .ok (.baload, 1) := by decide +kernel
theorem dX12_isWord_52 : decode cX12_isWord 52 = .ok (.iload_n 2, 1) := by decide +kernel
theorem dX12_isWord_53 : decode cX12_isWord 53 = .ok (.if_icmp .ne 95, 3) := by decide +kernel
theorem dX12_isWord_56 : decode cX12_isWord 56 = .ok (.iload 7, 2) := by decide +kernel
theorem dX12_isWord_58 : decode cX12_isWord 58 = .ok (.iconst 3, 1) := by decide +kernel
theorem dX12_isWord_59 : decode cX12_isWord 59 = .ok (.if_icmp .lt 18, 3) := by decide +kernel
theorem dX12_isWord_62 : decode cX12_isWord 62 = .ok (.aload_n 0, 1) := by decide +kernel
theorem dX12_isWord_63 : decode cX12_isWord 63 = .ok (.getfield 44, 3) := by decide +kernel
theorem dX12_isWord_66 : decode cX12_isWord 66 = .ok (.aload_n 0, 1) := by decide +kernel
theorem dX12_isWord_67 : decode cX12_isWord 67 = .ok (.getfield 155, 3) := by decide +kernel
theorem dX12_isWord_70 : decode cX12_isWord 70 = .ok (.iconst 2, 1) := by decide +kernel
theorem dX12_isWord_71 : decode cX12_isWord 71 = .ok (.iadd, 1) := by decide +kernel
theorem dX12_isWord_72 : decode cX12_isWord 72 = .ok (.baload, 1) := by decide +kernel
theorem dX12_isWord_73 : decode cX12_isWord 73 = .ok (.iload_n 3, 1) := by decide +kernel
theorem dX12_isWord_74 : decode cX12_isWord 74 = .ok (.if_icmp .ne 74, 3) := by decide +kernel
theorem dX12_isWord_77 : decode cX12_isWord 77 = .ok (.iload 7, 2) := by decide +kernel
theorem dX12_isWord_79 : decode cX12_isWord 79 = .ok (.iconst 4, 1) := by decide +kernel
theorem dX12_isWord_80 : decode cX12_isWord 80 = .ok (.if_icmp .lt 19, 3) := by decide +kernel
theorem dX12_isWord_83 : decode cX12_isWord 83 = .ok (.aload_n 0, 1) := by decide +kernel
theorem dX12_isWord_84 : decode cX12_isWord 84 = .ok (.getfield 44, 3) := by decide +kernel
theorem dX12_isWord_87 : decode cX12_isWord 87 = .ok (.aload_n 0, 1) := by decide +kernel
theorem dX12_isWord_88 : decode cX12_isWord 88 = .ok (.getfield 155, 3) := by decide +kernel
theorem dX12_isWord_91 : decode cX12_isWord 91 = .ok (.iconst 3, 1) := by decide +kernel
theorem dX12_isWord_92 : decode cX12_isWord 92 = .ok (.iadd, 1) := by decide +kernel
theorem dX12_isWord_93 : decode cX12_isWord 93 = .ok (.baload, 1) := by decide +kernel
theorem dX12_isWord_94 : decode cX12_isWord 94 = .ok (.iload 4, 2) := by decide +kernel
theorem dX12_isWord_96 : decode cX12_isWord 96 = .ok (.if_icmp .ne 52, 3) := by decide +kernel
theorem dX12_isWord_99 : decode cX12_isWord 99 = .ok (.iload 7, 2) := by decide +kernel
theorem dX12_isWord_101 : decode cX12_isWord 101 = .ok (.iconst 5, 1) := by decide +kernel
theorem dX12_isWord_102 : decode cX12_isWord 102 = .ok (.if_icmp .lt 19, 3) := by decide +kernel
theorem dX12_isWord_105 : decode cX12_isWord 105 = .ok (.aload_n 0, 1) := by decide +kernel
theorem dX12_isWord_106 : decode cX12_isWord 106 = .ok (.getfield 44, 3) := by decide +kernel
theorem dX12_isWord_109 : decode cX12_isWord 109 = .ok (.aload_n 0, 1) := by decide +kernel
theorem dX12_isWord_110 : decode cX12_isWord 110 = .ok (.getfield 155, 3) := by decide +kernel
theorem dX12_isWord_113 : decode cX12_isWord 113 = .ok (.iconst 4, 1) := by decide +kernel
theorem dX12_isWord_114 : decode cX12_isWord 114 = .ok (.iadd, 1) := by decide +kernel
theorem dX12_isWord_115 : decode cX12_isWord 115 = .ok (.baload, 1) := by decide +kernel
theorem dX12_isWord_116 : decode cX12_isWord 116 = .ok (.iload 5, 2) := by decide +kernel
theorem dX12_isWord_118 : decode cX12_isWord 118 = .ok (.if_icmp .ne 30, 3) := by decide +kernel
theorem dX12_isWord_121 : decode cX12_isWord 121 = .ok (.iload 7, 2) := by decide +kernel
theorem dX12_isWord_123 : decode cX12_isWord 123 = .ok (.bipush 6, 2) := by decide +kernel
theorem dX12_isWord_125 : decode cX12_isWord 125 = .ok (.if_icmp .lt 19, 3) := by decide +kernel
theorem dX12_isWord_128 : decode cX12_isWord 128 = .ok (.aload_n 0, 1) := by decide +kernel
theorem dX12_isWord_129 : decode cX12_isWord 129 = .ok (.getfield 44, 3) := by decide +kernel
theorem dX12_isWord_132 : decode cX12_isWord 132 = .ok (.aload_n 0, 1) := by decide +kernel
theorem dX12_isWord_133 : decode cX12_isWord 133 = .ok (.getfield 155, 3) := by decide +kernel
theorem dX12_isWord_136 : decode cX12_isWord 136 = .ok (.iconst 5, 1) := by decide +kernel
theorem dX12_isWord_137 : decode cX12_isWord 137 = .ok (.iadd, 1) := by decide +kernel
theorem dX12_isWord_138 : decode cX12_isWord 138 = .ok (.baload, 1) := by decide +kernel
theorem dX12_isWord_139 : decode cX12_isWord 139 = .ok (.iload 6, 2) := by decide +kernel
theorem dX12_isWord_141 : decode cX12_isWord 141 = .ok (.if_icmp .ne 7, 3) := by decide +kernel
theorem dX12_isWord_144 : decode cX12_isWord 144 = .ok (.iconst 1, 1) := by decide +kernel
theorem dX12_isWord_145 : decode cX12_isWord 145 = .ok (.goto 4, 3) := by decide +kernel
theorem dX12_isWord_148 : decode cX12_isWord 148 = .ok (.iconst 0, 1) := by decide +kernel
theorem dX12_isWord_149 : decode cX12_isWord 149 = .ok (.ireturn, 1) := by decide +kernel
theorem dX12_wordNow_0 : decode cX12_wordNow 0 = .ok (.aload_n 0, 1) := by decide +kernel
theorem dX12_wordNow_1 : decode cX12_wordNow 1 = .ok (.bipush 111, 2) := by decide +kernel
theorem dX12_wordNow_3 : decode cX12_wordNow 3 = .ok (.bipush 117, 2) := by decide +kernel
theorem dX12_wordNow_5 : decode cX12_wordNow 5 = .ok (.bipush 110, 2) := by decide +kernel
theorem dX12_wordNow_7 : decode cX12_wordNow 7 = .ok (.bipush 99, 2) := by decide +kernel
theorem dX12_wordNow_9 : decode cX12_wordNow 9 = .ok (.bipush 101, 2) := by decide +kernel
theorem dX12_wordNow_11 : decode cX12_wordNow 11 = .ok (.bipush 115, 2) := by decide +kernel
theorem dX12_wordNow_13 : decode cX12_wordNow 13 = .ok (.bipush 6, 2) := by decide +kernel
theorem dX12_wordNow_15 : decode cX12_wordNow 15 = .ok (.invokevirtual 158, 3) := by decide +kernel
theorem dX12_wordNow_18 : decode cX12_wordNow 18 = .ok (.ifCond .eq 5, 3) := by decide +kernel
theorem dX12_wordNow_21 : decode cX12_wordNow 21 = .ok (.iconst 0, 1) := by decide +kernel
theorem dX12_wordNow_22 : decode cX12_wordNow 22 = .ok (.ireturn, 1) := by decide +kernel
theorem dX12_wordNow_23 : decode cX12_wordNow 23 = .ok (.aload_n 0, 1) := by decide +kernel
theorem dX12_wordNow_24 : decode cX12_wordNow 24 = .ok (.bipush 97, 2) := by decide +kernel
theorem dX12_wordNow_26 : decode cX12_wordNow 26 = .ok (.bipush 112, 2) := by decide +kernel
theorem dX12_wordNow_28 : decode cX12_wordNow 28 = .ok (.bipush 97, 2) := by decide +kernel
theorem dX12_wordNow_30 : decode cX12_wordNow 30 = .ok (.bipush 114, 2) := by decide +kernel
theorem dX12_wordNow_32 : decode cX12_wordNow 32 = .ok (.bipush 116, 2) := by decide +kernel
theorem dX12_wordNow_34 : decode cX12_wordNow 34 = .ok (.iconst 0, 1) := by decide +kernel
theorem dX12_wordNow_35 : decode cX12_wordNow 35 = .ok (.iconst 5, 1) := by decide +kernel
theorem dX12_wordNow_36 : decode cX12_wordNow 36 = .ok (.invokevirtual 158, 3) := by decide +kernel
theorem dX12_wordNow_39 : decode cX12_wordNow 39 = .ok (.ifCond .eq 5, 3) := by decide +kernel
theorem dX12_wordNow_42 : decode cX12_wordNow 42 = .ok (.iconst 1, 1) := by decide +kernel
theorem dX12_wordNow_43 : decode cX12_wordNow 43 = .ok (.ireturn, 1) := by decide +kernel
theorem dX12_wordNow_44 : decode cX12_wordNow 44 = .ok (.aload_n 0, 1) := by decide +kernel
theorem dX12_wordNow_45 : decode cX12_wordNow 45 = .ok (.bipush 115, 2) := by decide +kernel
theorem dX12_wordNow_47 : decode cX12_wordNow 47 = .ok (.bipush 105, 2) := by decide +kernel
theorem dX12_wordNow_49 : decode cX12_wordNow 49 = .ok (.bipush 122, 2) := by decide +kernel
theorem dX12_wordNow_51 : decode cX12_wordNow 51 = .ok (.bipush 101, 2) := by decide +kernel
theorem dX12_wordNow_53 : decode cX12_wordNow 53 = .ok (.iconst 0, 1) := by decide +kernel
theorem dX12_wordNow_54 : decode cX12_wordNow 54 = .ok (.iconst 0, 1) := by decide +kernel
theorem dX12_wordNow_55 : decode cX12_wordNow 55 = .ok (.iconst 4, 1) := by decide +kernel
theorem dX12_wordNow_56 : decode cX12_wordNow 56 = .ok (.invokevirtual 158, 3) := by decide +kernel
theorem dX12_wordNow_59 : decode cX12_wordNow 59 = .ok (.ifCond .eq 5, 3) := by decide +kernel
theorem dX12_wordNow_62 : decode cX12_wordNow 62 = .ok (.iconst 2, 1) := by decide +kernel
theorem dX12_wordNow_63 : decode cX12_wordNow 63 = .ok (.ireturn, 1) := by decide +kernel
theorem dX12_wordNow_64 : decode cX12_wordNow 64 = .ok (.aload_n 0, 1) := by decide +kernel
theorem dX12_wordNow_65 : decode cX12_wordNow 65 = .ok (.bipush 119, 2) := by decide +kernel
theorem dX12_wordNow_67 : decode cX12_wordNow 67 = .ok (.bipush 111, 2) := by decide +kernel
theorem dX12_wordNow_69 : decode cX12_wordNow 69 = .ok (.bipush 114, 2) := by decide +kernel
theorem dX12_wordNow_71 : decode cX12_wordNow 71 = .ok (.bipush 110, 2) := by decide +kernel
theorem dX12_wordNow_73 : decode cX12_wordNow 73 = .ok (.iconst 0, 1) := by decide +kernel
theorem dX12_wordNow_74 : decode cX12_wordNow 74 = .ok (.iconst 0, 1) := by decide +kernel
theorem dX12_wordNow_75 : decode cX12_wordNow 75 = .ok (.iconst 4, 1) := by decide +kernel
theorem dX12_wordNow_76 : decode cX12_wordNow 76 = .ok (.invokevirtual 158, 3) := by decide +kernel
theorem dX12_wordNow_79 : decode cX12_wordNow 79 = .ok (.ifCond .eq 5, 3) := by decide +kernel
theorem dX12_wordNow_82 : decode cX12_wordNow 82 = .ok (.iconst 3, 1) := by decide +kernel
theorem dX12_wordNow_83 : decode cX12_wordNow 83 = .ok (.ireturn, 1) := by decide +kernel
theorem dX12_wordNow_84 : decode cX12_wordNow 84 = .ok (.aload_n 0, 1) := by decide +kernel
theorem dX12_wordNow_85 : decode cX12_wordNow 85 = .ok (.bipush 102, 2) := by decide +kernel
theorem dX12_wordNow_87 : decode cX12_wordNow 87 = .ok (.bipush 97, 2) := by decide +kernel
theorem dX12_wordNow_89 : decode cX12_wordNow 89 = .ok (.bipush 100, 2) := by decide +kernel
theorem dX12_wordNow_91 : decode cX12_wordNow 91 = .ok (.bipush 101, 2) := by decide +kernel
theorem dX12_wordNow_93 : decode cX12_wordNow 93 = .ok (.bipush 100, 2) := by decide +kernel
theorem dX12_wordNow_95 : decode cX12_wordNow 95 = .ok (.iconst 0, 1) := by decide +kernel
theorem dX12_wordNow_96 : decode cX12_wordNow 96 = .ok (.iconst 5, 1) := by decide +kernel
theorem dX12_wordNow_97 : decode cX12_wordNow 97 = .ok (.invokevirtual 158, 3) := by decide +kernel
theorem dX12_wordNow_100 : decode cX12_wordNow 100 = .ok (.ifCond .eq 5, 3) := by decide +kernel
theorem dX12_wordNow_103 : decode cX12_wordNow 103 = .ok (.iconst 4, 1) := by decide +kernel
theorem dX12_wordNow_104 : decode cX12_wordNow 104 = .ok (.ireturn, 1) := by decide +kernel
theorem dX12_wordNow_105 : decode cX12_wordNow 105 = .ok (.aload_n 0, 1) := by decide +kernel
theorem dX12_wordNow_106 : decode cX12_wordNow 106 = .ok (.bipush 118, 2) := by decide +kernel
theorem dX12_wordNow_108 : decode cX12_wordNow 108 = .ok (.bipush 97, 2) := by decide +kernel
theorem dX12_wordNow_110 : decode cX12_wordNow 110 = .ok (.bipush 116, 2) := by decide +kernel
theorem dX12_wordNow_112 : decode cX12_wordNow 112 = .ok (.iconst 0, 1) := by decide +kernel
theorem dX12_wordNow_113 : decode cX12_wordNow 113 = .ok (.iconst 0, 1) := by decide +kernel
theorem dX12_wordNow_114 : decode cX12_wordNow 114 = .ok (.iconst 0, 1) := by decide +kernel
theorem dX12_wordNow_115 : decode cX12_wordNow 115 = .ok (.iconst 3, 1) := by decide +kernel
theorem dX12_wordNow_116 : decode cX12_wordNow 116 = .ok (.invokevirtual 158, 3) := by decide +kernel
theorem dX12_wordNow_119 : decode cX12_wordNow 119 = .ok (.ifCond .eq 5, 3) := by decide +kernel
theorem dX12_wordNow_122 : decode cX12_wordNow 122 = .ok (.iconst 5, 1) := by decide +kernel
theorem dX12_wordNow_123 : decode cX12_wordNow 123 = .ok (.ireturn, 1) := by decide +kernel
theorem dX12_wordNow_124 : decode cX12_wordNow 124 = .ok (.aload_n 0, 1) := by decide +kernel
theorem dX12_wordNow_125 : decode cX12_wordNow 125 = .ok (.bipush 98, 2) := by decide +kernel
theorem dX12_wordNow_127 : decode cX12_wordNow 127 = .ok (.bipush 101, 2) := by decide +kernel
theorem dX12_wordNow_129 : decode cX12_wordNow 129 = .ok (.bipush 97, 2) := by decide +kernel
theorem dX12_wordNow_131 : decode cX12_wordNow 131 = .ok (.bipush 114, 2) := by decide +kernel
theorem dX12_wordNow_133 : decode cX12_wordNow 133 = .ok (.iconst 0, 1) := by decide +kernel
theorem dX12_wordNow_134 : decode cX12_wordNow 134 = .ok (.iconst 0, 1) := by decide +kernel
theorem dX12_wordNow_135 : decode cX12_wordNow 135 = .ok (.iconst 4, 1) := by decide +kernel
theorem dX12_wordNow_136 : decode cX12_wordNow 136 = .ok (.invokevirtual 158, 3) := by decide +kernel
theorem dX12_wordNow_139 : decode cX12_wordNow 139 = .ok (.ifCond .eq 6, 3) := by decide +kernel
theorem dX12_wordNow_142 : decode cX12_wordNow 142 = .ok (.bipush 10, 2) := by decide +kernel
theorem dX12_wordNow_144 : decode cX12_wordNow 144 = .ok (.ireturn, 1) := by decide +kernel
theorem dX12_wordNow_145 : decode cX12_wordNow 145 = .ok (.aload_n 0, 1) := by decide +kernel
theorem dX12_wordNow_146 : decode cX12_wordNow 146 = .ok (.bipush 115, 2) := by decide +kernel
theorem dX12_wordNow_148 : decode cX12_wordNow 148 = .ok (.bipush 101, 2) := by decide +kernel
theorem dX12_wordNow_150 : decode cX12_wordNow 150 = .ok (.bipush 101, 2) := by decide +kernel
theorem dX12_wordNow_152 : decode cX12_wordNow 152 = .ok (.bipush 110, 2) := by decide +kernel
theorem dX12_wordNow_154 : decode cX12_wordNow 154 = .ok (.iconst 0, 1) := by decide +kernel
theorem dX12_wordNow_155 : decode cX12_wordNow 155 = .ok (.iconst 0, 1) := by decide +kernel
theorem dX12_wordNow_156 : decode cX12_wordNow 156 = .ok (.iconst 4, 1) := by decide +kernel
theorem dX12_wordNow_157 : decode cX12_wordNow 157 = .ok (.invokevirtual 158, 3) := by decide +kernel
theorem dX12_wordNow_160 : decode cX12_wordNow 160 = .ok (.ifCond .eq 6, 3) := by decide +kernel
theorem dX12_wordNow_163 : decode cX12_wordNow 163 = .ok (.bipush 11, 2) := by decide +kernel
theorem dX12_wordNow_165 : decode cX12_wordNow 165 = .ok (.ireturn, 1) := by decide +kernel
theorem dX12_wordNow_166 : decode cX12_wordNow 166 = .ok (.aload_n 0, 1) := by decide +kernel
theorem dX12_wordNow_167 : decode cX12_wordNow 167 = .ok (.bipush 107, 2) := by decide +kernel
theorem dX12_wordNow_169 : decode cX12_wordNow 169 = .ok (.bipush 101, 2) := by decide +kernel
theorem dX12_wordNow_171 : decode cX12_wordNow 171 = .ok (.bipush 101, 2) := by decide +kernel
theorem dX12_wordNow_173 : decode cX12_wordNow 173 = .ok (.bipush 112, 2) := by decide +kernel
theorem dX12_wordNow_175 : decode cX12_wordNow 175 = .ok (.iconst 0, 1) := by decide +kernel
theorem dX12_wordNow_176 : decode cX12_wordNow 176 = .ok (.iconst 0, 1) := by decide +kernel
theorem dX12_wordNow_177 : decode cX12_wordNow 177 = .ok (.iconst 4, 1) := by decide +kernel
theorem dX12_wordNow_178 : decode cX12_wordNow 178 = .ok (.invokevirtual 158, 3) := by decide +kernel
theorem dX12_wordNow_181 : decode cX12_wordNow 181 = .ok (.ifCond .eq 6, 3) := by decide +kernel
theorem dX12_wordNow_184 : decode cX12_wordNow 184 = .ok (.bipush 12, 2) := by decide +kernel
theorem dX12_wordNow_186 : decode cX12_wordNow 186 = .ok (.ireturn, 1) := by decide +kernel
theorem dX12_wordNow_187 : decode cX12_wordNow 187 = .ok (.aload_n 0, 1) := by decide +kernel
theorem dX12_wordNow_188 : decode cX12_wordNow 188 = .ok (.bipush 111, 2) := by decide +kernel
theorem dX12_wordNow_190 : decode cX12_wordNow 190 = .ok (.bipush 114, 2) := by decide +kernel
theorem dX12_wordNow_192 : decode cX12_wordNow 192 = .ok (.iconst 0, 1) := by decide +kernel
theorem dX12_wordNow_193 : decode cX12_wordNow 193 = .ok (.iconst 0, 1) := by decide +kernel
theorem dX12_wordNow_194 : decode cX12_wordNow 194 = .ok (.iconst 0, 1) := by decide +kernel
theorem dX12_wordNow_195 : decode cX12_wordNow 195 = .ok (.iconst 0, 1) := by decide +kernel
theorem dX12_wordNow_196 : decode cX12_wordNow 196 = .ok (.iconst 2, 1) := by decide +kernel
theorem dX12_wordNow_197 : decode cX12_wordNow 197 = .ok (.invokevirtual 158, 3) := by decide +kernel
theorem dX12_wordNow_200 : decode cX12_wordNow 200 = .ok (.ifCond .eq 6, 3) := by decide +kernel
theorem dX12_wordNow_203 : decode cX12_wordNow 203 = .ok (.bipush 13, 2) := by decide +kernel
theorem dX12_wordNow_205 : decode cX12_wordNow 205 = .ok (.ireturn, 1) := by decide +kernel
theorem dX12_wordNow_206 : decode cX12_wordNow 206 = .ok (.aload_n 0, 1) := by decide +kernel
theorem dX12_wordNow_207 : decode cX12_wordNow 207 = .ok (.bipush 97, 2) := by decide +kernel
theorem dX12_wordNow_209 : decode cX12_wordNow 209 = .ok (.bipush 110, 2) := by decide +kernel
theorem dX12_wordNow_211 : decode cX12_wordNow 211 = .ok (.bipush 100, 2) := by decide +kernel
theorem dX12_wordNow_213 : decode cX12_wordNow 213 = .ok (.iconst 0, 1) := by decide +kernel
theorem dX12_wordNow_214 : decode cX12_wordNow 214 = .ok (.iconst 0, 1) := by decide +kernel
theorem dX12_wordNow_215 : decode cX12_wordNow 215 = .ok (.iconst 0, 1) := by decide +kernel
theorem dX12_wordNow_216 : decode cX12_wordNow 216 = .ok (.iconst 3, 1) := by decide +kernel
theorem dX12_wordNow_217 : decode cX12_wordNow 217 = .ok (.invokevirtual 158, 3) := by decide +kernel
theorem dX12_wordNow_220 : decode cX12_wordNow 220 = .ok (.ifCond .eq 6, 3) := by decide +kernel
theorem dX12_wordNow_223 : decode cX12_wordNow 223 = .ok (.bipush 14, 2) := by decide +kernel
theorem dX12_wordNow_225 : decode cX12_wordNow 225 = .ok (.ireturn, 1) := by decide +kernel
theorem dX12_wordNow_226 : decode cX12_wordNow 226 = .ok (.aload_n 0, 1) := by decide +kernel
theorem dX12_wordNow_227 : decode cX12_wordNow 227 = .ok (.bipush 110, 2) := by decide +kernel
theorem dX12_wordNow_229 : decode cX12_wordNow 229 = .ok (.bipush 111, 2) := by decide +kernel
theorem dX12_wordNow_231 : decode cX12_wordNow 231 = .ok (.bipush 116, 2) := by decide +kernel
theorem dX12_wordNow_233 : decode cX12_wordNow 233 = .ok (.iconst 0, 1) := by decide +kernel
theorem dX12_wordNow_234 : decode cX12_wordNow 234 = .ok (.iconst 0, 1) := by decide +kernel
theorem dX12_wordNow_235 : decode cX12_wordNow 235 = .ok (.iconst 0, 1) := by decide +kernel
theorem dX12_wordNow_236 : decode cX12_wordNow 236 = .ok (.iconst 3, 1) := by decide +kernel
theorem dX12_wordNow_237 : decode cX12_wordNow 237 = .ok (.invokevirtual 158, 3) := by decide +kernel
theorem dX12_wordNow_240 : decode cX12_wordNow 240 = .ok (.ifCond .eq 8, 3) := by decide +kernel
theorem dX12_wordNow_243 : decode cX12_wordNow 243 = .ok (.bipush 15, 2) := by decide +kernel
theorem dX12_wordNow_245 : decode cX12_wordNow 245 = .ok (.goto 4, 3) := by decide +kernel
theorem dX12_wordNow_248 : decode cX12_wordNow 248 = .ok (.iconst (-1), 1) := by decide +kernel
theorem dX12_wordNow_249 : decode cX12_wordNow 249 = .ok (.ireturn, 1) := by decide +kernel
theorem dX12_next_0 : decode cX12_next 0 = .ok (.aload_n 0, 1) := by decide +kernel
theorem dX12_next_1 : decode cX12_next 1 = .ok (.aload_n 0, 1) := by decide +kernel
theorem dX12_next_2 : decode cX12_next 2 = .ok (.getfield 152, 3) := by decide +kernel
theorem dX12_next_5 : decode cX12_next 5 = .ok (.putfield 155, 3) := by decide +kernel
theorem dX12_next_8 : decode cX12_next 8 = .ok (.aload_n 0, 1) := by decide +kernel
theorem dX12_next_9 : decode cX12_next 9 = .ok (.getfield 155, 3) := by decide +kernel
theorem dX12_next_12 : decode cX12_next 12 = .ok (.aload_n 0, 1) := by decide +kernel
theorem dX12_next_13 : decode cX12_next 13 = .ok (.getfield 149, 3) := by decide +kernel
theorem dX12_next_16 : decode cX12_next 16 = .ok (.if_icmp .ge 44, 3) := by decide +kernel
theorem dX12_next_19 : decode cX12_next 19 = .ok (.aload_n 0, 1) := by decide +kernel
theorem dX12_next_20 : decode cX12_next 20 = .ok (.getfield 44, 3) := by decide +kernel
theorem dX12_next_23 : decode cX12_next 23 = .ok (.aload_n 0, 1) := by decide +kernel
theorem dX12_next_24 : decode cX12_next 24 = .ok (.getfield 155, 3) := by decide +kernel
theorem dX12_next_27 : decode cX12_next 27 = .ok (.baload, 1) := by decide +kernel
theorem dX12_next_28 : decode cX12_next 28 = .ok (.bipush 32, 2) := by decide +kernel
theorem dX12_next_30 : decode cX12_next 30 = .ok (.if_icmp .eq 17, 3) := by decide +kernel
theorem dX12_next_33 : decode cX12_next 33 = .ok (.aload_n 0, 1) := by decide +kernel
theorem dX12_next_34 : decode cX12_next 34 = .ok (.getfield 44, 3) := by decide +kernel
theorem dX12_next_37 : decode cX12_next 37 = .ok (.aload_n 0, 1) := by decide +kernel
theorem dX12_next_38 : decode cX12_next 38 = .ok (.getfield 155, 3) := by decide +kernel
theorem dX12_next_41 : decode cX12_next 41 = .ok (.baload, 1) := by decide +kernel
theorem dX12_next_42 : decode cX12_next 42 = .ok (.bipush 10, 2) := by decide +kernel
theorem dX12_next_44 : decode cX12_next 44 = .ok (.if_icmp .ne 16, 3) := by decide +kernel
theorem dX12_next_47 : decode cX12_next 47 = .ok (.aload_n 0, 1) := by decide +kernel
theorem dX12_next_48 : decode cX12_next 48 = .ok (.dup, 1) := by decide +kernel
theorem dX12_next_49 : decode cX12_next 49 = .ok (.getfield 155, 3) := by decide +kernel
theorem dX12_next_52 : decode cX12_next 52 = .ok (.iconst 1, 1) := by decide +kernel
theorem dX12_next_53 : decode cX12_next 53 = .ok (.iadd, 1) := by decide +kernel
theorem dX12_next_54 : decode cX12_next 54 = .ok (.putfield 155, 3) := by decide +kernel
theorem dX12_next_57 : decode cX12_next 57 = .ok (.goto (-49), 3) := by decide +kernel
theorem dX12_next_60 : decode cX12_next 60 = .ok (.aload_n 0, 1) := by decide +kernel
theorem dX12_next_61 : decode cX12_next 61 = .ok (.aload_n 0, 1) := by decide +kernel
theorem dX12_next_62 : decode cX12_next 62 = .ok (.getfield 155, 3) := by decide +kernel
theorem dX12_next_65 : decode cX12_next 65 = .ok (.putfield 152, 3) := by decide +kernel
theorem dX12_next_68 : decode cX12_next 68 = .ok (.aload_n 0, 1) := by decide +kernel
theorem dX12_next_69 : decode cX12_next 69 = .ok (.getfield 155, 3) := by decide +kernel
theorem dX12_next_72 : decode cX12_next 72 = .ok (.aload_n 0, 1) := by decide +kernel
theorem dX12_next_73 : decode cX12_next 73 = .ok (.getfield 149, 3) := by decide +kernel
theorem dX12_next_76 : decode cX12_next 76 = .ok (.if_icmp .lt 17, 3) := by decide +kernel
theorem dX12_next_79 : decode cX12_next 79 = .ok (.aload_n 0, 1) := by decide +kernel
theorem dX12_next_80 : decode cX12_next 80 = .ok (.aload_n 0, 1) := by decide +kernel
theorem dX12_next_81 : decode cX12_next 81 = .ok (.getfield 149, 3) := by decide +kernel
theorem dX12_next_84 : decode cX12_next 84 = .ok (.putfield 155, 3) := by decide +kernel
theorem dX12_next_87 : decode cX12_next 87 = .ok (.aload_n 0, 1) := by decide +kernel
theorem dX12_next_88 : decode cX12_next 88 = .ok (.iconst 4, 1) := by decide +kernel
theorem dX12_next_89 : decode cX12_next 89 = .ok (.putfield 162, 3) := by decide +kernel
theorem dX12_next_92 : decode cX12_next 92 = .ok (.return_, 1) := by decide +kernel
theorem dX12_next_93 : decode cX12_next 93 = .ok (.aload_n 0, 1) := by decide +kernel
theorem dX12_next_94 : decode cX12_next 94 = .ok (.getfield 44, 3) := by decide +kernel
theorem dX12_next_97 : decode cX12_next 97 = .ok (.aload_n 0, 1) := by decide +kernel
theorem dX12_next_98 : decode cX12_next 98 = .ok (.getfield 155, 3) := by decide +kernel
theorem dX12_next_101 : decode cX12_next 101 = .ok (.baload, 1) := by decide +kernel
theorem dX12_next_102 : decode cX12_next 102 = .ok (.istore_n 1, 1) := by decide +kernel
theorem dX12_next_103 : decode cX12_next 103 = .ok (.iload_n 1, 1) := by decide +kernel
theorem dX12_next_104 : decode cX12_next 104 = .ok (.invokestatic 165, 3) := by decide +kernel
theorem dX12_next_107 : decode cX12_next 107 = .ok (.ifCond .eq 69, 3) := by decide +kernel
theorem dX12_next_110 : decode cX12_next 110 = .ok (.aload_n 0, 1) := by decide +kernel
theorem dX12_next_111 : decode cX12_next 111 = .ok (.getfield 152, 3) := by decide +kernel
theorem dX12_next_114 : decode cX12_next 114 = .ok (.aload_n 0, 1) := by decide +kernel
theorem dX12_next_115 : decode cX12_next 115 = .ok (.getfield 149, 3) := by decide +kernel
theorem dX12_next_118 : decode cX12_next 118 = .ok (.if_icmp .ge 31, 3) := by decide +kernel
theorem dX12_next_121 : decode cX12_next 121 = .ok (.aload_n 0, 1) := by decide +kernel
theorem dX12_next_122 : decode cX12_next 122 = .ok (.getfield 44, 3) := by decide +kernel
theorem dX12_next_125 : decode cX12_next 125 = .ok (.aload_n 0, 1) := by decide +kernel
theorem dX12_next_126 : decode cX12_next 126 = .ok (.getfield 152, 3) := by decide +kernel
theorem dX12_next_129 : decode cX12_next 129 = .ok (.baload, 1) := by decide +kernel
theorem dX12_next_130 : decode cX12_next 130 = .ok (.invokestatic 165, 3) := by decide +kernel
theorem dX12_next_133 : decode cX12_next 133 = .ok (.ifCond .eq 16, 3) := by decide +kernel
theorem dX12_next_136 : decode cX12_next 136 = .ok (.aload_n 0, 1) := by decide +kernel
theorem dX12_next_137 : decode cX12_next 137 = .ok (.dup, 1) := by decide +kernel
theorem dX12_next_138 : decode cX12_next 138 = .ok (.getfield 152, 3) := by decide +kernel
theorem dX12_next_141 : decode cX12_next 141 = .ok (.iconst 1, 1) := by decide +kernel
theorem dX12_next_142 : decode cX12_next 142 = .ok (.iadd, 1) := by decide +kernel
theorem dX12_next_143 : decode cX12_next 143 = .ok (.putfield 152, 3) := by decide +kernel
theorem dX12_next_146 : decode cX12_next 146 = .ok (.goto (-36), 3) := by decide +kernel
theorem dX12_next_149 : decode cX12_next 149 = .ok (.aload_n 0, 1) := by decide +kernel
theorem dX12_next_150 : decode cX12_next 150 = .ok (.aload_n 0, 1) := by decide +kernel
theorem dX12_next_151 : decode cX12_next 151 = .ok (.invokevirtual 168, 3) := by decide +kernel
theorem dX12_next_154 : decode cX12_next 154 = .ok (.putfield 172, 3) := by decide +kernel
theorem dX12_next_157 : decode cX12_next 157 = .ok (.aload_n 0, 1) := by decide +kernel
theorem dX12_next_158 : decode cX12_next 158 = .ok (.aload_n 0, 1) := by decide +kernel
theorem dX12_next_159 : decode cX12_next 159 = .ok (.getfield 172, 3) := by decide +kernel
theorem dX12_next_162 : decode cX12_next 162 = .ok (.ifCond .ge 7, 3) := by decide +kernel
theorem dX12_next_165 : decode cX12_next 165 = .ok (.iconst 5, 1) := by decide +kernel
theorem dX12_next_166 : decode cX12_next 166 = .ok (.goto 4, 3) := by decide +kernel
theorem dX12_next_169 : decode cX12_next 169 = .ok (.iconst 1, 1) := by decide +kernel
theorem dX12_next_170 : decode cX12_next 170 = .ok (.putfield 162, 3) := by decide +kernel
theorem dX12_next_173 : decode cX12_next 173 = .ok (.goto 188, 3) := by decide +kernel
theorem dX12_next_176 : decode cX12_next 176 = .ok (.iload_n 1, 1) := by decide +kernel
theorem dX12_next_177 : decode cX12_next 177 = .ok (.invokestatic 175, 3) := by decide +kernel
theorem dX12_next_180 : decode cX12_next 180 = .ok (.ifCond .eq 109, 3) := by decide +kernel
theorem dX12_next_183 : decode cX12_next 183 = .ok (.aload_n 0, 1) := by decide +kernel
theorem dX12_next_184 : decode cX12_next 184 = .ok (.iconst 0, 1) := by decide +kernel
theorem dX12_next_185 : decode cX12_next 185 = .ok (.putfield 172, 3) := by decide +kernel
theorem dX12_next_188 : decode cX12_next 188 = .ok (.aload_n 0, 1) := by decide +kernel
theorem dX12_next_189 : decode cX12_next 189 = .ok (.getfield 152, 3) := by decide +kernel
theorem dX12_next_192 : decode cX12_next 192 = .ok (.aload_n 0, 1) := by decide +kernel
theorem dX12_next_193 : decode cX12_next 193 = .ok (.getfield 149, 3) := by decide +kernel
theorem dX12_next_196 : decode cX12_next 196 = .ok (.if_icmp .ge 68, 3) := by decide +kernel
theorem dX12_next_199 : decode cX12_next 199 = .ok (.aload_n 0, 1) := by decide +kernel
theorem dX12_next_200 : decode cX12_next 200 = .ok (.getfield 44, 3) := by decide +kernel
theorem dX12_next_203 : decode cX12_next 203 = .ok (.aload_n 0, 1) := by decide +kernel
theorem dX12_next_204 : decode cX12_next 204 = .ok (.getfield 152, 3) := by decide +kernel
theorem dX12_next_207 : decode cX12_next 207 = .ok (.baload, 1) := by decide +kernel
theorem dX12_next_208 : decode cX12_next 208 = .ok (.invokestatic 175, 3) := by decide +kernel
theorem dX12_next_211 : decode cX12_next 211 = .ok (.ifCond .eq 53, 3) := by decide +kernel
theorem dX12_next_214 : decode cX12_next 214 = .ok (.aload_n 0, 1) := by decide +kernel
theorem dX12_next_215 : decode cX12_next 215 = .ok (.getfield 152, 3) := by decide +kernel
theorem dX12_next_218 : decode cX12_next 218 = .ok (.aload_n 0, 1) := by decide +kernel
theorem dX12_next_219 : decode cX12_next 219 = .ok (.getfield 155, 3) := by decide +kernel
theorem dX12_next_222 : decode cX12_next 222 = .ok (.isub, 1) := by decide +kernel
theorem dX12_next_223 : decode cX12_next 223 = .ok (.iconst 4, 1) := by decide +kernel
theorem dX12_next_224 : decode cX12_next 224 = .ok (.if_icmp .ge 27, 3) := by decide +kernel
theorem dX12_next_227 : decode cX12_next 227 = .ok (.aload_n 0, 1) := by decide +kernel
theorem dX12_next_228 : decode cX12_next 228 = .ok (.bipush 10, 2) := by decide +kernel
theorem dX12_next_230 : decode cX12_next 230 = .ok (.aload_n 0, 1) := by decide +kernel
theorem dX12_next_231 : decode cX12_next 231 = .ok (.getfield 172, 3) := by decide +kernel
theorem dX12_next_234 : decode cX12_next 234 = .ok (.imul, 1) := by decide +kernel
theorem dX12_next_235 : decode cX12_next 235 = .ok (.aload_n 0, 1) := by decide +kernel
theorem dX12_next_236 : decode cX12_next 236 = .ok (.getfield 44, 3) := by decide +kernel
theorem dX12_next_239 : decode cX12_next 239 = .ok (.aload_n 0, 1) := by decide +kernel
theorem dX12_next_240 : decode cX12_next 240 = .ok (.getfield 152, 3) := by decide +kernel
theorem dX12_next_243 : decode cX12_next 243 = .ok (.baload, 1) := by decide +kernel
theorem dX12_next_244 : decode cX12_next 244 = .ok (.iadd, 1) := by decide +kernel
theorem dX12_next_245 : decode cX12_next 245 = .ok (.bipush 48, 2) := by decide +kernel
theorem dX12_next_247 : decode cX12_next 247 = .ok (.isub, 1) := by decide +kernel
theorem dX12_next_248 : decode cX12_next 248 = .ok (.putfield 172, 3) := by decide +kernel
theorem dX12_next_251 : decode cX12_next 251 = .ok (.aload_n 0, 1) := by decide +kernel
theorem dX12_next_252 : decode cX12_next 252 = .ok (.dup, 1) := by decide +kernel
theorem dX12_next_253 : decode cX12_next 253 = .ok (.getfield 152, 3) := by decide +kernel
theorem dX12_next_256 : decode cX12_next 256 = .ok (.iconst 1, 1) := by decide +kernel
theorem dX12_next_257 : decode cX12_next 257 = .ok (.iadd, 1) := by decide +kernel
theorem dX12_next_258 : decode cX12_next 258 = .ok (.putfield 152, 3) := by decide +kernel
theorem dX12_next_261 : decode cX12_next 261 = .ok (.goto (-73), 3) := by decide +kernel
theorem dX12_next_264 : decode cX12_next 264 = .ok (.aload_n 0, 1) := by decide +kernel
theorem dX12_next_265 : decode cX12_next 265 = .ok (.aload_n 0, 1) := by decide +kernel
theorem dX12_next_266 : decode cX12_next 266 = .ok (.getfield 152, 3) := by decide +kernel
theorem dX12_next_269 : decode cX12_next 269 = .ok (.aload_n 0, 1) := by decide +kernel
theorem dX12_next_270 : decode cX12_next 270 = .ok (.getfield 155, 3) := by decide +kernel
theorem dX12_next_273 : decode cX12_next 273 = .ok (.isub, 1) := by decide +kernel
theorem dX12_next_274 : decode cX12_next 274 = .ok (.iconst 4, 1) := by decide +kernel
theorem dX12_next_275 : decode cX12_next 275 = .ok (.if_icmp .le 7, 3) := by decide +kernel
theorem dX12_next_278 : decode cX12_next 278 = .ok (.iconst 5, 1) := by decide +kernel
theorem dX12_next_279 : decode cX12_next 279 = .ok (.goto 4, 3) := by decide +kernel
theorem dX12_next_282 : decode cX12_next 282 = .ok (.iconst 2, 1) := by decide +kernel
theorem dX12_next_283 : decode cX12_next 283 = .ok (.putfield 162, 3) := by decide +kernel
theorem dX12_next_286 : decode cX12_next 286 = .ok (.goto 75, 3) := by decide +kernel
theorem dX12_next_289 : decode cX12_next 289 = .ok (.aload_n 0, 1) := by decide +kernel
theorem dX12_next_290 : decode cX12_next 290 = .ok (.dup, 1) := by decide +kernel
theorem dX12_next_291 : decode cX12_next 291 = .ok (.getfield 152, 3) := by decide +kernel
theorem dX12_next_294 : decode cX12_next 294 = .ok (.iconst 1, 1) := by decide +kernel
theorem dX12_next_295 : decode cX12_next 295 = .ok (.iadd, 1) := by decide +kernel
theorem dX12_next_296 : decode cX12_next 296 = .ok (.putfield 152, 3) := by decide +kernel
theorem dX12_next_299 : decode cX12_next 299 = .ok (.aload_n 0, 1) := by decide +kernel
theorem dX12_next_300 : decode cX12_next 300 = .ok (.iload_n 1, 1) := by decide +kernel
theorem dX12_next_301 : decode cX12_next 301 = .ok (.putfield 172, 3) := by decide +kernel
theorem dX12_next_304 : decode cX12_next 304 = .ok (.aload_n 0, 1) := by decide +kernel
theorem dX12_next_305 : decode cX12_next 305 = .ok (.iload_n 1, 1) := by decide +kernel
theorem dX12_next_306 : decode cX12_next 306 = .ok (.bipush 40, 2) := by decide +kernel
theorem dX12_next_308 : decode cX12_next 308 = .ok (.if_icmp .eq 45, 3) := by decide +kernel
theorem dX12_next_311 : decode cX12_next 311 = .ok (.iload_n 1, 1) := by decide +kernel
theorem dX12_next_312 : decode cX12_next 312 = .ok (.bipush 41, 2) := by decide +kernel
theorem dX12_next_314 : decode cX12_next 314 = .ok (.if_icmp .eq 39, 3) := by decide +kernel
theorem dX12_next_317 : decode cX12_next 317 = .ok (.iload_n 1, 1) := by decide +kernel
theorem dX12_next_318 : decode cX12_next 318 = .ok (.bipush 59, 2) := by decide +kernel
theorem dX12_next_320 : decode cX12_next 320 = .ok (.if_icmp .eq 33, 3) := by decide +kernel
theorem dX12_next_323 : decode cX12_next 323 = .ok (.iload_n 1, 1) := by decide +kernel
theorem dX12_next_324 : decode cX12_next 324 = .ok (.bipush 43, 2) := by decide +kernel
theorem dX12_next_326 : decode cX12_next 326 = .ok (.if_icmp .eq 27, 3) := by decide +kernel
theorem dX12_next_329 : decode cX12_next 329 = .ok (.iload_n 1, 1) := by decide +kernel
theorem dX12_next_330 : decode cX12_next 330 = .ok (.bipush 45, 2) := by decide +kernel
theorem dX12_next_332 : decode cX12_next 332 = .ok (.if_icmp .eq 21, 3) := by decide +kernel
theorem dX12_next_335 : decode cX12_next 335 = .ok (.iload_n 1, 1) := by decide +kernel
theorem dX12_next_336 : decode cX12_next 336 = .ok (.bipush 42, 2) := by decide +kernel
theorem dX12_next_338 : decode cX12_next 338 = .ok (.if_icmp .eq 15, 3) := by decide +kernel
theorem dX12_next_341 : decode cX12_next 341 = .ok (.iload_n 1, 1) := by decide +kernel
theorem dX12_next_342 : decode cX12_next 342 = .ok (.bipush 60, 2) := by decide +kernel
theorem dX12_next_344 : decode cX12_next 344 = .ok (.if_icmp .eq 9, 3) := by decide +kernel
theorem dX12_next_347 : decode cX12_next 347 = .ok (.iload_n 1, 1) := by decide +kernel
theorem dX12_next_348 : decode cX12_next 348 = .ok (.bipush 61, 2) := by decide +kernel
theorem dX12_next_350 : decode cX12_next 350 = .ok (.if_icmp .ne 7, 3) := by decide +kernel
theorem dX12_next_353 : decode cX12_next 353 = .ok (.iconst 3, 1) := by decide +kernel
theorem dX12_next_354 : decode cX12_next 354 = .ok (.goto 4, 3) := by decide +kernel
theorem dX12_next_357 : decode cX12_next 357 = .ok (.iconst 5, 1) := by decide +kernel
theorem dX12_next_358 : decode cX12_next 358 = .ok (.putfield 162, 3) := by decide +kernel
theorem dX12_next_361 : decode cX12_next 361 = .ok (.return_, 1) := by decide +kernel
theorem dX12_wrong_0 : decode cX12_wrong 0 = .ok (.aload_n 0, 1) := by decide +kernel
theorem dX12_wrong_1 : decode cX12_wrong 1 = .ok (.getfield 178, 3) := by decide +kernel
theorem dX12_wrong_4 : decode cX12_wrong 4 = .ok (.ifCond .ge 11, 3) := by decide +kernel
theorem dX12_wrong_7 : decode cX12_wrong 7 = .ok (.aload_n 0, 1) := by decide +kernel
theorem dX12_wrong_8 : decode cX12_wrong 8 = .ok (.aload_n 0, 1) := by decide +kernel
theorem dX12_wrong_9 : decode cX12_wrong 9 = .ok (.getfield 155, 3) := by decide +kernel
theorem dX12_wrong_12 : decode cX12_wrong 12 = .ok (.putfield 178, 3) := by decide +kernel
theorem dX12_wrong_15 : decode cX12_wrong 15 = .ok (.return_, 1) := by decide +kernel
theorem dX12_isSign_0 : decode cX12_isSign 0 = .ok (.aload_n 0, 1) := by decide +kernel
theorem dX12_isSign_1 : decode cX12_isSign 1 = .ok (.getfield 178, 3) := by decide +kernel
theorem dX12_isSign_4 : decode cX12_isSign 4 = .ok (.ifCond .ge 23, 3) := by decide +kernel
theorem dX12_isSign_7 : decode cX12_isSign 7 = .ok (.aload_n 0, 1) := by decide +kernel
theorem dX12_isSign_8 : decode cX12_isSign 8 = .ok (.getfield 162, 3) := by decide +kernel
theorem dX12_isSign_11 : decode cX12_isSign 11 = .ok (.iconst 3, 1) := by decide +kernel
theorem dX12_isSign_12 : decode cX12_isSign 12 = .ok (.if_icmp .ne 15, 3) := by decide +kernel
theorem dX12_isSign_15 : decode cX12_isSign 15 = .ok (.aload_n 0, 1) := by decide +kernel
theorem dX12_isSign_16 : decode cX12_isSign 16 = .ok (.getfield 172, 3) := by decide +kernel
theorem dX12_isSign_19 : decode cX12_isSign 19 = .ok (.iload_n 1, 1) := by decide +kernel
theorem dX12_isSign_20 : decode cX12_isSign 20 = .ok (.if_icmp .ne 7, 3) := by decide +kernel
theorem dX12_isSign_23 : decode cX12_isSign 23 = .ok (.iconst 1, 1) := by decide +kernel
theorem dX12_isSign_24 : decode cX12_isSign 24 = .ok (.goto 4, 3) := by decide +kernel
theorem dX12_isSign_27 : decode cX12_isSign 27 = .ok (.iconst 0, 1) := by decide +kernel
theorem dX12_isSign_28 : decode cX12_isSign 28 = .ok (.ireturn, 1) := by decide +kernel
theorem dX12_isKey_0 : decode cX12_isKey 0 = .ok (.aload_n 0, 1) := by decide +kernel
theorem dX12_isKey_1 : decode cX12_isKey 1 = .ok (.getfield 178, 3) := by decide +kernel
theorem dX12_isKey_4 : decode cX12_isKey 4 = .ok (.ifCond .ge 23, 3) := by decide +kernel
theorem dX12_isKey_7 : decode cX12_isKey 7 = .ok (.aload_n 0, 1) := by decide +kernel
theorem dX12_isKey_8 : decode cX12_isKey 8 = .ok (.getfield 162, 3) := by decide +kernel
theorem dX12_isKey_11 : decode cX12_isKey 11 = .ok (.iconst 1, 1) := by decide +kernel
theorem dX12_isKey_12 : decode cX12_isKey 12 = .ok (.if_icmp .ne 15, 3) := by decide +kernel
theorem dX12_isKey_15 : decode cX12_isKey 15 = .ok (.aload_n 0, 1) := by decide +kernel
theorem dX12_isKey_16 : decode cX12_isKey 16 = .ok (.getfield 172, 3) := by decide +kernel
theorem dX12_isKey_19 : decode cX12_isKey 19 = .ok (.iload_n 1, 1) := by decide +kernel
theorem dX12_isKey_20 : decode cX12_isKey 20 = .ok (.if_icmp .ne 7, 3) := by decide +kernel
theorem dX12_isKey_23 : decode cX12_isKey 23 = .ok (.iconst 1, 1) := by decide +kernel
theorem dX12_isKey_24 : decode cX12_isKey 24 = .ok (.goto 4, 3) := by decide +kernel
theorem dX12_isKey_27 : decode cX12_isKey 27 = .ok (.iconst 0, 1) := by decide +kernel
theorem dX12_isKey_28 : decode cX12_isKey 28 = .ok (.ireturn, 1) := by decide +kernel
theorem dX12_addStep_0 : decode cX12_addStep 0 = .ok (.aload_n 0, 1) := by decide +kernel
theorem dX12_addStep_1 : decode cX12_addStep 1 = .ok (.getfield 52, 3) := by decide +kernel
theorem dX12_addStep_4 : decode cX12_addStep 4 = .ok (.sipush 1020, 3) := by decide +kernel
theorem dX12_addStep_7 : decode cX12_addStep 7 = .ok (.aload_n 0, 1) := by decide +kernel
theorem dX12_addStep_8 : decode cX12_addStep 8 = .ok (.getfield 181, 3) := by decide +kernel
theorem dX12_addStep_11 : decode cX12_addStep 11 = .ok (.iadd, 1) := by decide +kernel
theorem dX12_addStep_12 : decode cX12_addStep 12 = .ok (.iload_n 1, 1) := by decide +kernel
theorem dX12_addStep_13 : decode cX12_addStep 13 = .ok (.iastore, 1) := by decide +kernel
theorem dX12_addStep_14 : decode cX12_addStep 14 = .ok (.aload_n 0, 1) := by decide +kernel
theorem dX12_addStep_15 : decode cX12_addStep 15 = .ok (.getfield 55, 3) := by decide +kernel
theorem dX12_addStep_18 : decode cX12_addStep 18 = .ok (.sipush 1020, 3) := by decide +kernel
theorem dX12_addStep_21 : decode cX12_addStep 21 = .ok (.aload_n 0, 1) := by decide +kernel
theorem dX12_addStep_22 : decode cX12_addStep 22 = .ok (.getfield 181, 3) := by decide +kernel
theorem dX12_addStep_25 : decode cX12_addStep 25 = .ok (.iadd, 1) := by decide +kernel
theorem dX12_addStep_26 : decode cX12_addStep 26 = .ok (.iload_n 2, 1) := by decide +kernel
theorem dX12_addStep_27 : decode cX12_addStep 27 = .ok (.iastore, 1) := by decide +kernel
theorem dX12_addStep_28 : decode cX12_addStep 28 = .ok (.aload_n 0, 1) := by decide +kernel
theorem dX12_addStep_29 : decode cX12_addStep 29 = .ok (.dup, 1) := by decide +kernel
theorem dX12_addStep_30 : decode cX12_addStep 30 = .ok (.getfield 181, 3) := by decide +kernel
theorem dX12_addStep_33 : decode cX12_addStep 33 = .ok (.iconst 1, 1) := by decide +kernel
theorem dX12_addStep_34 : decode cX12_addStep 34 = .ok (.iadd, 1) := by decide +kernel
theorem dX12_addStep_35 : decode cX12_addStep 35 = .ok (.putfield 181, 3) := by decide +kernel
theorem dX12_addStep_38 : decode cX12_addStep 38 = .ok (.return_, 1) := by decide +kernel
theorem dX12_opens_0 : decode cX12_opens 0 = .ok (.aload_n 0, 1) := by decide +kernel
theorem dX12_opens_1 : decode cX12_opens 1 = .ok (.getfield 184, 3) := by decide +kernel
theorem dX12_opens_4 : decode cX12_opens 4 = .ok (.iconst 5, 1) := by decide +kernel
theorem dX12_opens_5 : decode cX12_opens 5 = .ok (.if_icmp .ne 9, 3) := by decide +kernel
theorem dX12_opens_8 : decode cX12_opens 8 = .ok (.aload_n 0, 1) := by decide +kernel
theorem dX12_opens_9 : decode cX12_opens 9 = .ok (.invokevirtual 187, 3) := by decide +kernel
theorem dX12_opens_12 : decode cX12_opens 12 = .ok (.iconst 0, 1) := by decide +kernel
theorem dX12_opens_13 : decode cX12_opens 13 = .ok (.ireturn, 1) := by decide +kernel
theorem dX12_opens_14 : decode cX12_opens 14 = .ok (.aload_n 0, 1) := by decide +kernel
theorem dX12_opens_15 : decode cX12_opens 15 = .ok (.dup, 1) := by decide +kernel
theorem dX12_opens_16 : decode cX12_opens 16 = .ok (.getfield 184, 3) := by decide +kernel
theorem dX12_opens_19 : decode cX12_opens 19 = .ok (.iconst 1, 1) := by decide +kernel
theorem dX12_opens_20 : decode cX12_opens 20 = .ok (.iadd, 1) := by decide +kernel
theorem dX12_opens_21 : decode cX12_opens 21 = .ok (.putfield 184, 3) := by decide +kernel
theorem dX12_opens_24 : decode cX12_opens 24 = .ok (.aload_n 0, 1) := by decide +kernel
theorem dX12_opens_25 : decode cX12_opens 25 = .ok (.invokevirtual 190, 3) := by decide +kernel
theorem dX12_opens_28 : decode cX12_opens 28 = .ok (.iconst 1, 1) := by decide +kernel
theorem dX12_opens_29 : decode cX12_opens 29 = .ok (.ireturn, 1) := by decide +kernel
theorem dX12_either_0 : decode cX12_either 0 = .ok (.aload_n 0, 1) := by decide +kernel
theorem dX12_either_1 : decode cX12_either 1 = .ok (.invokevirtual 193, 3) := by decide +kernel
theorem dX12_either_4 : decode cX12_either 4 = .ok (.aload_n 0, 1) := by decide +kernel
theorem dX12_either_5 : decode cX12_either 5 = .ok (.bipush 13, 2) := by decide +kernel
theorem dX12_either_7 : decode cX12_either 7 = .ok (.invokevirtual 196, 3) := by decide +kernel
theorem dX12_either_10 : decode cX12_either 10 = .ok (.ifCond .eq 20, 3) := by decide +kernel
theorem dX12_either_13 : decode cX12_either 13 = .ok (.aload_n 0, 1) := by decide +kernel
theorem dX12_either_14 : decode cX12_either 14 = .ok (.invokevirtual 190, 3) := by decide +kernel
theorem dX12_either_17 : decode cX12_either 17 = .ok (.aload_n 0, 1) := by decide +kernel
theorem dX12_either_18 : decode cX12_either 18 = .ok (.invokevirtual 193, 3) := by decide +kernel
theorem dX12_either_21 : decode cX12_either 21 = .ok (.aload_n 0, 1) := by decide +kernel
theorem dX12_either_22 : decode cX12_either 22 = .ok (.iconst 5, 1) := by decide +kernel
theorem dX12_either_23 : decode cX12_either 23 = .ok (.iconst 0, 1) := by decide +kernel
theorem dX12_either_24 : decode cX12_either 24 = .ok (.invokevirtual 199, 3) := by decide +kernel
theorem dX12_either_27 : decode cX12_either 27 = .ok (.goto (-23), 3) := by decide +kernel
theorem dX12_either_30 : decode cX12_either 30 = .ok (.return_, 1) := by decide +kernel
theorem dX12_all_0 : decode cX12_all 0 = .ok (.aload_n 0, 1) := by decide +kernel
theorem dX12_all_1 : decode cX12_all 1 = .ok (.invokevirtual 203, 3) := by decide +kernel
theorem dX12_all_4 : decode cX12_all 4 = .ok (.aload_n 0, 1) := by decide +kernel
theorem dX12_all_5 : decode cX12_all 5 = .ok (.bipush 14, 2) := by decide +kernel
theorem dX12_all_7 : decode cX12_all 7 = .ok (.invokevirtual 196, 3) := by decide +kernel
theorem dX12_all_10 : decode cX12_all 10 = .ok (.ifCond .eq 21, 3) := by decide +kernel
theorem dX12_all_13 : decode cX12_all 13 = .ok (.aload_n 0, 1) := by decide +kernel
theorem dX12_all_14 : decode cX12_all 14 = .ok (.invokevirtual 190, 3) := by decide +kernel
theorem dX12_all_17 : decode cX12_all 17 = .ok (.aload_n 0, 1) := by decide +kernel
theorem dX12_all_18 : decode cX12_all 18 = .ok (.invokevirtual 203, 3) := by decide +kernel
theorem dX12_all_21 : decode cX12_all 21 = .ok (.aload_n 0, 1) := by decide +kernel
theorem dX12_all_22 : decode cX12_all 22 = .ok (.bipush 6, 2) := by decide +kernel
theorem dX12_all_24 : decode cX12_all 24 = .ok (.iconst 0, 1) := by decide +kernel
theorem dX12_all_25 : decode cX12_all 25 = .ok (.invokevirtual 199, 3) := by decide +kernel
theorem dX12_all_28 : decode cX12_all 28 = .ok (.goto (-24), 3) := by decide +kernel
theorem dX12_all_31 : decode cX12_all 31 = .ok (.return_, 1) := by decide +kernel
theorem dX12_denied_0 : decode cX12_denied 0 = .ok (.aload_n 0, 1) := by decide +kernel
theorem dX12_denied_1 : decode cX12_denied 1 = .ok (.bipush 15, 2) := by decide +kernel
theorem dX12_denied_3 : decode cX12_denied 3 = .ok (.invokevirtual 196, 3) := by decide +kernel
theorem dX12_denied_6 : decode cX12_denied 6 = .ok (.ifCond .eq 32, 3) := by decide +kernel
theorem dX12_denied_9 : decode cX12_denied 9 = .ok (.aload_n 0, 1) := by decide +kernel
theorem dX12_denied_10 : decode cX12_denied 10 = .ok (.invokevirtual 206, 3) := by decide +kernel
theorem dX12_denied_13 : decode cX12_denied 13 = .ok (.ifCond .ne 4, 3) := by decide +kernel
theorem dX12_denied_16 : decode cX12_denied 16 = .ok (.return_, 1) := by decide +kernel
theorem dX12_denied_17 : decode cX12_denied 17 = .ok (.aload_n 0, 1) := by decide +kernel
theorem dX12_denied_18 : decode cX12_denied 18 = .ok (.invokevirtual 203, 3) := by decide +kernel
theorem dX12_denied_21 : decode cX12_denied 21 = .ok (.aload_n 0, 1) := by decide +kernel
theorem dX12_denied_22 : decode cX12_denied 22 = .ok (.dup, 1) := by decide +kernel
theorem dX12_denied_23 : decode cX12_denied 23 = .ok (.getfield 184, 3) := by decide +kernel
theorem dX12_denied_26 : decode cX12_denied 26 = .ok (.iconst 1, 1) := by decide +kernel
theorem dX12_denied_27 : decode cX12_denied 27 = .ok (.isub, 1) := by decide +kernel
theorem dX12_denied_28 : decode cX12_denied 28 = .ok (.putfield 184, 3) := by decide +kernel
theorem dX12_denied_31 : decode cX12_denied 31 = .ok (.aload_n 0, 1) := by decide +kernel
theorem dX12_denied_32 : decode cX12_denied 32 = .ok (.iconst 3, 1) := by decide +kernel
theorem dX12_denied_33 : decode cX12_denied 33 = .ok (.iconst 0, 1) := by decide +kernel
theorem dX12_denied_34 : decode cX12_denied 34 = .ok (.invokevirtual 199, 3) := by decide +kernel
theorem dX12_denied_37 : decode cX12_denied 37 = .ok (.return_, 1) := by decide +kernel
theorem dX12_denied_38 : decode cX12_denied 38 = .ok (.aload_n 0, 1) := by decide +kernel
theorem dX12_denied_39 : decode cX12_denied 39 = .ok (.invokevirtual 210, 3) := by decide +kernel
theorem dX12_denied_42 : decode cX12_denied 42 = .ok (.aload_n 0, 1) := by decide +kernel
theorem dX12_denied_43 : decode cX12_denied 43 = .ok (.bipush 60, 2) := by decide +kernel
theorem dX12_denied_45 : decode cX12_denied 45 = .ok (.invokevirtual 213, 3) := by decide +kernel
theorem dX12_denied_48 : decode cX12_denied 48 = .ok (.ifCond .ne 13, 3) := by decide +kernel
theorem dX12_denied_51 : decode cX12_denied 51 = .ok (.aload_n 0, 1) := by decide +kernel
theorem dX12_denied_52 : decode cX12_denied 52 = .ok (.bipush 61, 2) := by decide +kernel
theorem dX12_denied_54 : decode cX12_denied 54 = .ok (.invokevirtual 213, 3) := by decide +kernel
theorem dX12_denied_57 : decode cX12_denied 57 = .ok (.ifCond .ne 4, 3) := by decide +kernel
theorem dX12_denied_60 : decode cX12_denied 60 = .ok (.return_, 1) := by decide +kernel
theorem dX12_denied_61 : decode cX12_denied 61 = .ok (.aload_n 0, 1) := by decide +kernel
theorem dX12_denied_62 : decode cX12_denied 62 = .ok (.getfield 172, 3) := by decide +kernel
theorem dX12_denied_65 : decode cX12_denied 65 = .ok (.istore_n 1, 1) := by decide +kernel
theorem dX12_denied_66 : decode cX12_denied 66 = .ok (.aload_n 0, 1) := by decide +kernel
theorem dX12_denied_67 : decode cX12_denied 67 = .ok (.invokevirtual 190, 3) := by decide +kernel
theorem dX12_denied_70 : decode cX12_denied 70 = .ok (.aload_n 0, 1) := by decide +kernel
theorem dX12_denied_71 : decode cX12_denied 71 = .ok (.invokevirtual 210, 3) := by decide +kernel
theorem dX12_denied_74 : decode cX12_denied 74 = .ok (.aload_n 0, 1) := by decide +kernel
theorem dX12_denied_75 : decode cX12_denied 75 = .ok (.iload_n 1, 1) := by decide +kernel
theorem dX12_denied_76 : decode cX12_denied 76 = .ok (.iconst 0, 1) := by decide +kernel
theorem dX12_denied_77 : decode cX12_denied 77 = .ok (.invokevirtual 199, 3) := by decide +kernel
theorem dX12_denied_80 : decode cX12_denied 80 = .ok (.return_, 1) := by decide +kernel
theorem dX12_sum_0 : decode cX12_sum 0 = .ok (.aload_n 0, 1) := by decide +kernel
theorem dX12_sum_1 : decode cX12_sum 1 = .ok (.invokevirtual 216, 3) := by decide +kernel
theorem dX12_sum_4 : decode cX12_sum 4 = .ok (.aload_n 0, 1) := by decide +kernel
theorem dX12_sum_5 : decode cX12_sum 5 = .ok (.bipush 43, 2) := by decide +kernel
theorem dX12_sum_7 : decode cX12_sum 7 = .ok (.invokevirtual 213, 3) := by decide +kernel
theorem dX12_sum_10 : decode cX12_sum 10 = .ok (.ifCond .ne 12, 3) := by decide +kernel
theorem dX12_sum_13 : decode cX12_sum 13 = .ok (.aload_n 0, 1) := by decide +kernel
theorem dX12_sum_14 : decode cX12_sum 14 = .ok (.bipush 45, 2) := by decide +kernel
theorem dX12_sum_16 : decode cX12_sum 16 = .ok (.invokevirtual 213, 3) := by decide +kernel
theorem dX12_sum_19 : decode cX12_sum 19 = .ok (.ifCond .eq 25, 3) := by decide +kernel
theorem dX12_sum_22 : decode cX12_sum 22 = .ok (.aload_n 0, 1) := by decide +kernel
theorem dX12_sum_23 : decode cX12_sum 23 = .ok (.getfield 172, 3) := by decide +kernel
theorem dX12_sum_26 : decode cX12_sum 26 = .ok (.istore_n 1, 1) := by decide +kernel
theorem dX12_sum_27 : decode cX12_sum 27 = .ok (.aload_n 0, 1) := by decide +kernel
theorem dX12_sum_28 : decode cX12_sum 28 = .ok (.invokevirtual 190, 3) := by decide +kernel
theorem dX12_sum_31 : decode cX12_sum 31 = .ok (.aload_n 0, 1) := by decide +kernel
theorem dX12_sum_32 : decode cX12_sum 32 = .ok (.invokevirtual 216, 3) := by decide +kernel
theorem dX12_sum_35 : decode cX12_sum 35 = .ok (.aload_n 0, 1) := by decide +kernel
theorem dX12_sum_36 : decode cX12_sum 36 = .ok (.iload_n 1, 1) := by decide +kernel
theorem dX12_sum_37 : decode cX12_sum 37 = .ok (.iconst 0, 1) := by decide +kernel
theorem dX12_sum_38 : decode cX12_sum 38 = .ok (.invokevirtual 199, 3) := by decide +kernel
theorem dX12_sum_41 : decode cX12_sum 41 = .ok (.goto (-37), 3) := by decide +kernel
theorem dX12_sum_44 : decode cX12_sum 44 = .ok (.return_, 1) := by decide +kernel
theorem dX12_term_0 : decode cX12_term 0 = .ok (.aload_n 0, 1) := by decide +kernel
theorem dX12_term_1 : decode cX12_term 1 = .ok (.invokevirtual 219, 3) := by decide +kernel
theorem dX12_term_4 : decode cX12_term 4 = .ok (.aload_n 0, 1) := by decide +kernel
theorem dX12_term_5 : decode cX12_term 5 = .ok (.bipush 42, 2) := by decide +kernel
theorem dX12_term_7 : decode cX12_term 7 = .ok (.invokevirtual 213, 3) := by decide +kernel
theorem dX12_term_10 : decode cX12_term 10 = .ok (.ifCond .eq 21, 3) := by decide +kernel
theorem dX12_term_13 : decode cX12_term 13 = .ok (.aload_n 0, 1) := by decide +kernel
theorem dX12_term_14 : decode cX12_term 14 = .ok (.invokevirtual 190, 3) := by decide +kernel
theorem dX12_term_17 : decode cX12_term 17 = .ok (.aload_n 0, 1) := by decide +kernel
theorem dX12_term_18 : decode cX12_term 18 = .ok (.invokevirtual 219, 3) := by decide +kernel
theorem dX12_term_21 : decode cX12_term 21 = .ok (.aload_n 0, 1) := by decide +kernel
theorem dX12_term_22 : decode cX12_term 22 = .ok (.bipush 42, 2) := by decide +kernel
theorem dX12_term_24 : decode cX12_term 24 = .ok (.iconst 0, 1) := by decide +kernel
theorem dX12_term_25 : decode cX12_term 25 = .ok (.invokevirtual 199, 3) := by decide +kernel
theorem dX12_term_28 : decode cX12_term 28 = .ok (.goto (-24), 3) := by decide +kernel
theorem dX12_term_31 : decode cX12_term 31 = .ok (.return_, 1) := by decide +kernel
theorem dX12_one_0 : decode cX12_one 0 = .ok (.aload_n 0, 1) := by decide +kernel
theorem dX12_one_1 : decode cX12_one 1 = .ok (.getfield 178, 3) := by decide +kernel
theorem dX12_one_4 : decode cX12_one 4 = .ok (.ifCond .lt 4, 3) := by decide +kernel
theorem dX12_one_7 : decode cX12_one 7 = .ok (.return_, 1) := by decide +kernel
theorem dX12_one_8 : decode cX12_one 8 = .ok (.aload_n 0, 1) := by decide +kernel
theorem dX12_one_9 : decode cX12_one 9 = .ok (.getfield 162, 3) := by decide +kernel
theorem dX12_one_12 : decode cX12_one 12 = .ok (.iconst 2, 1) := by decide +kernel
theorem dX12_one_13 : decode cX12_one 13 = .ok (.if_icmp .ne 19, 3) := by decide +kernel
theorem dX12_one_16 : decode cX12_one 16 = .ok (.aload_n 0, 1) := by decide +kernel
theorem dX12_one_17 : decode cX12_one 17 = .ok (.iconst 1, 1) := by decide +kernel
theorem dX12_one_18 : decode cX12_one 18 = .ok (.aload_n 0, 1) := by decide +kernel
theorem dX12_one_19 : decode cX12_one 19 = .ok (.getfield 172, 3) := by decide +kernel
theorem dX12_one_22 : decode cX12_one 22 = .ok (.invokevirtual 199, 3) := by decide +kernel
theorem dX12_one_25 : decode cX12_one 25 = .ok (.aload_n 0, 1) := by decide +kernel
theorem dX12_one_26 : decode cX12_one 26 = .ok (.invokevirtual 190, 3) := by decide +kernel
theorem dX12_one_29 : decode cX12_one 29 = .ok (.goto 132, 3) := by decide +kernel
theorem dX12_one_32 : decode cX12_one 32 = .ok (.aload_n 0, 1) := by decide +kernel
theorem dX12_one_33 : decode cX12_one 33 = .ok (.getfield 162, 3) := by decide +kernel
theorem dX12_one_36 : decode cX12_one 36 = .ok (.iconst 1, 1) := by decide +kernel
theorem dX12_one_37 : decode cX12_one 37 = .ok (.if_icmp .ne 28, 3) := by decide +kernel
theorem dX12_one_40 : decode cX12_one 40 = .ok (.aload_n 0, 1) := by decide +kernel
theorem dX12_one_41 : decode cX12_one 41 = .ok (.getfield 172, 3) := by decide +kernel
theorem dX12_one_44 : decode cX12_one 44 = .ok (.bipush 6, 2) := by decide +kernel
theorem dX12_one_46 : decode cX12_one 46 = .ok (.if_icmp .ge 19, 3) := by decide +kernel
theorem dX12_one_49 : decode cX12_one 49 = .ok (.aload_n 0, 1) := by decide +kernel
theorem dX12_one_50 : decode cX12_one 50 = .ok (.iconst 2, 1) := by decide +kernel
theorem dX12_one_51 : decode cX12_one 51 = .ok (.aload_n 0, 1) := by decide +kernel
theorem dX12_one_52 : decode cX12_one 52 = .ok (.getfield 172, 3) := by decide +kernel
theorem dX12_one_55 : decode cX12_one 55 = .ok (.invokevirtual 199, 3) := by decide +kernel
theorem dX12_one_58 : decode cX12_one 58 = .ok (.aload_n 0, 1) := by decide +kernel
theorem dX12_one_59 : decode cX12_one 59 = .ok (.invokevirtual 190, 3) := by decide +kernel
theorem dX12_one_62 : decode cX12_one 62 = .ok (.goto 99, 3) := by decide +kernel
theorem dX12_one_65 : decode cX12_one 65 = .ok (.aload_n 0, 1) := by decide +kernel
theorem dX12_one_66 : decode cX12_one 66 = .ok (.bipush 45, 2) := by decide +kernel
theorem dX12_one_68 : decode cX12_one 68 = .ok (.invokevirtual 213, 3) := by decide +kernel
theorem dX12_one_71 : decode cX12_one 71 = .ok (.ifCond .eq 34, 3) := by decide +kernel
theorem dX12_one_74 : decode cX12_one 74 = .ok (.aload_n 0, 1) := by decide +kernel
theorem dX12_one_75 : decode cX12_one 75 = .ok (.invokevirtual 206, 3) := by decide +kernel
theorem dX12_one_78 : decode cX12_one 78 = .ok (.ifCond .ne 4, 3) := by decide +kernel
theorem dX12_one_81 : decode cX12_one 81 = .ok (.return_, 1) := by decide +kernel
theorem dX12_one_82 : decode cX12_one 82 = .ok (.aload_n 0, 1) := by decide +kernel
theorem dX12_one_83 : decode cX12_one 83 = .ok (.invokevirtual 219, 3) := by decide +kernel
theorem dX12_one_86 : decode cX12_one 86 = .ok (.aload_n 0, 1) := by decide +kernel
theorem dX12_one_87 : decode cX12_one 87 = .ok (.dup, 1) := by decide +kernel
theorem dX12_one_88 : decode cX12_one 88 = .ok (.getfield 184, 3) := by decide +kernel
theorem dX12_one_91 : decode cX12_one 91 = .ok (.iconst 1, 1) := by decide +kernel
theorem dX12_one_92 : decode cX12_one 92 = .ok (.isub, 1) := by decide +kernel
theorem dX12_one_93 : decode cX12_one 93 = .ok (.putfield 184, 3) := by decide +kernel
theorem dX12_one_96 : decode cX12_one 96 = .ok (.aload_n 0, 1) := by decide +kernel
theorem dX12_one_97 : decode cX12_one 97 = .ok (.iconst 4, 1) := by decide +kernel
theorem dX12_one_98 : decode cX12_one 98 = .ok (.iconst 0, 1) := by decide +kernel
theorem dX12_one_99 : decode cX12_one 99 = .ok (.invokevirtual 199, 3) := by decide +kernel
theorem dX12_one_102 : decode cX12_one 102 = .ok (.goto 59, 3) := by decide +kernel
theorem dX12_one_105 : decode cX12_one 105 = .ok (.aload_n 0, 1) := by decide +kernel
theorem dX12_one_106 : decode cX12_one 106 = .ok (.bipush 40, 2) := by decide +kernel
theorem dX12_one_108 : decode cX12_one 108 = .ok (.invokevirtual 213, 3) := by decide +kernel
theorem dX12_one_111 : decode cX12_one 111 = .ok (.ifCond .eq 46, 3) := by decide +kernel
theorem dX12_one_114 : decode cX12_one 114 = .ok (.aload_n 0, 1) := by decide +kernel
theorem dX12_one_115 : decode cX12_one 115 = .ok (.invokevirtual 206, 3) := by decide +kernel
theorem dX12_one_118 : decode cX12_one 118 = .ok (.ifCond .ne 4, 3) := by decide +kernel
theorem dX12_one_121 : decode cX12_one 121 = .ok (.return_, 1) := by decide +kernel
theorem dX12_one_122 : decode cX12_one 122 = .ok (.aload_n 0, 1) := by decide +kernel
theorem dX12_one_123 : decode cX12_one 123 = .ok (.invokevirtual 222, 3) := by decide +kernel
theorem dX12_one_126 : decode cX12_one 126 = .ok (.aload_n 0, 1) := by decide +kernel
theorem dX12_one_127 : decode cX12_one 127 = .ok (.bipush 41, 2) := by decide +kernel
theorem dX12_one_129 : decode cX12_one 129 = .ok (.invokevirtual 213, 3) := by decide +kernel
theorem dX12_one_132 : decode cX12_one 132 = .ok (.ifCond .ne 8, 3) := by decide +kernel
theorem dX12_one_135 : decode cX12_one 135 = .ok (.aload_n 0, 1) := by decide +kernel
theorem dX12_one_136 : decode cX12_one 136 = .ok (.invokevirtual 187, 3) := by decide +kernel
theorem dX12_one_139 : decode cX12_one 139 = .ok (.return_, 1) := by decide +kernel
theorem dX12_one_140 : decode cX12_one 140 = .ok (.aload_n 0, 1) := by decide +kernel
theorem dX12_one_141 : decode cX12_one 141 = .ok (.dup, 1) := by decide +kernel
theorem dX12_one_142 : decode cX12_one 142 = .ok (.getfield 184, 3) := by decide +kernel
theorem dX12_one_145 : decode cX12_one 145 = .ok (.iconst 1, 1) := by decide +kernel
theorem dX12_one_146 : decode cX12_one 146 = .ok (.isub, 1) := by decide +kernel
theorem dX12_one_147 : decode cX12_one 147 = .ok (.putfield 184, 3) := by decide +kernel
theorem dX12_one_150 : decode cX12_one 150 = .ok (.aload_n 0, 1) := by decide +kernel
theorem dX12_one_151 : decode cX12_one 151 = .ok (.invokevirtual 190, 3) := by decide +kernel
theorem dX12_one_154 : decode cX12_one 154 = .ok (.goto 7, 3) := by decide +kernel
theorem dX12_one_157 : decode cX12_one 157 = .ok (.aload_n 0, 1) := by decide +kernel
theorem dX12_one_158 : decode cX12_one 158 = .ok (.invokevirtual 187, 3) := by decide +kernel
theorem dX12_one_161 : decode cX12_one 161 = .ok (.return_, 1) := by decide +kernel
theorem dX12_rule_0 : decode cX12_rule 0 = .ok (.aload_n 0, 1) := by decide +kernel
theorem dX12_rule_1 : decode cX12_rule 1 = .ok (.bipush 10, 2) := by decide +kernel
theorem dX12_rule_3 : decode cX12_rule 3 = .ok (.iload_n 1, 1) := by decide +kernel
theorem dX12_rule_4 : decode cX12_rule 4 = .ok (.iadd, 1) := by decide +kernel
theorem dX12_rule_5 : decode cX12_rule 5 = .ok (.invokevirtual 196, 3) := by decide +kernel
theorem dX12_rule_8 : decode cX12_rule 8 = .ok (.ifCond .ne 8, 3) := by decide +kernel
theorem dX12_rule_11 : decode cX12_rule 11 = .ok (.aload_n 0, 1) := by decide +kernel
theorem dX12_rule_12 : decode cX12_rule 12 = .ok (.invokevirtual 187, 3) := by decide +kernel
theorem dX12_rule_15 : decode cX12_rule 15 = .ok (.return_, 1) := by decide +kernel
theorem dX12_rule_16 : decode cX12_rule 16 = .ok (.aload_n 0, 1) := by decide +kernel
theorem dX12_rule_17 : decode cX12_rule 17 = .ok (.invokevirtual 190, 3) := by decide +kernel
theorem dX12_rule_20 : decode cX12_rule 20 = .ok (.aload_n 0, 1) := by decide +kernel
theorem dX12_rule_21 : decode cX12_rule 21 = .ok (.invokevirtual 222, 3) := by decide +kernel
theorem dX12_rule_24 : decode cX12_rule 24 = .ok (.aload_n 0, 1) := by decide +kernel
theorem dX12_rule_25 : decode cX12_rule 25 = .ok (.bipush 59, 2) := by decide +kernel
theorem dX12_rule_27 : decode cX12_rule 27 = .ok (.invokevirtual 213, 3) := by decide +kernel
theorem dX12_rule_30 : decode cX12_rule 30 = .ok (.ifCond .ne 8, 3) := by decide +kernel
theorem dX12_rule_33 : decode cX12_rule 33 = .ok (.aload_n 0, 1) := by decide +kernel
theorem dX12_rule_34 : decode cX12_rule 34 = .ok (.invokevirtual 187, 3) := by decide +kernel
theorem dX12_rule_37 : decode cX12_rule 37 = .ok (.return_, 1) := by decide +kernel
theorem dX12_rule_38 : decode cX12_rule 38 = .ok (.aload_n 0, 1) := by decide +kernel
theorem dX12_rule_39 : decode cX12_rule 39 = .ok (.invokevirtual 190, 3) := by decide +kernel
theorem dX12_rule_42 : decode cX12_rule 42 = .ok (.aload_n 0, 1) := by decide +kernel
theorem dX12_rule_43 : decode cX12_rule 43 = .ok (.getfield 58, 3) := by decide +kernel
theorem dX12_rule_46 : decode cX12_rule 46 = .ok (.bipush 18, 2) := by decide +kernel
theorem dX12_rule_48 : decode cX12_rule 48 = .ok (.iload_n 1, 1) := by decide +kernel
theorem dX12_rule_49 : decode cX12_rule 49 = .ok (.iadd, 1) := by decide +kernel
theorem dX12_rule_50 : decode cX12_rule 50 = .ok (.aload_n 0, 1) := by decide +kernel
theorem dX12_rule_51 : decode cX12_rule 51 = .ok (.getfield 181, 3) := by decide +kernel
theorem dX12_rule_54 : decode cX12_rule 54 = .ok (.iastore, 1) := by decide +kernel
theorem dX12_rule_55 : decode cX12_rule 55 = .ok (.return_, 1) := by decide +kernel
theorem dX12_text_0 : decode cX12_text 0 = .ok (.aload_n 0, 1) := by decide +kernel
theorem dX12_text_1 : decode cX12_text 1 = .ok (.getfield 48, 3) := by decide +kernel
theorem dX12_text_4 : decode cX12_text 4 = .ok (.bipush 6, 2) := by decide +kernel
theorem dX12_text_6 : decode cX12_text 6 = .ok (.if_icmp .ne 6, 3) := by decide +kernel
theorem dX12_text_9 : decode cX12_text 9 = .ok (.bipush (-4), 2) := by decide +kernel
theorem dX12_text_11 : decode cX12_text 11 = .ok (.ireturn, 1) := by decide +kernel
theorem dX12_text_12 : decode cX12_text 12 = .ok (.aload_n 0, 1) := by decide +kernel
theorem dX12_text_13 : decode cX12_text 13 = .ok (.iconst 0, 1) := by decide +kernel
theorem dX12_text_14 : decode cX12_text 14 = .ok (.putfield 152, 3) := by decide +kernel
theorem dX12_text_17 : decode cX12_text 17 = .ok (.aload_n 0, 1) := by decide +kernel
theorem dX12_text_18 : decode cX12_text 18 = .ok (.iconst (-1), 1) := by decide +kernel
theorem dX12_text_19 : decode cX12_text 19 = .ok (.putfield 178, 3) := by decide +kernel
theorem dX12_text_22 : decode cX12_text 22 = .ok (.aload_n 0, 1) := by decide +kernel
theorem dX12_text_23 : decode cX12_text 23 = .ok (.iconst 0, 1) := by decide +kernel
theorem dX12_text_24 : decode cX12_text 24 = .ok (.putfield 184, 3) := by decide +kernel
theorem dX12_text_27 : decode cX12_text 27 = .ok (.aload_n 0, 1) := by decide +kernel
theorem dX12_text_28 : decode cX12_text 28 = .ok (.iconst 0, 1) := by decide +kernel
theorem dX12_text_29 : decode cX12_text 29 = .ok (.putfield 181, 3) := by decide +kernel
theorem dX12_text_32 : decode cX12_text 32 = .ok (.aload_n 0, 1) := by decide +kernel
theorem dX12_text_33 : decode cX12_text 33 = .ok (.invokevirtual 190, 3) := by decide +kernel
theorem dX12_text_36 : decode cX12_text 36 = .ok (.iconst 0, 1) := by decide +kernel
theorem dX12_text_37 : decode cX12_text 37 = .ok (.istore_n 1, 1) := by decide +kernel
theorem dX12_text_38 : decode cX12_text 38 = .ok (.iload_n 1, 1) := by decide +kernel
theorem dX12_text_39 : decode cX12_text 39 = .ok (.iconst 2, 1) := by decide +kernel
theorem dX12_text_40 : decode cX12_text 40 = .ok (.if_icmp .gt 21, 3) := by decide +kernel
theorem dX12_text_43 : decode cX12_text 43 = .ok (.aload_n 0, 1) := by decide +kernel
theorem dX12_text_44 : decode cX12_text 44 = .ok (.getfield 178, 3) := by decide +kernel
theorem dX12_text_47 : decode cX12_text 47 = .ok (.ifCond .ge 14, 3) := by decide +kernel
theorem dX12_text_50 : decode cX12_text 50 = .ok (.aload_n 0, 1) := by decide +kernel
theorem dX12_text_51 : decode cX12_text 51 = .ok (.iload_n 1, 1) := by decide +kernel
theorem dX12_text_52 : decode cX12_text 52 = .ok (.invokevirtual 225, 3) := by decide +kernel
theorem dX12_text_55 : decode cX12_text 55 = .ok (.iinc 1 1, 3) := by decide +kernel
theorem dX12_text_58 : decode cX12_text 58 = .ok (.goto (-20), 3) := by decide +kernel
theorem dX12_text_61 : decode cX12_text 61 = .ok (.aload_n 0, 1) := by decide +kernel
theorem dX12_text_62 : decode cX12_text 62 = .ok (.getfield 178, 3) := by decide +kernel
theorem dX12_text_65 : decode cX12_text 65 = .ok (.ifCond .ge 15, 3) := by decide +kernel
theorem dX12_text_68 : decode cX12_text 68 = .ok (.aload_n 0, 1) := by decide +kernel
theorem dX12_text_69 : decode cX12_text 69 = .ok (.getfield 162, 3) := by decide +kernel
theorem dX12_text_72 : decode cX12_text 72 = .ok (.iconst 4, 1) := by decide +kernel
theorem dX12_text_73 : decode cX12_text 73 = .ok (.if_icmp .eq 7, 3) := by decide +kernel
theorem dX12_text_76 : decode cX12_text 76 = .ok (.aload_n 0, 1) := by decide +kernel
theorem dX12_text_77 : decode cX12_text 77 = .ok (.invokevirtual 187, 3) := by decide +kernel
theorem dX12_text_80 : decode cX12_text 80 = .ok (.aload_n 0, 1) := by decide +kernel
theorem dX12_text_81 : decode cX12_text 81 = .ok (.iconst 0, 1) := by decide +kernel
theorem dX12_text_82 : decode cX12_text 82 = .ok (.putfield 149, 3) := by decide +kernel
theorem dX12_text_85 : decode cX12_text 85 = .ok (.aload_n 0, 1) := by decide +kernel
theorem dX12_text_86 : decode cX12_text 86 = .ok (.getfield 178, 3) := by decide +kernel
theorem dX12_text_89 : decode cX12_text 89 = .ok (.ifCond .lt 11, 3) := by decide +kernel
theorem dX12_text_92 : decode cX12_text 92 = .ok (.bipush (-100), 2) := by decide +kernel
theorem dX12_text_94 : decode cX12_text 94 = .ok (.aload_n 0, 1) := by decide +kernel
theorem dX12_text_95 : decode cX12_text 95 = .ok (.getfield 178, 3) := by decide +kernel
theorem dX12_text_98 : decode cX12_text 98 = .ok (.isub, 1) := by decide +kernel
theorem dX12_text_99 : decode cX12_text 99 = .ok (.ireturn, 1) := by decide +kernel
theorem dX12_text_100 : decode cX12_text 100 = .ok (.iconst 0, 1) := by decide +kernel
theorem dX12_text_101 : decode cX12_text 101 = .ok (.istore_n 1, 1) := by decide +kernel
theorem dX12_text_102 : decode cX12_text 102 = .ok (.iload_n 1, 1) := by decide +kernel
theorem dX12_text_103 : decode cX12_text 103 = .ok (.aload_n 0, 1) := by decide +kernel
theorem dX12_text_104 : decode cX12_text 104 = .ok (.getfield 181, 3) := by decide +kernel
theorem dX12_text_107 : decode cX12_text 107 = .ok (.if_icmp .ge 59, 3) := by decide +kernel
theorem dX12_text_110 : decode cX12_text 110 = .ok (.aload_n 0, 1) := by decide +kernel
theorem dX12_text_111 : decode cX12_text 111 = .ok (.getfield 52, 3) := by decide +kernel
theorem dX12_text_114 : decode cX12_text 114 = .ok (.sipush 170, 3) := by decide +kernel
theorem dX12_text_117 : decode cX12_text 117 = .ok (.aload_n 0, 1) := by decide +kernel
theorem dX12_text_118 : decode cX12_text 118 = .ok (.getfield 48, 3) := by decide +kernel
theorem dX12_text_121 : decode cX12_text 121 = .ok (.imul, 1) := by decide +kernel
theorem dX12_text_122 : decode cX12_text 122 = .ok (.iload_n 1, 1) := by decide +kernel
theorem dX12_text_123 : decode cX12_text 123 = .ok (.iadd, 1) := by decide +kernel
theorem dX12_text_124 : decode cX12_text 124 = .ok (.aload_n 0, 1) := by decide +kernel
theorem dX12_text_125 : decode cX12_text 125 = .ok (.getfield 52, 3) := by decide +kernel
theorem dX12_text_128 : decode cX12_text 128 = .ok (.sipush 1020, 3) := by decide +kernel
theorem dX12_text_131 : decode cX12_text 131 = .ok (.iload_n 1, 1) := by decide +kernel
theorem dX12_text_132 : decode cX12_text 132 = .ok (.iadd, 1) := by decide +kernel
theorem dX12_text_133 : decode cX12_text 133 = .ok (.iaload, 1) := by decide +kernel
theorem dX12_text_134 : decode cX12_text 134 = .ok (.iastore, 1) := by decide +kernel
theorem dX12_text_135 : decode cX12_text 135 = .ok (.aload_n 0, 1) := by decide +kernel
theorem dX12_text_136 : decode cX12_text 136 = .ok (.getfield 55, 3) := by decide +kernel
theorem dX12_text_139 : decode cX12_text 139 = .ok (.sipush 170, 3) := by decide +kernel
theorem dX12_text_142 : decode cX12_text 142 = .ok (.aload_n 0, 1) := by decide +kernel
theorem dX12_text_143 : decode cX12_text 143 = .ok (.getfield 48, 3) := by decide +kernel
theorem dX12_text_146 : decode cX12_text 146 = .ok (.imul, 1) := by decide +kernel
theorem dX12_text_147 : decode cX12_text 147 = .ok (.iload_n 1, 1) := by decide +kernel
theorem dX12_text_148 : decode cX12_text 148 = .ok (.iadd, 1) := by decide +kernel
theorem dX12_text_149 : decode cX12_text 149 = .ok (.aload_n 0, 1) := by decide +kernel
theorem dX12_text_150 : decode cX12_text 150 = .ok (.getfield 55, 3) := by decide +kernel
theorem dX12_text_153 : decode cX12_text 153 = .ok (.sipush 1020, 3) := by decide +kernel
theorem dX12_text_156 : decode cX12_text 156 = .ok (.iload_n 1, 1) := by decide +kernel
theorem dX12_text_157 : decode cX12_text 157 = .ok (.iadd, 1) := by decide +kernel
theorem dX12_text_158 : decode cX12_text 158 = .ok (.iaload, 1) := by decide +kernel
theorem dX12_text_159 : decode cX12_text 159 = .ok (.iastore, 1) := by decide +kernel
theorem dX12_text_160 : decode cX12_text 160 = .ok (.iinc 1 1, 3) := by decide +kernel
theorem dX12_text_163 : decode cX12_text 163 = .ok (.goto (-61), 3) := by decide +kernel
theorem dX12_text_166 : decode cX12_text 166 = .ok (.iconst 0, 1) := by decide +kernel
theorem dX12_text_167 : decode cX12_text 167 = .ok (.istore_n 1, 1) := by decide +kernel
theorem dX12_text_168 : decode cX12_text 168 = .ok (.iload_n 1, 1) := by decide +kernel
theorem dX12_text_169 : decode cX12_text 169 = .ok (.iconst 3, 1) := by decide +kernel
theorem dX12_text_170 : decode cX12_text 170 = .ok (.if_icmp .ge 31, 3) := by decide +kernel
theorem dX12_text_173 : decode cX12_text 173 = .ok (.aload_n 0, 1) := by decide +kernel
theorem dX12_text_174 : decode cX12_text 174 = .ok (.getfield 58, 3) := by decide +kernel
theorem dX12_text_177 : decode cX12_text 177 = .ok (.iconst 3, 1) := by decide +kernel
theorem dX12_text_178 : decode cX12_text 178 = .ok (.aload_n 0, 1) := by decide +kernel
theorem dX12_text_179 : decode cX12_text 179 = .ok (.getfield 48, 3) := by decide +kernel
theorem dX12_text_182 : decode cX12_text 182 = .ok (.imul, 1) := by decide +kernel
theorem dX12_text_183 : decode cX12_text 183 = .ok (.iload_n 1, 1) := by decide +kernel
theorem dX12_text_184 : decode cX12_text 184 = .ok (.iadd, 1) := by decide +kernel
theorem dX12_text_185 : decode cX12_text 185 = .ok (.aload_n 0, 1) := by decide +kernel
theorem dX12_text_186 : decode cX12_text 186 = .ok (.getfield 58, 3) := by decide +kernel
theorem dX12_text_189 : decode cX12_text 189 = .ok (.bipush 18, 2) := by decide +kernel
theorem dX12_text_191 : decode cX12_text 191 = .ok (.iload_n 1, 1) := by decide +kernel
theorem dX12_text_192 : decode cX12_text 192 = .ok (.iadd, 1) := by decide +kernel
theorem dX12_text_193 : decode cX12_text 193 = .ok (.iaload, 1) := by decide +kernel
theorem dX12_text_194 : decode cX12_text 194 = .ok (.iastore, 1) := by decide +kernel
theorem dX12_text_195 : decode cX12_text 195 = .ok (.iinc 1 1, 3) := by decide +kernel
theorem dX12_text_198 : decode cX12_text 198 = .ok (.goto (-30), 3) := by decide +kernel
theorem dX12_text_201 : decode cX12_text 201 = .ok (.aload_n 0, 1) := by decide +kernel
theorem dX12_text_202 : decode cX12_text 202 = .ok (.dup, 1) := by decide +kernel
theorem dX12_text_203 : decode cX12_text 203 = .ok (.getfield 48, 3) := by decide +kernel
theorem dX12_text_206 : decode cX12_text 206 = .ok (.iconst 1, 1) := by decide +kernel
theorem dX12_text_207 : decode cX12_text 207 = .ok (.iadd, 1) := by decide +kernel
theorem dX12_text_208 : decode cX12_text 208 = .ok (.putfield 48, 3) := by decide +kernel
theorem dX12_text_211 : decode cX12_text 211 = .ok (.aload_n 0, 1) := by decide +kernel
theorem dX12_text_212 : decode cX12_text 212 = .ok (.getfield 48, 3) := by decide +kernel
theorem dX12_text_215 : decode cX12_text 215 = .ok (.iconst 1, 1) := by decide +kernel
theorem dX12_text_216 : decode cX12_text 216 = .ok (.isub, 1) := by decide +kernel
theorem dX12_text_217 : decode cX12_text 217 = .ok (.ireturn, 1) := by decide +kernel
theorem dX12_force_0 : decode cX12_force 0 = .ok (.iload_n 1, 1) := by decide +kernel
theorem dX12_force_1 : decode cX12_force 1 = .ok (.iconst 0, 1) := by decide +kernel
theorem dX12_force_2 : decode cX12_force 2 = .ok (.aload_n 0, 1) := by decide +kernel
theorem dX12_force_3 : decode cX12_force 3 = .ok (.getfield 48, 3) := by decide +kernel
theorem dX12_force_6 : decode cX12_force 6 = .ok (.iconst 1, 1) := by decide +kernel
theorem dX12_force_7 : decode cX12_force 7 = .ok (.isub, 1) := by decide +kernel
theorem dX12_force_8 : decode cX12_force 8 = .ok (.invokestatic 109, 3) := by decide +kernel
theorem dX12_force_11 : decode cX12_force 11 = .ok (.ifCond .ne 6, 3) := by decide +kernel
theorem dX12_force_14 : decode cX12_force 14 = .ok (.bipush (-2), 2) := by decide +kernel
theorem dX12_force_16 : decode cX12_force 16 = .ok (.ireturn, 1) := by decide +kernel
theorem dX12_force_17 : decode cX12_force 17 = .ok (.aload_n 0, 1) := by decide +kernel
theorem dX12_force_18 : decode cX12_force 18 = .ok (.getfield 229, 3) := by decide +kernel
theorem dX12_force_21 : decode cX12_force 21 = .ok (.istore_n 2, 1) := by decide +kernel
theorem dX12_force_22 : decode cX12_force 22 = .ok (.aload_n 0, 1) := by decide +kernel
theorem dX12_force_23 : decode cX12_force 23 = .ok (.iload_n 1, 1) := by decide +kernel
theorem dX12_force_24 : decode cX12_force 24 = .ok (.putfield 229, 3) := by decide +kernel
theorem dX12_force_27 : decode cX12_force 27 = .ok (.iload_n 2, 1) := by decide +kernel
theorem dX12_force_28 : decode cX12_force 28 = .ok (.ireturn, 1) := by decide +kernel
theorem dX12_twoOf_0 : decode cX12_twoOf 0 = .ok (.iload_n 0, 1) := by decide +kernel
theorem dX12_twoOf_1 : decode cX12_twoOf 1 = .ok (.lookupswitch 117 #[(5, 59), (6, 73), (43, 109), (45, 113), (60, 87), (61, 98)], 59) := by decide +kernel
theorem dX12_twoOf_60 : decode cX12_twoOf 60 = .ok (.iload_n 1, 1) := by decide +kernel
theorem dX12_twoOf_61 : decode cX12_twoOf 61 = .ok (.ifCond .ne 7, 3) := by decide +kernel
theorem dX12_twoOf_64 : decode cX12_twoOf 64 = .ok (.iload_n 2, 1) := by decide +kernel
theorem dX12_twoOf_65 : decode cX12_twoOf 65 = .ok (.ifCond .eq 7, 3) := by decide +kernel
theorem dX12_twoOf_68 : decode cX12_twoOf 68 = .ok (.iconst 1, 1) := by decide +kernel
theorem dX12_twoOf_69 : decode cX12_twoOf 69 = .ok (.goto 4, 3) := by decide +kernel
theorem dX12_twoOf_72 : decode cX12_twoOf 72 = .ok (.iconst 0, 1) := by decide +kernel
theorem dX12_twoOf_73 : decode cX12_twoOf 73 = .ok (.ireturn, 1) := by decide +kernel
theorem dX12_twoOf_74 : decode cX12_twoOf 74 = .ok (.iload_n 1, 1) := by decide +kernel
theorem dX12_twoOf_75 : decode cX12_twoOf 75 = .ok (.ifCond .eq 11, 3) := by decide +kernel
theorem dX12_twoOf_78 : decode cX12_twoOf 78 = .ok (.iload_n 2, 1) := by decide +kernel
theorem dX12_twoOf_79 : decode cX12_twoOf 79 = .ok (.ifCond .eq 7, 3) := by decide +kernel
theorem dX12_twoOf_82 : decode cX12_twoOf 82 = .ok (.iconst 1, 1) := by decide +kernel
theorem dX12_twoOf_83 : decode cX12_twoOf 83 = .ok (.goto 4, 3) := by decide +kernel
theorem dX12_twoOf_86 : decode cX12_twoOf 86 = .ok (.iconst 0, 1) := by decide +kernel
theorem dX12_twoOf_87 : decode cX12_twoOf 87 = .ok (.ireturn, 1) := by decide +kernel
theorem dX12_twoOf_88 : decode cX12_twoOf 88 = .ok (.iload_n 1, 1) := by decide +kernel
theorem dX12_twoOf_89 : decode cX12_twoOf 89 = .ok (.iload_n 2, 1) := by decide +kernel
theorem dX12_twoOf_90 : decode cX12_twoOf 90 = .ok (.if_icmp .ge 7, 3) := by decide +kernel
theorem dX12_twoOf_93 : decode cX12_twoOf 93 = .ok (.iconst 1, 1) := by decide +kernel
theorem dX12_twoOf_94 : decode cX12_twoOf 94 = .ok (.goto 4, 3) := by decide +kernel
theorem dX12_twoOf_97 : decode cX12_twoOf 97 = .ok (.iconst 0, 1) := by decide +kernel
theorem dX12_twoOf_98 : decode cX12_twoOf 98 = .ok (.ireturn, 1) := by decide +kernel
theorem dX12_twoOf_99 : decode cX12_twoOf 99 = .ok (.iload_n 1, 1) := by decide +kernel
theorem dX12_twoOf_100 : decode cX12_twoOf 100 = .ok (.iload_n 2, 1) := by decide +kernel
theorem dX12_twoOf_101 : decode cX12_twoOf 101 = .ok (.if_icmp .ne 7, 3) := by decide +kernel
theorem dX12_twoOf_104 : decode cX12_twoOf 104 = .ok (.iconst 1, 1) := by decide +kernel
theorem dX12_twoOf_105 : decode cX12_twoOf 105 = .ok (.goto 4, 3) := by decide +kernel
theorem dX12_twoOf_108 : decode cX12_twoOf 108 = .ok (.iconst 0, 1) := by decide +kernel
theorem dX12_twoOf_109 : decode cX12_twoOf 109 = .ok (.ireturn, 1) := by decide +kernel
theorem dX12_twoOf_110 : decode cX12_twoOf 110 = .ok (.iload_n 1, 1) := by decide +kernel
theorem dX12_twoOf_111 : decode cX12_twoOf 111 = .ok (.iload_n 2, 1) := by decide +kernel
theorem dX12_twoOf_112 : decode cX12_twoOf 112 = .ok (.iadd, 1) := by decide +kernel
theorem dX12_twoOf_113 : decode cX12_twoOf 113 = .ok (.ireturn, 1) := by decide +kernel
theorem dX12_twoOf_114 : decode cX12_twoOf 114 = .ok (.iload_n 1, 1) := by decide +kernel
theorem dX12_twoOf_115 : decode cX12_twoOf 115 = .ok (.iload_n 2, 1) := by decide +kernel
theorem dX12_twoOf_116 : decode cX12_twoOf 116 = .ok (.isub, 1) := by decide +kernel
theorem dX12_twoOf_117 : decode cX12_twoOf 117 = .ok (.ireturn, 1) := by decide +kernel
theorem dX12_twoOf_118 : decode cX12_twoOf 118 = .ok (.iload_n 1, 1) := by decide +kernel
theorem dX12_twoOf_119 : decode cX12_twoOf 119 = .ok (.iload_n 2, 1) := by decide +kernel
theorem dX12_twoOf_120 : decode cX12_twoOf 120 = .ok (.imul, 1) := by decide +kernel
theorem dX12_twoOf_121 : decode cX12_twoOf 121 = .ok (.ireturn, 1) := by decide +kernel
theorem dX12_gives_0 : decode cX12_gives 0 = .ok (.aload_n 0, 1) := by decide +kernel
theorem dX12_gives_1 : decode cX12_gives 1 = .ok (.getfield 229, 3) := by decide +kernel
theorem dX12_gives_4 : decode cX12_gives 4 = .ok (.ifCond .ne 32, 3) := by decide +kernel
theorem dX12_gives_7 : decode cX12_gives 7 = .ok (.iload_n 1, 1) := by decide +kernel
theorem dX12_gives_8 : decode cX12_gives 8 = .ok (.ifCond .ne 7, 3) := by decide +kernel
theorem dX12_gives_11 : decode cX12_gives 11 = .ok (.iconst 0, 1) := by decide +kernel
theorem dX12_gives_12 : decode cX12_gives 12 = .ok (.goto 23, 3) := by decide +kernel
theorem dX12_gives_15 : decode cX12_gives 15 = .ok (.iload_n 1, 1) := by decide +kernel
theorem dX12_gives_16 : decode cX12_gives 16 = .ok (.iconst 1, 1) := by decide +kernel
theorem dX12_gives_17 : decode cX12_gives 17 = .ok (.if_icmp .ne 12, 3) := by decide +kernel
theorem dX12_gives_20 : decode cX12_gives 20 = .ok (.aload_n 0, 1) := by decide +kernel
theorem dX12_gives_21 : decode cX12_gives 21 = .ok (.getfield 64, 3) := by decide +kernel
theorem dX12_gives_24 : decode cX12_gives 24 = .ok (.iconst 1, 1) := by decide +kernel
theorem dX12_gives_25 : decode cX12_gives 25 = .ok (.iaload, 1) := by decide +kernel
theorem dX12_gives_26 : decode cX12_gives 26 = .ok (.goto 9, 3) := by decide +kernel
theorem dX12_gives_29 : decode cX12_gives 29 = .ok (.aload_n 0, 1) := by decide +kernel
theorem dX12_gives_30 : decode cX12_gives 30 = .ok (.getfield 64, 3) := by decide +kernel
theorem dX12_gives_33 : decode cX12_gives 33 = .ok (.iconst 2, 1) := by decide +kernel
theorem dX12_gives_34 : decode cX12_gives 34 = .ok (.iaload, 1) := by decide +kernel
theorem dX12_gives_35 : decode cX12_gives 35 = .ok (.ireturn, 1) := by decide +kernel
theorem dX12_gives_36 : decode cX12_gives 36 = .ok (.iconst 0, 1) := by decide +kernel
theorem dX12_gives_37 : decode cX12_gives 37 = .ok (.istore_n 2, 1) := by decide +kernel
theorem dX12_gives_38 : decode cX12_gives 38 = .ok (.iload_n 1, 1) := by decide +kernel
theorem dX12_gives_39 : decode cX12_gives 39 = .ok (.ifCond .ne 7, 3) := by decide +kernel
theorem dX12_gives_42 : decode cX12_gives 42 = .ok (.iconst 0, 1) := by decide +kernel
theorem dX12_gives_43 : decode cX12_gives 43 = .ok (.goto 18, 3) := by decide +kernel
theorem dX12_gives_46 : decode cX12_gives 46 = .ok (.aload_n 0, 1) := by decide +kernel
theorem dX12_gives_47 : decode cX12_gives 47 = .ok (.getfield 58, 3) := by decide +kernel
theorem dX12_gives_50 : decode cX12_gives 50 = .ok (.iconst 3, 1) := by decide +kernel
theorem dX12_gives_51 : decode cX12_gives 51 = .ok (.aload_n 0, 1) := by decide +kernel
theorem dX12_gives_52 : decode cX12_gives 52 = .ok (.getfield 229, 3) := by decide +kernel
theorem dX12_gives_55 : decode cX12_gives 55 = .ok (.imul, 1) := by decide +kernel
theorem dX12_gives_56 : decode cX12_gives 56 = .ok (.iload_n 1, 1) := by decide +kernel
theorem dX12_gives_57 : decode cX12_gives 57 = .ok (.iadd, 1) := by decide +kernel
theorem dX12_gives_58 : decode cX12_gives 58 = .ok (.iconst 1, 1) := by decide +kernel
theorem dX12_gives_59 : decode cX12_gives 59 = .ok (.isub, 1) := by decide +kernel
theorem dX12_gives_60 : decode cX12_gives 60 = .ok (.iaload, 1) := by decide +kernel
theorem dX12_gives_61 : decode cX12_gives 61 = .ok (.istore_n 3, 1) := by decide +kernel
theorem dX12_gives_62 : decode cX12_gives 62 = .ok (.sipush 170, 3) := by decide +kernel
theorem dX12_gives_65 : decode cX12_gives 65 = .ok (.aload_n 0, 1) := by decide +kernel
theorem dX12_gives_66 : decode cX12_gives 66 = .ok (.getfield 229, 3) := by decide +kernel
theorem dX12_gives_69 : decode cX12_gives 69 = .ok (.imul, 1) := by decide +kernel
theorem dX12_gives_70 : decode cX12_gives 70 = .ok (.iload_n 3, 1) := by decide +kernel
theorem dX12_gives_71 : decode cX12_gives 71 = .ok (.iadd, 1) := by decide +kernel
theorem dX12_gives_72 : decode cX12_gives 72 = .ok (.istore 4, 2) := by decide +kernel
theorem dX12_gives_74 : decode cX12_gives 74 = .ok (.iload 4, 2) := by decide +kernel
theorem dX12_gives_76 : decode cX12_gives 76 = .ok (.sipush 170, 3) := by decide +kernel
theorem dX12_gives_79 : decode cX12_gives 79 = .ok (.aload_n 0, 1) := by decide +kernel
theorem dX12_gives_80 : decode cX12_gives 80 = .ok (.getfield 229, 3) := by decide +kernel
theorem dX12_gives_83 : decode cX12_gives 83 = .ok (.imul, 1) := by decide +kernel
theorem dX12_gives_84 : decode cX12_gives 84 = .ok (.aload_n 0, 1) := by decide +kernel
theorem dX12_gives_85 : decode cX12_gives 85 = .ok (.getfield 58, 3) := by decide +kernel
theorem dX12_gives_88 : decode cX12_gives 88 = .ok (.iconst 3, 1) := by decide +kernel
theorem dX12_gives_89 : decode cX12_gives 89 = .ok (.aload_n 0, 1) := by decide +kernel
theorem dX12_gives_90 : decode cX12_gives 90 = .ok (.getfield 229, 3) := by decide +kernel
theorem dX12_gives_93 : decode cX12_gives 93 = .ok (.imul, 1) := by decide +kernel
theorem dX12_gives_94 : decode cX12_gives 94 = .ok (.iload_n 1, 1) := by decide +kernel
theorem dX12_gives_95 : decode cX12_gives 95 = .ok (.iadd, 1) := by decide +kernel
theorem dX12_gives_96 : decode cX12_gives 96 = .ok (.iaload, 1) := by decide +kernel
theorem dX12_gives_97 : decode cX12_gives 97 = .ok (.iadd, 1) := by decide +kernel
theorem dX12_gives_98 : decode cX12_gives 98 = .ok (.if_icmp .ge 175, 3) := by decide +kernel
theorem dX12_gives_101 : decode cX12_gives 101 = .ok (.aload_n 0, 1) := by decide +kernel
theorem dX12_gives_102 : decode cX12_gives 102 = .ok (.getfield 52, 3) := by decide +kernel
theorem dX12_gives_105 : decode cX12_gives 105 = .ok (.iload 4, 2) := by decide +kernel
theorem dX12_gives_107 : decode cX12_gives 107 = .ok (.iaload, 1) := by decide +kernel
theorem dX12_gives_108 : decode cX12_gives 108 = .ok (.tableswitch 122 1 4 #[32, 51, 75, 102], 32) := by decide +kernel
theorem dX12_gives_140 : decode cX12_gives 140 = .ok (.aload_n 0, 1) := by decide +kernel
theorem dX12_gives_141 : decode cX12_gives 141 = .ok (.getfield 61, 3) := by decide +kernel
theorem dX12_gives_144 : decode cX12_gives 144 = .ok (.iload_n 2, 1) := by decide +kernel
theorem dX12_gives_145 : decode cX12_gives 145 = .ok (.aload_n 0, 1) := by decide +kernel
theorem dX12_gives_146 : decode cX12_gives 146 = .ok (.getfield 55, 3) := by decide +kernel
theorem dX12_gives_149 : decode cX12_gives 149 = .ok (.iload 4, 2) := by decide +kernel
theorem dX12_gives_151 : decode cX12_gives 151 = .ok (.iaload, 1) := by decide +kernel
theorem dX12_gives_152 : decode cX12_gives 152 = .ok (.iastore, 1) := by decide +kernel
theorem dX12_gives_153 : decode cX12_gives 153 = .ok (.iinc 2 1, 3) := by decide +kernel
theorem dX12_gives_156 : decode cX12_gives 156 = .ok (.goto 111, 3) := by decide +kernel
theorem dX12_gives_159 : decode cX12_gives 159 = .ok (.aload_n 0, 1) := by decide +kernel
theorem dX12_gives_160 : decode cX12_gives 160 = .ok (.getfield 61, 3) := by decide +kernel
theorem dX12_gives_163 : decode cX12_gives 163 = .ok (.iload_n 2, 1) := by decide +kernel
theorem dX12_gives_164 : decode cX12_gives 164 = .ok (.aload_n 0, 1) := by decide +kernel
theorem dX12_gives_165 : decode cX12_gives 165 = .ok (.getfield 64, 3) := by decide +kernel
theorem dX12_gives_168 : decode cX12_gives 168 = .ok (.aload_n 0, 1) := by decide +kernel
theorem dX12_gives_169 : decode cX12_gives 169 = .ok (.getfield 55, 3) := by decide +kernel
theorem dX12_gives_172 : decode cX12_gives 172 = .ok (.iload 4, 2) := by decide +kernel
theorem dX12_gives_174 : decode cX12_gives 174 = .ok (.iaload, 1) := by decide +kernel
theorem dX12_gives_175 : decode cX12_gives 175 = .ok (.iaload, 1) := by decide +kernel
theorem dX12_gives_176 : decode cX12_gives 176 = .ok (.iastore, 1) := by decide +kernel
theorem dX12_gives_177 : decode cX12_gives 177 = .ok (.iinc 2 1, 3) := by decide +kernel
theorem dX12_gives_180 : decode cX12_gives 180 = .ok (.goto 87, 3) := by decide +kernel
theorem dX12_gives_183 : decode cX12_gives 183 = .ok (.aload_n 0, 1) := by decide +kernel
theorem dX12_gives_184 : decode cX12_gives 184 = .ok (.getfield 61, 3) := by decide +kernel
theorem dX12_gives_187 : decode cX12_gives 187 = .ok (.iload_n 2, 1) := by decide +kernel
theorem dX12_gives_188 : decode cX12_gives 188 = .ok (.iconst 1, 1) := by decide +kernel
theorem dX12_gives_189 : decode cX12_gives 189 = .ok (.isub, 1) := by decide +kernel
theorem dX12_gives_190 : decode cX12_gives 190 = .ok (.aload_n 0, 1) := by decide +kernel
theorem dX12_gives_191 : decode cX12_gives 191 = .ok (.getfield 61, 3) := by decide +kernel
theorem dX12_gives_194 : decode cX12_gives 194 = .ok (.iload_n 2, 1) := by decide +kernel
theorem dX12_gives_195 : decode cX12_gives 195 = .ok (.iconst 1, 1) := by decide +kernel
theorem dX12_gives_196 : decode cX12_gives 196 = .ok (.isub, 1) := by decide +kernel
theorem dX12_gives_197 : decode cX12_gives 197 = .ok (.iaload, 1) := by decide +kernel
theorem dX12_gives_198 : decode cX12_gives 198 = .ok (.ifCond .ne 7, 3) := by decide +kernel
theorem dX12_gives_201 : decode cX12_gives 201 = .ok (.iconst 1, 1) := by decide +kernel
theorem dX12_gives_202 : decode cX12_gives 202 = .ok (.goto 4, 3) := by decide +kernel
theorem dX12_gives_205 : decode cX12_gives 205 = .ok (.iconst 0, 1) := by decide +kernel
theorem dX12_gives_206 : decode cX12_gives 206 = .ok (.iastore, 1) := by decide +kernel
theorem dX12_gives_207 : decode cX12_gives 207 = .ok (.goto 60, 3) := by decide +kernel
theorem dX12_gives_210 : decode cX12_gives 210 = .ok (.aload_n 0, 1) := by decide +kernel
theorem dX12_gives_211 : decode cX12_gives 211 = .ok (.getfield 61, 3) := by decide +kernel
theorem dX12_gives_214 : decode cX12_gives 214 = .ok (.iload_n 2, 1) := by decide +kernel
theorem dX12_gives_215 : decode cX12_gives 215 = .ok (.iconst 1, 1) := by decide +kernel
theorem dX12_gives_216 : decode cX12_gives 216 = .ok (.isub, 1) := by decide +kernel
theorem dX12_gives_217 : decode cX12_gives 217 = .ok (.aload_n 0, 1) := by decide +kernel
theorem dX12_gives_218 : decode cX12_gives 218 = .ok (.getfield 61, 3) := by decide +kernel
theorem dX12_gives_221 : decode cX12_gives 221 = .ok (.iload_n 2, 1) := by decide +kernel
theorem dX12_gives_222 : decode cX12_gives 222 = .ok (.iconst 1, 1) := by decide +kernel
theorem dX12_gives_223 : decode cX12_gives 223 = .ok (.isub, 1) := by decide +kernel
theorem dX12_gives_224 : decode cX12_gives 224 = .ok (.iaload, 1) := by decide +kernel
theorem dX12_gives_225 : decode cX12_gives 225 = .ok (.ineg, 1) := by decide +kernel
theorem dX12_gives_226 : decode cX12_gives 226 = .ok (.iastore, 1) := by decide +kernel
theorem dX12_gives_227 : decode cX12_gives 227 = .ok (.goto 40, 3) := by decide +kernel
theorem dX12_gives_230 : decode cX12_gives 230 = .ok (.aload_n 0, 1) := by decide +kernel
theorem dX12_gives_231 : decode cX12_gives 231 = .ok (.getfield 61, 3) := by decide +kernel
theorem dX12_gives_234 : decode cX12_gives 234 = .ok (.iload_n 2, 1) := by decide +kernel
theorem dX12_gives_235 : decode cX12_gives 235 = .ok (.iconst 2, 1) := by decide +kernel
theorem dX12_gives_236 : decode cX12_gives 236 = .ok (.isub, 1) := by decide +kernel
theorem dX12_gives_237 : decode cX12_gives 237 = .ok (.aload_n 0, 1) := by decide +kernel
theorem dX12_gives_238 : decode cX12_gives 238 = .ok (.getfield 52, 3) := by decide +kernel
theorem dX12_gives_241 : decode cX12_gives 241 = .ok (.iload 4, 2) := by decide +kernel
theorem dX12_gives_243 : decode cX12_gives 243 = .ok (.iaload, 1) := by decide +kernel
theorem dX12_gives_244 : decode cX12_gives 244 = .ok (.aload_n 0, 1) := by decide +kernel
theorem dX12_gives_245 : decode cX12_gives 245 = .ok (.getfield 61, 3) := by decide +kernel
theorem dX12_gives_248 : decode cX12_gives 248 = .ok (.iload_n 2, 1) := by decide +kernel
theorem dX12_gives_249 : decode cX12_gives 249 = .ok (.iconst 2, 1) := by decide +kernel
theorem dX12_gives_250 : decode cX12_gives 250 = .ok (.isub, 1) := by decide +kernel
theorem dX12_gives_251 : decode cX12_gives 251 = .ok (.iaload, 1) := by decide +kernel
theorem dX12_gives_252 : decode cX12_gives 252 = .ok (.aload_n 0, 1) := by decide +kernel
theorem dX12_gives_253 : decode cX12_gives 253 = .ok (.getfield 61, 3) := by decide +kernel
theorem dX12_gives_256 : decode cX12_gives 256 = .ok (.iload_n 2, 1) := by decide +kernel
theorem dX12_gives_257 : decode cX12_gives 257 = .ok (.iconst 1, 1) := by decide +kernel
theorem dX12_gives_258 : decode cX12_gives 258 = .ok (.isub, 1) := by decide +kernel
theorem dX12_gives_259 : decode cX12_gives 259 = .ok (.iaload, 1) := by decide +kernel
theorem dX12_gives_260 : decode cX12_gives 260 = .ok (.invokestatic 232, 3) := by decide +kernel
theorem dX12_gives_263 : decode cX12_gives 263 = .ok (.iastore, 1) := by decide +kernel
theorem dX12_gives_264 : decode cX12_gives 264 = .ok (.iinc 2 (-1), 3) := by decide +kernel
theorem dX12_gives_267 : decode cX12_gives 267 = .ok (.iinc 4 1, 3) := by decide +kernel
theorem dX12_gives_270 : decode cX12_gives 270 = .ok (.goto (-196), 3) := by decide +kernel
theorem dX12_gives_273 : decode cX12_gives 273 = .ok (.aload_n 0, 1) := by decide +kernel
theorem dX12_gives_274 : decode cX12_gives 274 = .ok (.getfield 61, 3) := by decide +kernel
theorem dX12_gives_277 : decode cX12_gives 277 = .ok (.iconst 0, 1) := by decide +kernel
theorem dX12_gives_278 : decode cX12_gives 278 = .ok (.iaload, 1) := by decide +kernel
theorem dX12_gives_279 : decode cX12_gives 279 = .ok (.ireturn, 1) := by decide +kernel
theorem dX12_findFacts_0 : decode cX12_findFacts 0 = .ok (.aload_n 0, 1) := by decide +kernel
theorem dX12_findFacts_1 : decode cX12_findFacts 1 = .ok (.getfield 64, 3) := by decide +kernel
theorem dX12_findFacts_4 : decode cX12_findFacts 4 = .ok (.iconst 0, 1) := by decide +kernel
theorem dX12_findFacts_5 : decode cX12_findFacts 5 = .ok (.iload_n 1, 1) := by decide +kernel
theorem dX12_findFacts_6 : decode cX12_findFacts 6 = .ok (.iastore, 1) := by decide +kernel
theorem dX12_findFacts_7 : decode cX12_findFacts 7 = .ok (.aload_n 0, 1) := by decide +kernel
theorem dX12_findFacts_8 : decode cX12_findFacts 8 = .ok (.getfield 64, 3) := by decide +kernel
theorem dX12_findFacts_11 : decode cX12_findFacts 11 = .ok (.iconst 1, 1) := by decide +kernel
theorem dX12_findFacts_12 : decode cX12_findFacts 12 = .ok (.iload_n 2, 1) := by decide +kernel
theorem dX12_findFacts_13 : decode cX12_findFacts 13 = .ok (.iastore, 1) := by decide +kernel
theorem dX12_findFacts_14 : decode cX12_findFacts 14 = .ok (.aload_n 0, 1) := by decide +kernel
theorem dX12_findFacts_15 : decode cX12_findFacts 15 = .ok (.getfield 64, 3) := by decide +kernel
theorem dX12_findFacts_18 : decode cX12_findFacts 18 = .ok (.iconst 2, 1) := by decide +kernel
theorem dX12_findFacts_19 : decode cX12_findFacts 19 = .ok (.iload_n 3, 1) := by decide +kernel
theorem dX12_findFacts_20 : decode cX12_findFacts 20 = .ok (.iastore, 1) := by decide +kernel
theorem dX12_findFacts_21 : decode cX12_findFacts 21 = .ok (.aload_n 0, 1) := by decide +kernel
theorem dX12_findFacts_22 : decode cX12_findFacts 22 = .ok (.getfield 64, 3) := by decide +kernel
theorem dX12_findFacts_25 : decode cX12_findFacts 25 = .ok (.iconst 3, 1) := by decide +kernel
theorem dX12_findFacts_26 : decode cX12_findFacts 26 = .ok (.iload 4, 2) := by decide +kernel
theorem dX12_findFacts_28 : decode cX12_findFacts 28 = .ok (.iastore, 1) := by decide +kernel
theorem dX12_findFacts_29 : decode cX12_findFacts 29 = .ok (.aload_n 0, 1) := by decide +kernel
theorem dX12_findFacts_30 : decode cX12_findFacts 30 = .ok (.getfield 64, 3) := by decide +kernel
theorem dX12_findFacts_33 : decode cX12_findFacts 33 = .ok (.iconst 4, 1) := by decide +kernel
theorem dX12_findFacts_34 : decode cX12_findFacts 34 = .ok (.iload 5, 2) := by decide +kernel
theorem dX12_findFacts_36 : decode cX12_findFacts 36 = .ok (.iastore, 1) := by decide +kernel
theorem dX12_findFacts_37 : decode cX12_findFacts 37 = .ok (.aload_n 0, 1) := by decide +kernel
theorem dX12_findFacts_38 : decode cX12_findFacts 38 = .ok (.getfield 64, 3) := by decide +kernel
theorem dX12_findFacts_41 : decode cX12_findFacts 41 = .ok (.iconst 5, 1) := by decide +kernel
theorem dX12_findFacts_42 : decode cX12_findFacts 42 = .ok (.iload 6, 2) := by decide +kernel
theorem dX12_findFacts_44 : decode cX12_findFacts 44 = .ok (.iastore, 1) := by decide +kernel
theorem dX12_findFacts_45 : decode cX12_findFacts 45 = .ok (.return_, 1) := by decide +kernel
theorem dX12_bear_0 : decode cX12_bear 0 = .ok (.aload_n 0, 1) := by decide +kernel
theorem dX12_bear_1 : decode cX12_bear 1 = .ok (.aload_n 0, 1) := by decide +kernel
theorem dX12_bear_2 : decode cX12_bear 2 = .ok (.iload_n 1, 1) := by decide +kernel
theorem dX12_bear_3 : decode cX12_bear 3 = .ok (.iload_n 2, 1) := by decide +kernel
theorem dX12_bear_4 : decode cX12_bear 4 = .ok (.invokestatic 236, 3) := by decide +kernel
theorem dX12_bear_7 : decode cX12_bear 7 = .ok (.invokevirtual 124, 3) := by decide +kernel
theorem dX12_bear_10 : decode cX12_bear 10 = .ok (.aload_n 0, 1) := by decide +kernel
theorem dX12_bear_11 : decode cX12_bear 11 = .ok (.iload_n 1, 1) := by decide +kernel
theorem dX12_bear_12 : decode cX12_bear 12 = .ok (.iload_n 2, 1) := by decide +kernel
theorem dX12_bear_13 : decode cX12_bear 13 = .ok (.invokestatic 239, 3) := by decide +kernel
theorem dX12_bear_16 : decode cX12_bear 16 = .ok (.invokevirtual 124, 3) := by decide +kernel
theorem dX12_bear_19 : decode cX12_bear 19 = .ok (.iadd, 1) := by decide +kernel
theorem dX12_bear_20 : decode cX12_bear 20 = .ok (.aload_n 0, 1) := by decide +kernel
theorem dX12_bear_21 : decode cX12_bear 21 = .ok (.iload_n 1, 1) := by decide +kernel
theorem dX12_bear_22 : decode cX12_bear 22 = .ok (.iload_n 2, 1) := by decide +kernel
theorem dX12_bear_23 : decode cX12_bear 23 = .ok (.invokevirtual 130, 3) := by decide +kernel
theorem dX12_bear_26 : decode cX12_bear 26 = .ok (.aload_n 0, 1) := by decide +kernel
theorem dX12_bear_27 : decode cX12_bear 27 = .ok (.getfield 25, 3) := by decide +kernel
theorem dX12_bear_30 : decode cX12_bear 30 = .ok (.iload_n 1, 1) := by decide +kernel
theorem dX12_bear_31 : decode cX12_bear 31 = .ok (.iaload, 1) := by decide +kernel
theorem dX12_bear_32 : decode cX12_bear 32 = .ok (.aload_n 0, 1) := by decide +kernel
theorem dX12_bear_33 : decode cX12_bear 33 = .ok (.getfield 28, 3) := by decide +kernel
theorem dX12_bear_36 : decode cX12_bear 36 = .ok (.iload_n 1, 1) := by decide +kernel
theorem dX12_bear_37 : decode cX12_bear 37 = .ok (.iaload, 1) := by decide +kernel
theorem dX12_bear_38 : decode cX12_bear 38 = .ok (.iconst 0, 1) := by decide +kernel
theorem dX12_bear_39 : decode cX12_bear 39 = .ok (.iload_n 2, 1) := by decide +kernel
theorem dX12_bear_40 : decode cX12_bear 40 = .ok (.invokevirtual 242, 3) := by decide +kernel
theorem dX12_bear_43 : decode cX12_bear 43 = .ok (.aload_n 0, 1) := by decide +kernel
theorem dX12_bear_44 : decode cX12_bear 44 = .ok (.iconst 0, 1) := by decide +kernel
theorem dX12_bear_45 : decode cX12_bear 45 = .ok (.invokevirtual 246, 3) := by decide +kernel
theorem dX12_bear_48 : decode cX12_bear 48 = .ok (.bipush 99, 2) := by decide +kernel
theorem dX12_bear_50 : decode cX12_bear 50 = .ok (.invokestatic 120, 3) := by decide +kernel
theorem dX12_bear_53 : decode cX12_bear 53 = .ok (.ireturn, 1) := by decide +kernel
theorem dX12_keep_0 : decode cX12_keep 0 = .ok (.aload_n 0, 1) := by decide +kernel
theorem dX12_keep_1 : decode cX12_keep 1 = .ok (.aload_n 0, 1) := by decide +kernel
theorem dX12_keep_2 : decode cX12_keep 2 = .ok (.iload_n 1, 1) := by decide +kernel
theorem dX12_keep_3 : decode cX12_keep 3 = .ok (.invokevirtual 140, 3) := by decide +kernel
theorem dX12_keep_6 : decode cX12_keep 6 = .ok (.iconst 0, 1) := by decide +kernel
theorem dX12_keep_7 : decode cX12_keep 7 = .ok (.aload_n 0, 1) := by decide +kernel
theorem dX12_keep_8 : decode cX12_keep 8 = .ok (.getfield 25, 3) := by decide +kernel
theorem dX12_keep_11 : decode cX12_keep 11 = .ok (.iload_n 1, 1) := by decide +kernel
theorem dX12_keep_12 : decode cX12_keep 12 = .ok (.iaload, 1) := by decide +kernel
theorem dX12_keep_13 : decode cX12_keep 13 = .ok (.aload_n 0, 1) := by decide +kernel
theorem dX12_keep_14 : decode cX12_keep 14 = .ok (.getfield 28, 3) := by decide +kernel
theorem dX12_keep_17 : decode cX12_keep 17 = .ok (.iload_n 1, 1) := by decide +kernel
theorem dX12_keep_18 : decode cX12_keep 18 = .ok (.iaload, 1) := by decide +kernel
theorem dX12_keep_19 : decode cX12_keep 19 = .ok (.iconst 0, 1) := by decide +kernel
theorem dX12_keep_20 : decode cX12_keep 20 = .ok (.iconst 0, 1) := by decide +kernel
theorem dX12_keep_21 : decode cX12_keep 21 = .ok (.invokevirtual 242, 3) := by decide +kernel
theorem dX12_keep_24 : decode cX12_keep 24 = .ok (.aload_n 0, 1) := by decide +kernel
theorem dX12_keep_25 : decode cX12_keep 25 = .ok (.iconst 2, 1) := by decide +kernel
theorem dX12_keep_26 : decode cX12_keep 26 = .ok (.invokevirtual 246, 3) := by decide +kernel
theorem dX12_keep_29 : decode cX12_keep 29 = .ok (.bipush 99, 2) := by decide +kernel
theorem dX12_keep_31 : decode cX12_keep 31 = .ok (.invokestatic 120, 3) := by decide +kernel
theorem dX12_keep_34 : decode cX12_keep 34 = .ok (.ireturn, 1) := by decide +kernel
theorem dX12_seenOf_0 : decode cX12_seenOf 0 = .ok (.aload_n 0, 1) := by decide +kernel
theorem dX12_seenOf_1 : decode cX12_seenOf 1 = .ok (.iload_n 1, 1) := by decide +kernel
theorem dX12_seenOf_2 : decode cX12_seenOf 2 = .ok (.invokevirtual 146, 3) := by decide +kernel
theorem dX12_seenOf_5 : decode cX12_seenOf 5 = .ok (.aload_n 0, 1) := by decide +kernel
theorem dX12_seenOf_6 : decode cX12_seenOf 6 = .ok (.iload_n 2, 1) := by decide +kernel
theorem dX12_seenOf_7 : decode cX12_seenOf 7 = .ok (.invokevirtual 146, 3) := by decide +kernel
theorem dX12_seenOf_10 : decode cX12_seenOf 10 = .ok (.isub, 1) := by decide +kernel
theorem dX12_seenOf_11 : decode cX12_seenOf 11 = .ok (.istore_n 3, 1) := by decide +kernel
theorem dX12_seenOf_12 : decode cX12_seenOf 12 = .ok (.aload_n 0, 1) := by decide +kernel
theorem dX12_seenOf_13 : decode cX12_seenOf 13 = .ok (.aload_n 0, 1) := by decide +kernel
theorem dX12_seenOf_14 : decode cX12_seenOf 14 = .ok (.getfield 7, 3) := by decide +kernel
theorem dX12_seenOf_17 : decode cX12_seenOf 17 = .ok (.iload_n 1, 1) := by decide +kernel
theorem dX12_seenOf_18 : decode cX12_seenOf 18 = .ok (.iaload, 1) := by decide +kernel
theorem dX12_seenOf_19 : decode cX12_seenOf 19 = .ok (.aload_n 0, 1) := by decide +kernel
theorem dX12_seenOf_20 : decode cX12_seenOf 20 = .ok (.getfield 7, 3) := by decide +kernel
theorem dX12_seenOf_23 : decode cX12_seenOf 23 = .ok (.iload_n 2, 1) := by decide +kernel
theorem dX12_seenOf_24 : decode cX12_seenOf 24 = .ok (.iaload, 1) := by decide +kernel
theorem dX12_seenOf_25 : decode cX12_seenOf 25 = .ok (.iadd, 1) := by decide +kernel
theorem dX12_seenOf_26 : decode cX12_seenOf 26 = .ok (.iload_n 3, 1) := by decide +kernel
theorem dX12_seenOf_27 : decode cX12_seenOf 27 = .ok (.ifCond .ge 8, 3) := by decide +kernel
theorem dX12_seenOf_30 : decode cX12_seenOf 30 = .ok (.iload_n 3, 1) := by decide +kernel
theorem dX12_seenOf_31 : decode cX12_seenOf 31 = .ok (.ineg, 1) := by decide +kernel
theorem dX12_seenOf_32 : decode cX12_seenOf 32 = .ok (.goto 4, 3) := by decide +kernel
theorem dX12_seenOf_35 : decode cX12_seenOf 35 = .ok (.iload_n 3, 1) := by decide +kernel
theorem dX12_seenOf_36 : decode cX12_seenOf 36 = .ok (.iconst 0, 1) := by decide +kernel
theorem dX12_seenOf_37 : decode cX12_seenOf 37 = .ok (.iconst 0, 1) := by decide +kernel
theorem dX12_seenOf_38 : decode cX12_seenOf 38 = .ok (.aload_n 0, 1) := by decide +kernel
theorem dX12_seenOf_39 : decode cX12_seenOf 39 = .ok (.getfield 16, 3) := by decide +kernel
theorem dX12_seenOf_42 : decode cX12_seenOf 42 = .ok (.iload_n 1, 1) := by decide +kernel
theorem dX12_seenOf_43 : decode cX12_seenOf 43 = .ok (.iaload, 1) := by decide +kernel
theorem dX12_seenOf_44 : decode cX12_seenOf 44 = .ok (.aload_n 0, 1) := by decide +kernel
theorem dX12_seenOf_45 : decode cX12_seenOf 45 = .ok (.getfield 16, 3) := by decide +kernel
theorem dX12_seenOf_48 : decode cX12_seenOf 48 = .ok (.iload_n 2, 1) := by decide +kernel
theorem dX12_seenOf_49 : decode cX12_seenOf 49 = .ok (.iaload, 1) := by decide +kernel
theorem dX12_seenOf_50 : decode cX12_seenOf 50 = .ok (.if_icmp .ne 7, 3) := by decide +kernel
theorem dX12_seenOf_53 : decode cX12_seenOf 53 = .ok (.iconst 0, 1) := by decide +kernel
theorem dX12_seenOf_54 : decode cX12_seenOf 54 = .ok (.goto 4, 3) := by decide +kernel
theorem dX12_seenOf_57 : decode cX12_seenOf 57 = .ok (.iconst 1, 1) := by decide +kernel
theorem dX12_seenOf_58 : decode cX12_seenOf 58 = .ok (.aload_n 0, 1) := by decide +kernel
theorem dX12_seenOf_59 : decode cX12_seenOf 59 = .ok (.getfield 16, 3) := by decide +kernel
theorem dX12_seenOf_62 : decode cX12_seenOf 62 = .ok (.iload_n 1, 1) := by decide +kernel
theorem dX12_seenOf_63 : decode cX12_seenOf 63 = .ok (.iload_n 2, 1) := by decide +kernel
theorem dX12_seenOf_64 : decode cX12_seenOf 64 = .ok (.if_icmp .ge 7, 3) := by decide +kernel
theorem dX12_seenOf_67 : decode cX12_seenOf 67 = .ok (.iload_n 1, 1) := by decide +kernel
theorem dX12_seenOf_68 : decode cX12_seenOf 68 = .ok (.goto 4, 3) := by decide +kernel
theorem dX12_seenOf_71 : decode cX12_seenOf 71 = .ok (.iload_n 2, 1) := by decide +kernel
theorem dX12_seenOf_72 : decode cX12_seenOf 72 = .ok (.iaload, 1) := by decide +kernel
theorem dX12_seenOf_73 : decode cX12_seenOf 73 = .ok (.invokevirtual 242, 3) := by decide +kernel
theorem dX12_seenOf_76 : decode cX12_seenOf 76 = .ok (.aload_n 0, 1) := by decide +kernel
theorem dX12_seenOf_77 : decode cX12_seenOf 77 = .ok (.iconst 1, 1) := by decide +kernel
theorem dX12_seenOf_78 : decode cX12_seenOf 78 = .ok (.invokevirtual 246, 3) := by decide +kernel
theorem dX12_seenOf_81 : decode cX12_seenOf 81 = .ok (.sipush 999, 3) := by decide +kernel
theorem dX12_seenOf_84 : decode cX12_seenOf 84 = .ok (.invokestatic 120, 3) := by decide +kernel
theorem dX12_seenOf_87 : decode cX12_seenOf 87 = .ok (.ireturn, 1) := by decide +kernel
theorem dX12_seen_0 : decode cX12_seen 0 = .ok (.aload_n 0, 1) := by decide +kernel
theorem dX12_seen_1 : decode cX12_seen 1 = .ok (.iload_n 1, 1) := by decide +kernel
theorem dX12_seen_2 : decode cX12_seen 2 = .ok (.invokevirtual 116, 3) := by decide +kernel
theorem dX12_seen_5 : decode cX12_seen 5 = .ok (.ifCond .eq 25, 3) := by decide +kernel
theorem dX12_seen_8 : decode cX12_seen 8 = .ok (.aload_n 0, 1) := by decide +kernel
theorem dX12_seen_9 : decode cX12_seen 9 = .ok (.iload_n 2, 1) := by decide +kernel
theorem dX12_seen_10 : decode cX12_seen 10 = .ok (.invokevirtual 116, 3) := by decide +kernel
theorem dX12_seen_13 : decode cX12_seen 13 = .ok (.ifCond .eq 17, 3) := by decide +kernel
theorem dX12_seen_16 : decode cX12_seen 16 = .ok (.iload_n 1, 1) := by decide +kernel
theorem dX12_seen_17 : decode cX12_seen 17 = .ok (.iload_n 2, 1) := by decide +kernel
theorem dX12_seen_18 : decode cX12_seen 18 = .ok (.if_icmp .eq 12, 3) := by decide +kernel
theorem dX12_seen_21 : decode cX12_seen 21 = .ok (.aload_n 0, 1) := by decide +kernel
theorem dX12_seen_22 : decode cX12_seen 22 = .ok (.iload_n 1, 1) := by decide +kernel
theorem dX12_seen_23 : decode cX12_seen 23 = .ok (.iload_n 2, 1) := by decide +kernel
theorem dX12_seen_24 : decode cX12_seen 24 = .ok (.invokevirtual 249, 3) := by decide +kernel
theorem dX12_seen_27 : decode cX12_seen 27 = .ok (.goto 5, 3) := by decide +kernel
theorem dX12_seen_30 : decode cX12_seen 30 = .ok (.bipush (-5), 2) := by decide +kernel
theorem dX12_seen_32 : decode cX12_seen 32 = .ok (.ireturn, 1) := by decide +kernel
theorem dX12_doMeet_0 : decode cX12_doMeet 0 = .ok (.iload_n 3, 1) := by decide +kernel
theorem dX12_doMeet_1 : decode cX12_doMeet 1 = .ok (.iload 4, 2) := by decide +kernel
theorem dX12_doMeet_3 : decode cX12_doMeet 3 = .ok (.if_icmp .eq 26, 3) := by decide +kernel
theorem dX12_doMeet_6 : decode cX12_doMeet 6 = .ok (.aload_n 0, 1) := by decide +kernel
theorem dX12_doMeet_7 : decode cX12_doMeet 7 = .ok (.iload_n 3, 1) := by decide +kernel
theorem dX12_doMeet_8 : decode cX12_doMeet 8 = .ok (.iload 4, 2) := by decide +kernel
theorem dX12_doMeet_10 : decode cX12_doMeet 10 = .ok (.invokevirtual 249, 3) := by decide +kernel
theorem dX12_doMeet_13 : decode cX12_doMeet 13 = .ok (.aload_n 0, 1) := by decide +kernel
theorem dX12_doMeet_14 : decode cX12_doMeet 14 = .ok (.iload_n 1, 1) := by decide +kernel
theorem dX12_doMeet_15 : decode cX12_doMeet 15 = .ok (.iload_n 2, 1) := by decide +kernel
theorem dX12_doMeet_16 : decode cX12_doMeet 16 = .ok (.invokevirtual 130, 3) := by decide +kernel
theorem dX12_doMeet_19 : decode cX12_doMeet 19 = .ok (.aload_n 0, 1) := by decide +kernel
theorem dX12_doMeet_20 : decode cX12_doMeet 20 = .ok (.iload_n 1, 1) := by decide +kernel
theorem dX12_doMeet_21 : decode cX12_doMeet 21 = .ok (.iload_n 2, 1) := by decide +kernel
theorem dX12_doMeet_22 : decode cX12_doMeet 22 = .ok (.invokevirtual 133, 3) := by decide +kernel
theorem dX12_doMeet_25 : decode cX12_doMeet 25 = .ok (.iadd, 1) := by decide +kernel
theorem dX12_doMeet_26 : decode cX12_doMeet 26 = .ok (.if_icmp .gt 7, 3) := by decide +kernel
theorem dX12_doMeet_29 : decode cX12_doMeet 29 = .ok (.iconst 1, 1) := by decide +kernel
theorem dX12_doMeet_30 : decode cX12_doMeet 30 = .ok (.goto 4, 3) := by decide +kernel
theorem dX12_doMeet_33 : decode cX12_doMeet 33 = .ok (.iconst 0, 1) := by decide +kernel
theorem dX12_doMeet_34 : decode cX12_doMeet 34 = .ok (.ireturn, 1) := by decide +kernel
theorem dX12_mayMeet_0 : decode cX12_mayMeet 0 = .ok (.aload_n 0, 1) := by decide +kernel
theorem dX12_mayMeet_1 : decode cX12_mayMeet 1 = .ok (.iload_n 1, 1) := by decide +kernel
theorem dX12_mayMeet_2 : decode cX12_mayMeet 2 = .ok (.invokevirtual 127, 3) := by decide +kernel
theorem dX12_mayMeet_5 : decode cX12_mayMeet 5 = .ok (.ifCond .eq 38, 3) := by decide +kernel
theorem dX12_mayMeet_8 : decode cX12_mayMeet 8 = .ok (.iload_n 2, 1) := by decide +kernel
theorem dX12_mayMeet_9 : decode cX12_mayMeet 9 = .ok (.iconst 0, 1) := by decide +kernel
theorem dX12_mayMeet_10 : decode cX12_mayMeet 10 = .ok (.iconst 5, 1) := by decide +kernel
theorem dX12_mayMeet_11 : decode cX12_mayMeet 11 = .ok (.invokestatic 109, 3) := by decide +kernel
theorem dX12_mayMeet_14 : decode cX12_mayMeet 14 = .ok (.ifCond .eq 29, 3) := by decide +kernel
theorem dX12_mayMeet_17 : decode cX12_mayMeet 17 = .ok (.iload_n 3, 1) := by decide +kernel
theorem dX12_mayMeet_18 : decode cX12_mayMeet 18 = .ok (.ifCond .lt 25, 3) := by decide +kernel
theorem dX12_mayMeet_21 : decode cX12_mayMeet 21 = .ok (.aload_n 0, 1) := by decide +kernel
theorem dX12_mayMeet_22 : decode cX12_mayMeet 22 = .ok (.iload_n 3, 1) := by decide +kernel
theorem dX12_mayMeet_23 : decode cX12_mayMeet 23 = .ok (.bipush 100, 2) := by decide +kernel
theorem dX12_mayMeet_25 : decode cX12_mayMeet 25 = .ok (.idiv, 1) := by decide +kernel
theorem dX12_mayMeet_26 : decode cX12_mayMeet 26 = .ok (.invokevirtual 116, 3) := by decide +kernel
theorem dX12_mayMeet_29 : decode cX12_mayMeet 29 = .ok (.ifCond .eq 14, 3) := by decide +kernel
theorem dX12_mayMeet_32 : decode cX12_mayMeet 32 = .ok (.aload_n 0, 1) := by decide +kernel
theorem dX12_mayMeet_33 : decode cX12_mayMeet 33 = .ok (.iload_n 3, 1) := by decide +kernel
theorem dX12_mayMeet_34 : decode cX12_mayMeet 34 = .ok (.bipush 100, 2) := by decide +kernel
theorem dX12_mayMeet_36 : decode cX12_mayMeet 36 = .ok (.irem, 1) := by decide +kernel
theorem dX12_mayMeet_37 : decode cX12_mayMeet 37 = .ok (.invokevirtual 116, 3) := by decide +kernel
theorem dX12_mayMeet_40 : decode cX12_mayMeet 40 = .ok (.ifCond .ne 6, 3) := by decide +kernel
theorem dX12_mayMeet_43 : decode cX12_mayMeet 43 = .ok (.bipush (-2), 2) := by decide +kernel
theorem dX12_mayMeet_45 : decode cX12_mayMeet 45 = .ok (.ireturn, 1) := by decide +kernel
theorem dX12_mayMeet_46 : decode cX12_mayMeet 46 = .ok (.aload_n 0, 1) := by decide +kernel
theorem dX12_mayMeet_47 : decode cX12_mayMeet 47 = .ok (.iload_n 1, 1) := by decide +kernel
theorem dX12_mayMeet_48 : decode cX12_mayMeet 48 = .ok (.iload_n 2, 1) := by decide +kernel
theorem dX12_mayMeet_49 : decode cX12_mayMeet 49 = .ok (.iload_n 3, 1) := by decide +kernel
theorem dX12_mayMeet_50 : decode cX12_mayMeet 50 = .ok (.bipush 100, 2) := by decide +kernel
theorem dX12_mayMeet_52 : decode cX12_mayMeet 52 = .ok (.idiv, 1) := by decide +kernel
theorem dX12_mayMeet_53 : decode cX12_mayMeet 53 = .ok (.iload_n 3, 1) := by decide +kernel
theorem dX12_mayMeet_54 : decode cX12_mayMeet 54 = .ok (.bipush 100, 2) := by decide +kernel
theorem dX12_mayMeet_56 : decode cX12_mayMeet 56 = .ok (.irem, 1) := by decide +kernel
theorem dX12_mayMeet_57 : decode cX12_mayMeet 57 = .ok (.invokevirtual 252, 3) := by decide +kernel
theorem dX12_mayMeet_60 : decode cX12_mayMeet 60 = .ok (.ifCond .eq 7, 3) := by decide +kernel
theorem dX12_mayMeet_63 : decode cX12_mayMeet 63 = .ok (.iconst 1, 1) := by decide +kernel
theorem dX12_mayMeet_64 : decode cX12_mayMeet 64 = .ok (.goto 4, 3) := by decide +kernel
theorem dX12_mayMeet_67 : decode cX12_mayMeet 67 = .ok (.iconst 0, 1) := by decide +kernel
theorem dX12_mayMeet_68 : decode cX12_mayMeet 68 = .ok (.ireturn, 1) := by decide +kernel
theorem dX12_between_0 : decode cX12_between 0 = .ok (.aload_n 0, 1) := by decide +kernel
theorem dX12_between_1 : decode cX12_between 1 = .ok (.iload_n 1, 1) := by decide +kernel
theorem dX12_between_2 : decode cX12_between 2 = .ok (.invokevirtual 116, 3) := by decide +kernel
theorem dX12_between_5 : decode cX12_between 5 = .ok (.ifCond .eq 46, 3) := by decide +kernel
theorem dX12_between_8 : decode cX12_between 8 = .ok (.aload_n 0, 1) := by decide +kernel
theorem dX12_between_9 : decode cX12_between 9 = .ok (.iload_n 2, 1) := by decide +kernel
theorem dX12_between_10 : decode cX12_between 10 = .ok (.invokevirtual 116, 3) := by decide +kernel
theorem dX12_between_13 : decode cX12_between 13 = .ok (.ifCond .eq 38, 3) := by decide +kernel
theorem dX12_between_16 : decode cX12_between 16 = .ok (.iload_n 1, 1) := by decide +kernel
theorem dX12_between_17 : decode cX12_between 17 = .ok (.iload_n 2, 1) := by decide +kernel
theorem dX12_between_18 : decode cX12_between 18 = .ok (.if_icmp .eq 33, 3) := by decide +kernel
theorem dX12_between_21 : decode cX12_between 21 = .ok (.iload_n 3, 1) := by decide +kernel
theorem dX12_between_22 : decode cX12_between 22 = .ok (.iconst 1, 1) := by decide +kernel
theorem dX12_between_23 : decode cX12_between 23 = .ok (.bipush 9, 2) := by decide +kernel
theorem dX12_between_25 : decode cX12_between 25 = .ok (.invokestatic 109, 3) := by decide +kernel
theorem dX12_between_28 : decode cX12_between 28 = .ok (.ifCond .eq 23, 3) := by decide +kernel
theorem dX12_between_31 : decode cX12_between 31 = .ok (.iload_n 3, 1) := by decide +kernel
theorem dX12_between_32 : decode cX12_between 32 = .ok (.aload_n 0, 1) := by decide +kernel
theorem dX12_between_33 : decode cX12_between 33 = .ok (.iload_n 1, 1) := by decide +kernel
theorem dX12_between_34 : decode cX12_between 34 = .ok (.invokevirtual 146, 3) := by decide +kernel
theorem dX12_between_37 : decode cX12_between 37 = .ok (.imul, 1) := by decide +kernel
theorem dX12_between_38 : decode cX12_between 38 = .ok (.aload_n 0, 1) := by decide +kernel
theorem dX12_between_39 : decode cX12_between 39 = .ok (.iload_n 2, 1) := by decide +kernel
theorem dX12_between_40 : decode cX12_between 40 = .ok (.invokevirtual 146, 3) := by decide +kernel
theorem dX12_between_43 : decode cX12_between 43 = .ok (.iadd, 1) := by decide +kernel
theorem dX12_between_44 : decode cX12_between 44 = .ok (.iload_n 3, 1) := by decide +kernel
theorem dX12_between_45 : decode cX12_between 45 = .ok (.iconst 1, 1) := by decide +kernel
theorem dX12_between_46 : decode cX12_between 46 = .ok (.iadd, 1) := by decide +kernel
theorem dX12_between_47 : decode cX12_between 47 = .ok (.idiv, 1) := by decide +kernel
theorem dX12_between_48 : decode cX12_between 48 = .ok (.goto 5, 3) := by decide +kernel
theorem dX12_between_51 : decode cX12_between 51 = .ok (.bipush (-2), 2) := by decide +kernel
theorem dX12_between_53 : decode cX12_between 53 = .ok (.ireturn, 1) := by decide +kernel
theorem dX12_range_0 : decode cX12_range 0 = .ok (.iload_n 1, 1) := by decide +kernel
theorem dX12_range_1 : decode cX12_range 1 = .ok (.ifCond .lt 12, 3) := by decide +kernel
theorem dX12_range_4 : decode cX12_range 4 = .ok (.iload_n 1, 1) := by decide +kernel
theorem dX12_range_5 : decode cX12_range 5 = .ok (.aload_n 0, 1) := by decide +kernel
theorem dX12_range_6 : decode cX12_range 6 = .ok (.getfield 106, 3) := by decide +kernel
theorem dX12_range_9 : decode cX12_range 9 = .ok (.ishr, 1) := by decide +kernel
theorem dX12_range_10 : decode cX12_range 10 = .ok (.ifCond .eq 6, 3) := by decide +kernel
theorem dX12_range_13 : decode cX12_range 13 = .ok (.bipush (-2), 2) := by decide +kernel
theorem dX12_range_15 : decode cX12_range 15 = .ok (.ireturn, 1) := by decide +kernel
theorem dX12_range_16 : decode cX12_range 16 = .ok (.iconst (-1), 1) := by decide +kernel
theorem dX12_range_17 : decode cX12_range 17 = .ok (.istore_n 2, 1) := by decide +kernel
theorem dX12_range_18 : decode cX12_range 18 = .ok (.iconst 0, 1) := by decide +kernel
theorem dX12_range_19 : decode cX12_range 19 = .ok (.istore_n 3, 1) := by decide +kernel
theorem dX12_range_20 : decode cX12_range 20 = .ok (.iload_n 3, 1) := by decide +kernel
theorem dX12_range_21 : decode cX12_range 21 = .ok (.aload_n 0, 1) := by decide +kernel
theorem dX12_range_22 : decode cX12_range 22 = .ok (.getfield 106, 3) := by decide +kernel
theorem dX12_range_25 : decode cX12_range 25 = .ok (.if_icmp .ge 67, 3) := by decide +kernel
theorem dX12_range_28 : decode cX12_range 28 = .ok (.iload_n 3, 1) := by decide +kernel
theorem dX12_range_29 : decode cX12_range 29 = .ok (.iconst 1, 1) := by decide +kernel
theorem dX12_range_30 : decode cX12_range 30 = .ok (.iadd, 1) := by decide +kernel
theorem dX12_range_31 : decode cX12_range 31 = .ok (.istore 4, 2) := by decide +kernel
theorem dX12_range_33 : decode cX12_range 33 = .ok (.iload 4, 2) := by decide +kernel
theorem dX12_range_35 : decode cX12_range 35 = .ok (.aload_n 0, 1) := by decide +kernel
theorem dX12_range_36 : decode cX12_range 36 = .ok (.getfield 106, 3) := by decide +kernel
theorem dX12_range_39 : decode cX12_range 39 = .ok (.if_icmp .ge 47, 3) := by decide +kernel
theorem dX12_range_42 : decode cX12_range 42 = .ok (.iload_n 1, 1) := by decide +kernel
theorem dX12_range_43 : decode cX12_range 43 = .ok (.iload_n 3, 1) := by decide +kernel
theorem dX12_range_44 : decode cX12_range 44 = .ok (.ishr, 1) := by decide +kernel
theorem dX12_range_45 : decode cX12_range 45 = .ok (.iconst 1, 1) := by decide +kernel
theorem dX12_range_46 : decode cX12_range 46 = .ok (.iand, 1) := by decide +kernel
theorem dX12_range_47 : decode cX12_range 47 = .ok (.ifCond .eq 33, 3) := by decide +kernel
theorem dX12_range_50 : decode cX12_range 50 = .ok (.iload_n 1, 1) := by decide +kernel
theorem dX12_range_51 : decode cX12_range 51 = .ok (.iload 4, 2) := by decide +kernel
theorem dX12_range_53 : decode cX12_range 53 = .ok (.ishr, 1) := by decide +kernel
theorem dX12_range_54 : decode cX12_range 54 = .ok (.iconst 1, 1) := by decide +kernel
theorem dX12_range_55 : decode cX12_range 55 = .ok (.iand, 1) := by decide +kernel
theorem dX12_range_56 : decode cX12_range 56 = .ok (.ifCond .ne 6, 3) := by decide +kernel
theorem dX12_range_59 : decode cX12_range 59 = .ok (.goto 21, 3) := by decide +kernel
theorem dX12_range_62 : decode cX12_range 62 = .ok (.aload_n 0, 1) := by decide +kernel
theorem dX12_range_63 : decode cX12_range 63 = .ok (.iload_n 3, 1) := by decide +kernel
theorem dX12_range_64 : decode cX12_range 64 = .ok (.iload 4, 2) := by decide +kernel
theorem dX12_range_66 : decode cX12_range 66 = .ok (.invokevirtual 249, 3) := by decide +kernel
theorem dX12_range_69 : decode cX12_range 69 = .ok (.istore 5, 2) := by decide +kernel
theorem dX12_range_71 : decode cX12_range 71 = .ok (.iload 5, 2) := by decide +kernel
theorem dX12_range_73 : decode cX12_range 73 = .ok (.iload_n 2, 1) := by decide +kernel
theorem dX12_range_74 : decode cX12_range 74 = .ok (.if_icmp .le 6, 3) := by decide +kernel
theorem dX12_range_77 : decode cX12_range 77 = .ok (.iload 5, 2) := by decide +kernel
theorem dX12_range_79 : decode cX12_range 79 = .ok (.istore_n 2, 1) := by decide +kernel
theorem dX12_range_80 : decode cX12_range 80 = .ok (.iinc 4 1, 3) := by decide +kernel
theorem dX12_range_83 : decode cX12_range 83 = .ok (.goto (-50), 3) := by decide +kernel
theorem dX12_range_86 : decode cX12_range 86 = .ok (.iinc 3 1, 3) := by decide +kernel
theorem dX12_range_89 : decode cX12_range 89 = .ok (.goto (-69), 3) := by decide +kernel
theorem dX12_range_92 : decode cX12_range 92 = .ok (.iload_n 2, 1) := by decide +kernel
theorem dX12_range_93 : decode cX12_range 93 = .ok (.ireturn, 1) := by decide +kernel
theorem dX12_findDigits_0 : decode cX12_findDigits 0 = .ok (.iload_n 1, 1) := by decide +kernel
theorem dX12_findDigits_1 : decode cX12_findDigits 1 = .ok (.istore_n 2, 1) := by decide +kernel
theorem dX12_findDigits_2 : decode cX12_findDigits 2 = .ok (.iconst 4, 1) := by decide +kernel
theorem dX12_findDigits_3 : decode cX12_findDigits 3 = .ok (.istore_n 3, 1) := by decide +kernel
theorem dX12_findDigits_4 : decode cX12_findDigits 4 = .ok (.iload_n 3, 1) := by decide +kernel
theorem dX12_findDigits_5 : decode cX12_findDigits 5 = .ok (.ifCond .lt 24, 3) := by decide +kernel
theorem dX12_findDigits_8 : decode cX12_findDigits 8 = .ok (.aload_n 0, 1) := by decide +kernel
theorem dX12_findDigits_9 : decode cX12_findDigits 9 = .ok (.getfield 67, 3) := by decide +kernel
theorem dX12_findDigits_12 : decode cX12_findDigits 12 = .ok (.iload_n 3, 1) := by decide +kernel
theorem dX12_findDigits_13 : decode cX12_findDigits 13 = .ok (.iload_n 2, 1) := by decide +kernel
theorem dX12_findDigits_14 : decode cX12_findDigits 14 = .ok (.bipush 6, 2) := by decide +kernel
theorem dX12_findDigits_16 : decode cX12_findDigits 16 = .ok (.irem, 1) := by decide +kernel
theorem dX12_findDigits_17 : decode cX12_findDigits 17 = .ok (.iastore, 1) := by decide +kernel
theorem dX12_findDigits_18 : decode cX12_findDigits 18 = .ok (.iload_n 2, 1) := by decide +kernel
theorem dX12_findDigits_19 : decode cX12_findDigits 19 = .ok (.bipush 6, 2) := by decide +kernel
theorem dX12_findDigits_21 : decode cX12_findDigits 21 = .ok (.idiv, 1) := by decide +kernel
theorem dX12_findDigits_22 : decode cX12_findDigits 22 = .ok (.istore_n 2, 1) := by decide +kernel
theorem dX12_findDigits_23 : decode cX12_findDigits 23 = .ok (.iinc 3 (-1), 3) := by decide +kernel
theorem dX12_findDigits_26 : decode cX12_findDigits 26 = .ok (.goto (-22), 3) := by decide +kernel
theorem dX12_findDigits_29 : decode cX12_findDigits 29 = .ok (.return_, 1) := by decide +kernel
theorem dX12_judged_0 : decode cX12_judged 0 = .ok (.aload_n 0, 1) := by decide +kernel
theorem dX12_judged_1 : decode cX12_judged 1 = .ok (.iload_n 2, 1) := by decide +kernel
theorem dX12_judged_2 : decode cX12_judged 2 = .ok (.invokevirtual 256, 3) := by decide +kernel
theorem dX12_judged_5 : decode cX12_judged 5 = .ok (.iconst 0, 1) := by decide +kernel
theorem dX12_judged_6 : decode cX12_judged 6 = .ok (.istore_n 3, 1) := by decide +kernel
theorem dX12_judged_7 : decode cX12_judged 7 = .ok (.iload_n 3, 1) := by decide +kernel
theorem dX12_judged_8 : decode cX12_judged 8 = .ok (.iconst 5, 1) := by decide +kernel
theorem dX12_judged_9 : decode cX12_judged 9 = .ok (.if_icmp .ge 27, 3) := by decide +kernel
theorem dX12_judged_12 : decode cX12_judged 12 = .ok (.aload_n 0, 1) := by decide +kernel
theorem dX12_judged_13 : decode cX12_judged 13 = .ok (.getfield 67, 3) := by decide +kernel
theorem dX12_judged_16 : decode cX12_judged 16 = .ok (.iload_n 3, 1) := by decide +kernel
theorem dX12_judged_17 : decode cX12_judged 17 = .ok (.iaload, 1) := by decide +kernel
theorem dX12_judged_18 : decode cX12_judged 18 = .ok (.aload_n 0, 1) := by decide +kernel
theorem dX12_judged_19 : decode cX12_judged 19 = .ok (.getfield 106, 3) := by decide +kernel
theorem dX12_judged_22 : decode cX12_judged 22 = .ok (.if_icmp .lt 8, 3) := by decide +kernel
theorem dX12_judged_25 : decode cX12_judged 25 = .ok (.bipush 10, 2) := by decide +kernel
theorem dX12_judged_27 : decode cX12_judged 27 = .ok (.iload_n 3, 1) := by decide +kernel
theorem dX12_judged_28 : decode cX12_judged 28 = .ok (.iadd, 1) := by decide +kernel
theorem dX12_judged_29 : decode cX12_judged 29 = .ok (.ireturn, 1) := by decide +kernel
theorem dX12_judged_30 : decode cX12_judged 30 = .ok (.iinc 3 1, 3) := by decide +kernel
theorem dX12_judged_33 : decode cX12_judged 33 = .ok (.goto (-26), 3) := by decide +kernel
theorem dX12_judged_36 : decode cX12_judged 36 = .ok (.iconst 0, 1) := by decide +kernel
theorem dX12_judged_37 : decode cX12_judged 37 = .ok (.istore_n 3, 1) := by decide +kernel
theorem dX12_judged_38 : decode cX12_judged 38 = .ok (.iload_n 3, 1) := by decide +kernel
theorem dX12_judged_39 : decode cX12_judged 39 = .ok (.bipush 6, 2) := by decide +kernel
theorem dX12_judged_41 : decode cX12_judged 41 = .ok (.if_icmp .ge 16, 3) := by decide +kernel
theorem dX12_judged_44 : decode cX12_judged 44 = .ok (.aload_n 0, 1) := by decide +kernel
theorem dX12_judged_45 : decode cX12_judged 45 = .ok (.getfield 70, 3) := by decide +kernel
theorem dX12_judged_48 : decode cX12_judged 48 = .ok (.iload_n 3, 1) := by decide +kernel
theorem dX12_judged_49 : decode cX12_judged 49 = .ok (.iconst 0, 1) := by decide +kernel
theorem dX12_judged_50 : decode cX12_judged 50 = .ok (.iastore, 1) := by decide +kernel
theorem dX12_judged_51 : decode cX12_judged 51 = .ok (.iinc 3 1, 3) := by decide +kernel
theorem dX12_judged_54 : decode cX12_judged 54 = .ok (.goto (-16), 3) := by decide +kernel
theorem dX12_judged_57 : decode cX12_judged 57 = .ok (.iconst 0, 1) := by decide +kernel
theorem dX12_judged_58 : decode cX12_judged 58 = .ok (.istore_n 3, 1) := by decide +kernel
theorem dX12_judged_59 : decode cX12_judged 59 = .ok (.iload_n 3, 1) := by decide +kernel
theorem dX12_judged_60 : decode cX12_judged 60 = .ok (.iconst 5, 1) := by decide +kernel
theorem dX12_judged_61 : decode cX12_judged 61 = .ok (.if_icmp .ge 29, 3) := by decide +kernel
theorem dX12_judged_64 : decode cX12_judged 64 = .ok (.aload_n 0, 1) := by decide +kernel
theorem dX12_judged_65 : decode cX12_judged 65 = .ok (.getfield 70, 3) := by decide +kernel
theorem dX12_judged_68 : decode cX12_judged 68 = .ok (.aload_n 0, 1) := by decide +kernel
theorem dX12_judged_69 : decode cX12_judged 69 = .ok (.getfield 67, 3) := by decide +kernel
theorem dX12_judged_72 : decode cX12_judged 72 = .ok (.iload_n 3, 1) := by decide +kernel
theorem dX12_judged_73 : decode cX12_judged 73 = .ok (.iaload, 1) := by decide +kernel
theorem dX12_judged_74 : decode cX12_judged 74 = .ok (.dup2, 1) := by decide +kernel
theorem dX12_judged_75 : decode cX12_judged 75 = .ok (.iaload, 1) := by decide +kernel
theorem dX12_judged_76 : decode cX12_judged 76 = .ok (.aload_n 0, 1) := by decide +kernel
theorem dX12_judged_77 : decode cX12_judged 77 = .ok (.iload_n 1, 1) := by decide +kernel
theorem dX12_judged_78 : decode cX12_judged 78 = .ok (.iload_n 3, 1) := by decide +kernel
theorem dX12_judged_79 : decode cX12_judged 79 = .ok (.invokevirtual 124, 3) := by decide +kernel
theorem dX12_judged_82 : decode cX12_judged 82 = .ok (.iadd, 1) := by decide +kernel
theorem dX12_judged_83 : decode cX12_judged 83 = .ok (.iastore, 1) := by decide +kernel
theorem dX12_judged_84 : decode cX12_judged 84 = .ok (.iinc 3 1, 3) := by decide +kernel
theorem dX12_judged_87 : decode cX12_judged 87 = .ok (.goto (-28), 3) := by decide +kernel
theorem dX12_judged_90 : decode cX12_judged 90 = .ok (.iconst 0, 1) := by decide +kernel
theorem dX12_judged_91 : decode cX12_judged 91 = .ok (.istore_n 3, 1) := by decide +kernel
theorem dX12_judged_92 : decode cX12_judged 92 = .ok (.iload_n 3, 1) := by decide +kernel
theorem dX12_judged_93 : decode cX12_judged 93 = .ok (.aload_n 0, 1) := by decide +kernel
theorem dX12_judged_94 : decode cX12_judged 94 = .ok (.getfield 106, 3) := by decide +kernel
theorem dX12_judged_97 : decode cX12_judged 97 = .ok (.if_icmp .ge 29, 3) := by decide +kernel
theorem dX12_judged_100 : decode cX12_judged 100 = .ok (.aload_n 0, 1) := by decide +kernel
theorem dX12_judged_101 : decode cX12_judged 101 = .ok (.getfield 70, 3) := by decide +kernel
theorem dX12_judged_104 : decode cX12_judged 104 = .ok (.iload_n 3, 1) := by decide +kernel
theorem dX12_judged_105 : decode cX12_judged 105 = .ok (.iaload, 1) := by decide +kernel
theorem dX12_judged_106 : decode cX12_judged 106 = .ok (.aload_n 0, 1) := by decide +kernel
theorem dX12_judged_107 : decode cX12_judged 107 = .ok (.getfield 7, 3) := by decide +kernel
theorem dX12_judged_110 : decode cX12_judged 110 = .ok (.iload_n 3, 1) := by decide +kernel
theorem dX12_judged_111 : decode cX12_judged 111 = .ok (.iaload, 1) := by decide +kernel
theorem dX12_judged_112 : decode cX12_judged 112 = .ok (.if_icmp .le 8, 3) := by decide +kernel
theorem dX12_judged_115 : decode cX12_judged 115 = .ok (.bipush 20, 2) := by decide +kernel
theorem dX12_judged_117 : decode cX12_judged 117 = .ok (.iload_n 3, 1) := by decide +kernel
theorem dX12_judged_118 : decode cX12_judged 118 = .ok (.iadd, 1) := by decide +kernel
theorem dX12_judged_119 : decode cX12_judged 119 = .ok (.ireturn, 1) := by decide +kernel
theorem dX12_judged_120 : decode cX12_judged 120 = .ok (.iinc 3 1, 3) := by decide +kernel
theorem dX12_judged_123 : decode cX12_judged 123 = .ok (.goto (-31), 3) := by decide +kernel
theorem dX12_judged_126 : decode cX12_judged 126 = .ok (.iconst 0, 1) := by decide +kernel
theorem dX12_judged_127 : decode cX12_judged 127 = .ok (.istore_n 3, 1) := by decide +kernel
theorem dX12_judged_128 : decode cX12_judged 128 = .ok (.iload_n 3, 1) := by decide +kernel
theorem dX12_judged_129 : decode cX12_judged 129 = .ok (.bipush 6, 2) := by decide +kernel
theorem dX12_judged_131 : decode cX12_judged 131 = .ok (.if_icmp .ge 41, 3) := by decide +kernel
theorem dX12_judged_134 : decode cX12_judged 134 = .ok (.aload_n 0, 1) := by decide +kernel
theorem dX12_judged_135 : decode cX12_judged 135 = .ok (.iload_n 1, 1) := by decide +kernel
theorem dX12_judged_136 : decode cX12_judged 136 = .ok (.iload_n 3, 1) := by decide +kernel
theorem dX12_judged_137 : decode cX12_judged 137 = .ok (.aload_n 0, 1) := by decide +kernel
theorem dX12_judged_138 : decode cX12_judged 138 = .ok (.getfield 67, 3) := by decide +kernel
theorem dX12_judged_141 : decode cX12_judged 141 = .ok (.iload_n 3, 1) := by decide +kernel
theorem dX12_judged_142 : decode cX12_judged 142 = .ok (.invokestatic 236, 3) := by decide +kernel
theorem dX12_judged_145 : decode cX12_judged 145 = .ok (.iaload, 1) := by decide +kernel
theorem dX12_judged_146 : decode cX12_judged 146 = .ok (.aload_n 0, 1) := by decide +kernel
theorem dX12_judged_147 : decode cX12_judged 147 = .ok (.getfield 67, 3) := by decide +kernel
theorem dX12_judged_150 : decode cX12_judged 150 = .ok (.iload_n 3, 1) := by decide +kernel
theorem dX12_judged_151 : decode cX12_judged 151 = .ok (.invokestatic 239, 3) := by decide +kernel
theorem dX12_judged_154 : decode cX12_judged 154 = .ok (.iaload, 1) := by decide +kernel
theorem dX12_judged_155 : decode cX12_judged 155 = .ok (.invokevirtual 252, 3) := by decide +kernel
theorem dX12_judged_158 : decode cX12_judged 158 = .ok (.ifCond .ne 8, 3) := by decide +kernel
theorem dX12_judged_161 : decode cX12_judged 161 = .ok (.bipush 40, 2) := by decide +kernel
theorem dX12_judged_163 : decode cX12_judged 163 = .ok (.iload_n 3, 1) := by decide +kernel
theorem dX12_judged_164 : decode cX12_judged 164 = .ok (.iadd, 1) := by decide +kernel
theorem dX12_judged_165 : decode cX12_judged 165 = .ok (.ireturn, 1) := by decide +kernel
theorem dX12_judged_166 : decode cX12_judged 166 = .ok (.iinc 3 1, 3) := by decide +kernel
theorem dX12_judged_169 : decode cX12_judged 169 = .ok (.goto (-41), 3) := by decide +kernel
theorem dX12_judged_172 : decode cX12_judged 172 = .ok (.iconst (-1), 1) := by decide +kernel
theorem dX12_judged_173 : decode cX12_judged 173 = .ok (.ireturn, 1) := by decide +kernel
theorem dX12_judge_0 : decode cX12_judge 0 = .ok (.aload_n 0, 1) := by decide +kernel
theorem dX12_judge_1 : decode cX12_judge 1 = .ok (.iload_n 1, 1) := by decide +kernel
theorem dX12_judge_2 : decode cX12_judge 2 = .ok (.invokevirtual 127, 3) := by decide +kernel
theorem dX12_judge_5 : decode cX12_judge 5 = .ok (.ifCond .eq 23, 3) := by decide +kernel
theorem dX12_judge_8 : decode cX12_judge 8 = .ok (.iload_n 2, 1) := by decide +kernel
theorem dX12_judge_9 : decode cX12_judge 9 = .ok (.iconst 0, 1) := by decide +kernel
theorem dX12_judge_10 : decode cX12_judge 10 = .ok (.sipush 7775, 3) := by decide +kernel
theorem dX12_judge_13 : decode cX12_judge 13 = .ok (.invokestatic 109, 3) := by decide +kernel
theorem dX12_judge_16 : decode cX12_judge 16 = .ok (.ifCond .eq 12, 3) := by decide +kernel
theorem dX12_judge_19 : decode cX12_judge 19 = .ok (.aload_n 0, 1) := by decide +kernel
theorem dX12_judge_20 : decode cX12_judge 20 = .ok (.iload_n 1, 1) := by decide +kernel
theorem dX12_judge_21 : decode cX12_judge 21 = .ok (.iload_n 2, 1) := by decide +kernel
theorem dX12_judge_22 : decode cX12_judge 22 = .ok (.invokevirtual 259, 3) := by decide +kernel
theorem dX12_judge_25 : decode cX12_judge 25 = .ok (.goto 5, 3) := by decide +kernel
theorem dX12_judge_28 : decode cX12_judge 28 = .ok (.bipush (-2), 2) := by decide +kernel
theorem dX12_judge_30 : decode cX12_judge 30 = .ok (.ireturn, 1) := by decide +kernel
theorem dX12_findMay_0 : decode cX12_findMay 0 = .ok (.iconst 0, 1) := by decide +kernel
theorem dX12_findMay_1 : decode cX12_findMay 1 = .ok (.istore_n 2, 1) := by decide +kernel
theorem dX12_findMay_2 : decode cX12_findMay 2 = .ok (.iload_n 2, 1) := by decide +kernel
theorem dX12_findMay_3 : decode cX12_findMay 3 = .ok (.bipush 6, 2) := by decide +kernel
theorem dX12_findMay_5 : decode cX12_findMay 5 = .ok (.if_icmp .ge 69, 3) := by decide +kernel
theorem dX12_findMay_8 : decode cX12_findMay 8 = .ok (.iconst 0, 1) := by decide +kernel
theorem dX12_findMay_9 : decode cX12_findMay 9 = .ok (.istore_n 3, 1) := by decide +kernel
theorem dX12_findMay_10 : decode cX12_findMay 10 = .ok (.iload_n 3, 1) := by decide +kernel
theorem dX12_findMay_11 : decode cX12_findMay 11 = .ok (.aload_n 0, 1) := by decide +kernel
theorem dX12_findMay_12 : decode cX12_findMay 12 = .ok (.getfield 106, 3) := by decide +kernel
theorem dX12_findMay_15 : decode cX12_findMay 15 = .ok (.if_icmp .ge 53, 3) := by decide +kernel
theorem dX12_findMay_18 : decode cX12_findMay 18 = .ok (.iconst 0, 1) := by decide +kernel
theorem dX12_findMay_19 : decode cX12_findMay 19 = .ok (.istore 4, 2) := by decide +kernel
theorem dX12_findMay_21 : decode cX12_findMay 21 = .ok (.iload 4, 2) := by decide +kernel
theorem dX12_findMay_23 : decode cX12_findMay 23 = .ok (.aload_n 0, 1) := by decide +kernel
theorem dX12_findMay_24 : decode cX12_findMay 24 = .ok (.getfield 106, 3) := by decide +kernel
theorem dX12_findMay_27 : decode cX12_findMay 27 = .ok (.if_icmp .ge 35, 3) := by decide +kernel
theorem dX12_findMay_30 : decode cX12_findMay 30 = .ok (.aload_n 0, 1) := by decide +kernel
theorem dX12_findMay_31 : decode cX12_findMay 31 = .ok (.getfield 73, 3) := by decide +kernel
theorem dX12_findMay_34 : decode cX12_findMay 34 = .ok (.bipush 36, 2) := by decide +kernel
theorem dX12_findMay_36 : decode cX12_findMay 36 = .ok (.iload_n 2, 1) := by decide +kernel
theorem dX12_findMay_37 : decode cX12_findMay 37 = .ok (.imul, 1) := by decide +kernel
theorem dX12_findMay_38 : decode cX12_findMay 38 = .ok (.bipush 6, 2) := by decide +kernel
theorem dX12_findMay_40 : decode cX12_findMay 40 = .ok (.iload_n 3, 1) := by decide +kernel
theorem dX12_findMay_41 : decode cX12_findMay 41 = .ok (.imul, 1) := by decide +kernel
theorem dX12_findMay_42 : decode cX12_findMay 42 = .ok (.iadd, 1) := by decide +kernel
theorem dX12_findMay_43 : decode cX12_findMay 43 = .ok (.iload 4, 2) := by decide +kernel
theorem dX12_findMay_45 : decode cX12_findMay 45 = .ok (.iadd, 1) := by decide +kernel
theorem dX12_findMay_46 : decode cX12_findMay 46 = .ok (.aload_n 0, 1) := by decide +kernel
theorem dX12_findMay_47 : decode cX12_findMay 47 = .ok (.iload_n 1, 1) := by decide +kernel
theorem dX12_findMay_48 : decode cX12_findMay 48 = .ok (.iload_n 2, 1) := by decide +kernel
theorem dX12_findMay_49 : decode cX12_findMay 49 = .ok (.iload_n 3, 1) := by decide +kernel
theorem dX12_findMay_50 : decode cX12_findMay 50 = .ok (.iload 4, 2) := by decide +kernel
theorem dX12_findMay_52 : decode cX12_findMay 52 = .ok (.invokevirtual 252, 3) := by decide +kernel
theorem dX12_findMay_55 : decode cX12_findMay 55 = .ok (.bastore, 1) := by decide +kernel
theorem dX12_findMay_56 : decode cX12_findMay 56 = .ok (.iinc 4 1, 3) := by decide +kernel
theorem dX12_findMay_59 : decode cX12_findMay 59 = .ok (.goto (-38), 3) := by decide +kernel
theorem dX12_findMay_62 : decode cX12_findMay 62 = .ok (.iinc 3 1, 3) := by decide +kernel
theorem dX12_findMay_65 : decode cX12_findMay 65 = .ok (.goto (-55), 3) := by decide +kernel
theorem dX12_findMay_68 : decode cX12_findMay 68 = .ok (.iinc 2 1, 3) := by decide +kernel
theorem dX12_findMay_71 : decode cX12_findMay 71 = .ok (.goto (-69), 3) := by decide +kernel
theorem dX12_findMay_74 : decode cX12_findMay 74 = .ok (.return_, 1) := by decide +kernel
theorem dX12_isGood_0 : decode cX12_isGood 0 = .ok (.aload_n 0, 1) := by decide +kernel
theorem dX12_isGood_1 : decode cX12_isGood 1 = .ok (.iload_n 2, 1) := by decide +kernel
theorem dX12_isGood_2 : decode cX12_isGood 2 = .ok (.invokevirtual 256, 3) := by decide +kernel
theorem dX12_isGood_5 : decode cX12_isGood 5 = .ok (.iconst 0, 1) := by decide +kernel
theorem dX12_isGood_6 : decode cX12_isGood 6 = .ok (.istore_n 3, 1) := by decide +kernel
theorem dX12_isGood_7 : decode cX12_isGood 7 = .ok (.iload_n 3, 1) := by decide +kernel
theorem dX12_isGood_8 : decode cX12_isGood 8 = .ok (.iconst 5, 1) := by decide +kernel
theorem dX12_isGood_9 : decode cX12_isGood 9 = .ok (.if_icmp .ge 24, 3) := by decide +kernel
theorem dX12_isGood_12 : decode cX12_isGood 12 = .ok (.aload_n 0, 1) := by decide +kernel
theorem dX12_isGood_13 : decode cX12_isGood 13 = .ok (.getfield 67, 3) := by decide +kernel
theorem dX12_isGood_16 : decode cX12_isGood 16 = .ok (.iload_n 3, 1) := by decide +kernel
theorem dX12_isGood_17 : decode cX12_isGood 17 = .ok (.iaload, 1) := by decide +kernel
theorem dX12_isGood_18 : decode cX12_isGood 18 = .ok (.aload_n 0, 1) := by decide +kernel
theorem dX12_isGood_19 : decode cX12_isGood 19 = .ok (.getfield 106, 3) := by decide +kernel
theorem dX12_isGood_22 : decode cX12_isGood 22 = .ok (.if_icmp .lt 5, 3) := by decide +kernel
theorem dX12_isGood_25 : decode cX12_isGood 25 = .ok (.iconst 0, 1) := by decide +kernel
theorem dX12_isGood_26 : decode cX12_isGood 26 = .ok (.ireturn, 1) := by decide +kernel
theorem dX12_isGood_27 : decode cX12_isGood 27 = .ok (.iinc 3 1, 3) := by decide +kernel
theorem dX12_isGood_30 : decode cX12_isGood 30 = .ok (.goto (-23), 3) := by decide +kernel
theorem dX12_isGood_33 : decode cX12_isGood 33 = .ok (.iconst 0, 1) := by decide +kernel
theorem dX12_isGood_34 : decode cX12_isGood 34 = .ok (.istore_n 3, 1) := by decide +kernel
theorem dX12_isGood_35 : decode cX12_isGood 35 = .ok (.iload_n 3, 1) := by decide +kernel
theorem dX12_isGood_36 : decode cX12_isGood 36 = .ok (.bipush 6, 2) := by decide +kernel
theorem dX12_isGood_38 : decode cX12_isGood 38 = .ok (.if_icmp .ge 46, 3) := by decide +kernel
theorem dX12_isGood_41 : decode cX12_isGood 41 = .ok (.aload_n 0, 1) := by decide +kernel
theorem dX12_isGood_42 : decode cX12_isGood 42 = .ok (.getfield 73, 3) := by decide +kernel
theorem dX12_isGood_45 : decode cX12_isGood 45 = .ok (.bipush 36, 2) := by decide +kernel
theorem dX12_isGood_47 : decode cX12_isGood 47 = .ok (.iload_n 3, 1) := by decide +kernel
theorem dX12_isGood_48 : decode cX12_isGood 48 = .ok (.imul, 1) := by decide +kernel
theorem dX12_isGood_49 : decode cX12_isGood 49 = .ok (.bipush 6, 2) := by decide +kernel
theorem dX12_isGood_51 : decode cX12_isGood 51 = .ok (.aload_n 0, 1) := by decide +kernel
theorem dX12_isGood_52 : decode cX12_isGood 52 = .ok (.getfield 67, 3) := by decide +kernel
theorem dX12_isGood_55 : decode cX12_isGood 55 = .ok (.iload_n 3, 1) := by decide +kernel
theorem dX12_isGood_56 : decode cX12_isGood 56 = .ok (.invokestatic 236, 3) := by decide +kernel
theorem dX12_isGood_59 : decode cX12_isGood 59 = .ok (.iaload, 1) := by decide +kernel
theorem dX12_isGood_60 : decode cX12_isGood 60 = .ok (.imul, 1) := by decide +kernel
theorem dX12_isGood_61 : decode cX12_isGood 61 = .ok (.iadd, 1) := by decide +kernel
theorem dX12_isGood_62 : decode cX12_isGood 62 = .ok (.aload_n 0, 1) := by decide +kernel
theorem dX12_isGood_63 : decode cX12_isGood 63 = .ok (.getfield 67, 3) := by decide +kernel
theorem dX12_isGood_66 : decode cX12_isGood 66 = .ok (.iload_n 3, 1) := by decide +kernel
theorem dX12_isGood_67 : decode cX12_isGood 67 = .ok (.invokestatic 239, 3) := by decide +kernel
theorem dX12_isGood_70 : decode cX12_isGood 70 = .ok (.iaload, 1) := by decide +kernel
theorem dX12_isGood_71 : decode cX12_isGood 71 = .ok (.iadd, 1) := by decide +kernel
theorem dX12_isGood_72 : decode cX12_isGood 72 = .ok (.baload, 1) := by decide +kernel
theorem dX12_isGood_73 : decode cX12_isGood 73 = .ok (.ifCond .ne 5, 3) := by decide +kernel
theorem dX12_isGood_76 : decode cX12_isGood 76 = .ok (.iconst 0, 1) := by decide +kernel
theorem dX12_isGood_77 : decode cX12_isGood 77 = .ok (.ireturn, 1) := by decide +kernel
theorem dX12_isGood_78 : decode cX12_isGood 78 = .ok (.iinc 3 1, 3) := by decide +kernel
theorem dX12_isGood_81 : decode cX12_isGood 81 = .ok (.goto (-46), 3) := by decide +kernel
theorem dX12_isGood_84 : decode cX12_isGood 84 = .ok (.iconst 0, 1) := by decide +kernel
theorem dX12_isGood_85 : decode cX12_isGood 85 = .ok (.istore_n 3, 1) := by decide +kernel
theorem dX12_isGood_86 : decode cX12_isGood 86 = .ok (.iload_n 3, 1) := by decide +kernel
theorem dX12_isGood_87 : decode cX12_isGood 87 = .ok (.bipush 6, 2) := by decide +kernel
theorem dX12_isGood_89 : decode cX12_isGood 89 = .ok (.if_icmp .ge 16, 3) := by decide +kernel
theorem dX12_isGood_92 : decode cX12_isGood 92 = .ok (.aload_n 0, 1) := by decide +kernel
theorem dX12_isGood_93 : decode cX12_isGood 93 = .ok (.getfield 70, 3) := by decide +kernel
theorem dX12_isGood_96 : decode cX12_isGood 96 = .ok (.iload_n 3, 1) := by decide +kernel
theorem dX12_isGood_97 : decode cX12_isGood 97 = .ok (.iconst 0, 1) := by decide +kernel
theorem dX12_isGood_98 : decode cX12_isGood 98 = .ok (.iastore, 1) := by decide +kernel
theorem dX12_isGood_99 : decode cX12_isGood 99 = .ok (.iinc 3 1, 3) := by decide +kernel
theorem dX12_isGood_102 : decode cX12_isGood 102 = .ok (.goto (-16), 3) := by decide +kernel
theorem dX12_isGood_105 : decode cX12_isGood 105 = .ok (.iconst 0, 1) := by decide +kernel
theorem dX12_isGood_106 : decode cX12_isGood 106 = .ok (.istore_n 3, 1) := by decide +kernel
theorem dX12_isGood_107 : decode cX12_isGood 107 = .ok (.iload_n 3, 1) := by decide +kernel
theorem dX12_isGood_108 : decode cX12_isGood 108 = .ok (.iconst 5, 1) := by decide +kernel
theorem dX12_isGood_109 : decode cX12_isGood 109 = .ok (.if_icmp .ge 29, 3) := by decide +kernel
theorem dX12_isGood_112 : decode cX12_isGood 112 = .ok (.aload_n 0, 1) := by decide +kernel
theorem dX12_isGood_113 : decode cX12_isGood 113 = .ok (.getfield 70, 3) := by decide +kernel
theorem dX12_isGood_116 : decode cX12_isGood 116 = .ok (.aload_n 0, 1) := by decide +kernel
theorem dX12_isGood_117 : decode cX12_isGood 117 = .ok (.getfield 67, 3) := by decide +kernel
theorem dX12_isGood_120 : decode cX12_isGood 120 = .ok (.iload_n 3, 1) := by decide +kernel
theorem dX12_isGood_121 : decode cX12_isGood 121 = .ok (.iaload, 1) := by decide +kernel
theorem dX12_isGood_122 : decode cX12_isGood 122 = .ok (.dup2, 1) := by decide +kernel
theorem dX12_isGood_123 : decode cX12_isGood 123 = .ok (.iaload, 1) := by decide +kernel
theorem dX12_isGood_124 : decode cX12_isGood 124 = .ok (.aload_n 0, 1) := by decide +kernel
theorem dX12_isGood_125 : decode cX12_isGood 125 = .ok (.iload_n 1, 1) := by decide +kernel
theorem dX12_isGood_126 : decode cX12_isGood 126 = .ok (.iload_n 3, 1) := by decide +kernel
theorem dX12_isGood_127 : decode cX12_isGood 127 = .ok (.invokevirtual 124, 3) := by decide +kernel
theorem dX12_isGood_130 : decode cX12_isGood 130 = .ok (.iadd, 1) := by decide +kernel
theorem dX12_isGood_131 : decode cX12_isGood 131 = .ok (.iastore, 1) := by decide +kernel
theorem dX12_isGood_132 : decode cX12_isGood 132 = .ok (.iinc 3 1, 3) := by decide +kernel
theorem dX12_isGood_135 : decode cX12_isGood 135 = .ok (.goto (-28), 3) := by decide +kernel
theorem dX12_isGood_138 : decode cX12_isGood 138 = .ok (.iconst 0, 1) := by decide +kernel
theorem dX12_isGood_139 : decode cX12_isGood 139 = .ok (.istore_n 3, 1) := by decide +kernel
theorem dX12_isGood_140 : decode cX12_isGood 140 = .ok (.iload_n 3, 1) := by decide +kernel
theorem dX12_isGood_141 : decode cX12_isGood 141 = .ok (.aload_n 0, 1) := by decide +kernel
theorem dX12_isGood_142 : decode cX12_isGood 142 = .ok (.getfield 106, 3) := by decide +kernel
theorem dX12_isGood_145 : decode cX12_isGood 145 = .ok (.if_icmp .ge 26, 3) := by decide +kernel
theorem dX12_isGood_148 : decode cX12_isGood 148 = .ok (.aload_n 0, 1) := by decide +kernel
theorem dX12_isGood_149 : decode cX12_isGood 149 = .ok (.getfield 70, 3) := by decide +kernel
theorem dX12_isGood_152 : decode cX12_isGood 152 = .ok (.iload_n 3, 1) := by decide +kernel
theorem dX12_isGood_153 : decode cX12_isGood 153 = .ok (.iaload, 1) := by decide +kernel
theorem dX12_isGood_154 : decode cX12_isGood 154 = .ok (.aload_n 0, 1) := by decide +kernel
theorem dX12_isGood_155 : decode cX12_isGood 155 = .ok (.getfield 7, 3) := by decide +kernel
theorem dX12_isGood_158 : decode cX12_isGood 158 = .ok (.iload_n 3, 1) := by decide +kernel
theorem dX12_isGood_159 : decode cX12_isGood 159 = .ok (.iaload, 1) := by decide +kernel
theorem dX12_isGood_160 : decode cX12_isGood 160 = .ok (.if_icmp .le 5, 3) := by decide +kernel
theorem dX12_isGood_163 : decode cX12_isGood 163 = .ok (.iconst 0, 1) := by decide +kernel
theorem dX12_isGood_164 : decode cX12_isGood 164 = .ok (.ireturn, 1) := by decide +kernel
theorem dX12_isGood_165 : decode cX12_isGood 165 = .ok (.iinc 3 1, 3) := by decide +kernel
theorem dX12_isGood_168 : decode cX12_isGood 168 = .ok (.goto (-28), 3) := by decide +kernel
theorem dX12_isGood_171 : decode cX12_isGood 171 = .ok (.iconst 1, 1) := by decide +kernel
theorem dX12_isGood_172 : decode cX12_isGood 172 = .ok (.ireturn, 1) := by decide +kernel
theorem dX12_findCan_0 : decode cX12_findCan 0 = .ok (.aload_n 0, 1) := by decide +kernel
theorem dX12_findCan_1 : decode cX12_findCan 1 = .ok (.iload_n 1, 1) := by decide +kernel
theorem dX12_findCan_2 : decode cX12_findCan 2 = .ok (.invokevirtual 262, 3) := by decide +kernel
theorem dX12_findCan_5 : decode cX12_findCan 5 = .ok (.aload_n 0, 1) := by decide +kernel
theorem dX12_findCan_6 : decode cX12_findCan 6 = .ok (.iconst (-1), 1) := by decide +kernel
theorem dX12_findCan_7 : decode cX12_findCan 7 = .ok (.putfield 265, 3) := by decide +kernel
theorem dX12_findCan_10 : decode cX12_findCan 10 = .ok (.aload_n 0, 1) := by decide +kernel
theorem dX12_findCan_11 : decode cX12_findCan 11 = .ok (.iconst 0, 1) := by decide +kernel
theorem dX12_findCan_12 : decode cX12_findCan 12 = .ok (.putfield 268, 3) := by decide +kernel
theorem dX12_findCan_15 : decode cX12_findCan 15 = .ok (.aload_n 0, 1) := by decide +kernel
theorem dX12_findCan_16 : decode cX12_findCan 16 = .ok (.iconst 0, 1) := by decide +kernel
theorem dX12_findCan_17 : decode cX12_findCan 17 = .ok (.putfield 271, 3) := by decide +kernel
theorem dX12_findCan_20 : decode cX12_findCan 20 = .ok (.iconst 0, 1) := by decide +kernel
theorem dX12_findCan_21 : decode cX12_findCan 21 = .ok (.istore_n 2, 1) := by decide +kernel
theorem dX12_findCan_22 : decode cX12_findCan 22 = .ok (.iload_n 2, 1) := by decide +kernel
theorem dX12_findCan_23 : decode cX12_findCan 23 = .ok (.sipush 7776, 3) := by decide +kernel
theorem dX12_findCan_26 : decode cX12_findCan 26 = .ok (.if_icmp .ge 130, 3) := by decide +kernel
theorem dX12_findCan_29 : decode cX12_findCan 29 = .ok (.aload_n 0, 1) := by decide +kernel
theorem dX12_findCan_30 : decode cX12_findCan 30 = .ok (.iload_n 1, 1) := by decide +kernel
theorem dX12_findCan_31 : decode cX12_findCan 31 = .ok (.iload_n 2, 1) := by decide +kernel
theorem dX12_findCan_32 : decode cX12_findCan 32 = .ok (.invokevirtual 274, 3) := by decide +kernel
theorem dX12_findCan_35 : decode cX12_findCan 35 = .ok (.ifCond .ne 6, 3) := by decide +kernel
theorem dX12_findCan_38 : decode cX12_findCan 38 = .ok (.goto 112, 3) := by decide +kernel
theorem dX12_findCan_41 : decode cX12_findCan 41 = .ok (.aload_n 0, 1) := by decide +kernel
theorem dX12_findCan_42 : decode cX12_findCan 42 = .ok (.dup, 1) := by decide +kernel
theorem dX12_findCan_43 : decode cX12_findCan 43 = .ok (.getfield 271, 3) := by decide +kernel
theorem dX12_findCan_46 : decode cX12_findCan 46 = .ok (.iconst 1, 1) := by decide +kernel
theorem dX12_findCan_47 : decode cX12_findCan 47 = .ok (.iadd, 1) := by decide +kernel
theorem dX12_findCan_48 : decode cX12_findCan 48 = .ok (.putfield 271, 3) := by decide +kernel
theorem dX12_findCan_51 : decode cX12_findCan 51 = .ok (.iconst 0, 1) := by decide +kernel
theorem dX12_findCan_52 : decode cX12_findCan 52 = .ok (.istore_n 3, 1) := by decide +kernel
theorem dX12_findCan_53 : decode cX12_findCan 53 = .ok (.iconst 0, 1) := by decide +kernel
theorem dX12_findCan_54 : decode cX12_findCan 54 = .ok (.istore 4, 2) := by decide +kernel
theorem dX12_findCan_56 : decode cX12_findCan 56 = .ok (.iload 4, 2) := by decide +kernel
theorem dX12_findCan_58 : decode cX12_findCan 58 = .ok (.aload_n 0, 1) := by decide +kernel
theorem dX12_findCan_59 : decode cX12_findCan 59 = .ok (.getfield 106, 3) := by decide +kernel
theorem dX12_findCan_62 : decode cX12_findCan 62 = .ok (.if_icmp .ge 60, 3) := by decide +kernel
theorem dX12_findCan_65 : decode cX12_findCan 65 = .ok (.aload_n 0, 1) := by decide +kernel
theorem dX12_findCan_66 : decode cX12_findCan 66 = .ok (.getfield 70, 3) := by decide +kernel
theorem dX12_findCan_69 : decode cX12_findCan 69 = .ok (.iload 4, 2) := by decide +kernel
theorem dX12_findCan_71 : decode cX12_findCan 71 = .ok (.iaload, 1) := by decide +kernel
theorem dX12_findCan_72 : decode cX12_findCan 72 = .ok (.ifCond .le 44, 3) := by decide +kernel
theorem dX12_findCan_75 : decode cX12_findCan 75 = .ok (.aload_n 0, 1) := by decide +kernel
theorem dX12_findCan_76 : decode cX12_findCan 76 = .ok (.getfield 7, 3) := by decide +kernel
theorem dX12_findCan_79 : decode cX12_findCan 79 = .ok (.iload 4, 2) := by decide +kernel
theorem dX12_findCan_81 : decode cX12_findCan 81 = .ok (.iaload, 1) := by decide +kernel
theorem dX12_findCan_82 : decode cX12_findCan 82 = .ok (.aload_n 0, 1) := by decide +kernel
theorem dX12_findCan_83 : decode cX12_findCan 83 = .ok (.getfield 70, 3) := by decide +kernel
theorem dX12_findCan_86 : decode cX12_findCan 86 = .ok (.iload 4, 2) := by decide +kernel
theorem dX12_findCan_88 : decode cX12_findCan 88 = .ok (.iaload, 1) := by decide +kernel
theorem dX12_findCan_89 : decode cX12_findCan 89 = .ok (.isub, 1) := by decide +kernel
theorem dX12_findCan_90 : decode cX12_findCan 90 = .ok (.iconst 1, 1) := by decide +kernel
theorem dX12_findCan_91 : decode cX12_findCan 91 = .ok (.iconst 2, 1) := by decide +kernel
theorem dX12_findCan_92 : decode cX12_findCan 92 = .ok (.invokestatic 109, 3) := by decide +kernel
theorem dX12_findCan_95 : decode cX12_findCan 95 = .ok (.ifCond .eq 21, 3) := by decide +kernel
theorem dX12_findCan_98 : decode cX12_findCan 98 = .ok (.iload_n 3, 1) := by decide +kernel
theorem dX12_findCan_99 : decode cX12_findCan 99 = .ok (.aload_n 0, 1) := by decide +kernel
theorem dX12_findCan_100 : decode cX12_findCan 100 = .ok (.getfield 7, 3) := by decide +kernel
theorem dX12_findCan_103 : decode cX12_findCan 103 = .ok (.iload 4, 2) := by decide +kernel
theorem dX12_findCan_105 : decode cX12_findCan 105 = .ok (.iaload, 1) := by decide +kernel
theorem dX12_findCan_106 : decode cX12_findCan 106 = .ok (.aload_n 0, 1) := by decide +kernel
theorem dX12_findCan_107 : decode cX12_findCan 107 = .ok (.getfield 70, 3) := by decide +kernel
theorem dX12_findCan_110 : decode cX12_findCan 110 = .ok (.iload 4, 2) := by decide +kernel
theorem dX12_findCan_112 : decode cX12_findCan 112 = .ok (.iaload, 1) := by decide +kernel
theorem dX12_findCan_113 : decode cX12_findCan 113 = .ok (.isub, 1) := by decide +kernel
theorem dX12_findCan_114 : decode cX12_findCan 114 = .ok (.iadd, 1) := by decide +kernel
theorem dX12_findCan_115 : decode cX12_findCan 115 = .ok (.istore_n 3, 1) := by decide +kernel
theorem dX12_findCan_116 : decode cX12_findCan 116 = .ok (.iinc 4 1, 3) := by decide +kernel
theorem dX12_findCan_119 : decode cX12_findCan 119 = .ok (.goto (-63), 3) := by decide +kernel
theorem dX12_findCan_122 : decode cX12_findCan 122 = .ok (.aload_n 0, 1) := by decide +kernel
theorem dX12_findCan_123 : decode cX12_findCan 123 = .ok (.getfield 265, 3) := by decide +kernel
theorem dX12_findCan_126 : decode cX12_findCan 126 = .ok (.ifCond .lt 14, 3) := by decide +kernel
theorem dX12_findCan_129 : decode cX12_findCan 129 = .ok (.iload_n 3, 1) := by decide +kernel
theorem dX12_findCan_130 : decode cX12_findCan 130 = .ok (.aload_n 0, 1) := by decide +kernel
theorem dX12_findCan_131 : decode cX12_findCan 131 = .ok (.getfield 268, 3) := by decide +kernel
theorem dX12_findCan_134 : decode cX12_findCan 134 = .ok (.if_icmp .lt 6, 3) := by decide +kernel
theorem dX12_findCan_137 : decode cX12_findCan 137 = .ok (.goto 13, 3) := by decide +kernel
theorem dX12_findCan_140 : decode cX12_findCan 140 = .ok (.aload_n 0, 1) := by decide +kernel
theorem dX12_findCan_141 : decode cX12_findCan 141 = .ok (.iload_n 2, 1) := by decide +kernel
theorem dX12_findCan_142 : decode cX12_findCan 142 = .ok (.putfield 265, 3) := by decide +kernel
theorem dX12_findCan_145 : decode cX12_findCan 145 = .ok (.aload_n 0, 1) := by decide +kernel
theorem dX12_findCan_146 : decode cX12_findCan 146 = .ok (.iload_n 3, 1) := by decide +kernel
theorem dX12_findCan_147 : decode cX12_findCan 147 = .ok (.putfield 268, 3) := by decide +kernel
theorem dX12_findCan_150 : decode cX12_findCan 150 = .ok (.iinc 2 1, 3) := by decide +kernel
theorem dX12_findCan_153 : decode cX12_findCan 153 = .ok (.goto (-131), 3) := by decide +kernel
theorem dX12_findCan_156 : decode cX12_findCan 156 = .ok (.return_, 1) := by decide +kernel
theorem dX12_can_0 : decode cX12_can 0 = .ok (.aload_n 0, 1) := by decide +kernel
theorem dX12_can_1 : decode cX12_can 1 = .ok (.iload_n 1, 1) := by decide +kernel
theorem dX12_can_2 : decode cX12_can 2 = .ok (.invokevirtual 127, 3) := by decide +kernel
theorem dX12_can_5 : decode cX12_can 5 = .ok (.ifCond .eq 12, 3) := by decide +kernel
theorem dX12_can_8 : decode cX12_can 8 = .ok (.iload_n 2, 1) := by decide +kernel
theorem dX12_can_9 : decode cX12_can 9 = .ok (.iconst 0, 1) := by decide +kernel
theorem dX12_can_10 : decode cX12_can 10 = .ok (.iconst 2, 1) := by decide +kernel
theorem dX12_can_11 : decode cX12_can 11 = .ok (.invokestatic 109, 3) := by decide +kernel
theorem dX12_can_14 : decode cX12_can 14 = .ok (.ifCond .ne 6, 3) := by decide +kernel
theorem dX12_can_17 : decode cX12_can 17 = .ok (.bipush (-2), 2) := by decide +kernel
theorem dX12_can_19 : decode cX12_can 19 = .ok (.ireturn, 1) := by decide +kernel
theorem dX12_can_20 : decode cX12_can 20 = .ok (.aload_n 0, 1) := by decide +kernel
theorem dX12_can_21 : decode cX12_can 21 = .ok (.iload_n 1, 1) := by decide +kernel
theorem dX12_can_22 : decode cX12_can 22 = .ok (.invokevirtual 278, 3) := by decide +kernel
theorem dX12_can_25 : decode cX12_can 25 = .ok (.iload_n 2, 1) := by decide +kernel
theorem dX12_can_26 : decode cX12_can 26 = .ok (.iconst 2, 1) := by decide +kernel
theorem dX12_can_27 : decode cX12_can 27 = .ok (.if_icmp .ne 10, 3) := by decide +kernel
theorem dX12_can_30 : decode cX12_can 30 = .ok (.aload_n 0, 1) := by decide +kernel
theorem dX12_can_31 : decode cX12_can 31 = .ok (.getfield 271, 3) := by decide +kernel
theorem dX12_can_34 : decode cX12_can 34 = .ok (.goto 29, 3) := by decide +kernel
theorem dX12_can_37 : decode cX12_can 37 = .ok (.aload_n 0, 1) := by decide +kernel
theorem dX12_can_38 : decode cX12_can 38 = .ok (.getfield 271, 3) := by decide +kernel
theorem dX12_can_41 : decode cX12_can 41 = .ok (.ifCond .ne 7, 3) := by decide +kernel
theorem dX12_can_44 : decode cX12_can 44 = .ok (.iconst (-1), 1) := by decide +kernel
theorem dX12_can_45 : decode cX12_can 45 = .ok (.goto 18, 3) := by decide +kernel
theorem dX12_can_48 : decode cX12_can 48 = .ok (.iload_n 2, 1) := by decide +kernel
theorem dX12_can_49 : decode cX12_can 49 = .ok (.ifCond .ne 10, 3) := by decide +kernel
theorem dX12_can_52 : decode cX12_can 52 = .ok (.aload_n 0, 1) := by decide +kernel
theorem dX12_can_53 : decode cX12_can 53 = .ok (.getfield 265, 3) := by decide +kernel
theorem dX12_can_56 : decode cX12_can 56 = .ok (.goto 7, 3) := by decide +kernel
theorem dX12_can_59 : decode cX12_can 59 = .ok (.aload_n 0, 1) := by decide +kernel
theorem dX12_can_60 : decode cX12_can 60 = .ok (.getfield 268, 3) := by decide +kernel
theorem dX12_can_63 : decode cX12_can 63 = .ok (.ireturn, 1) := by decide +kernel
theorem dX12_take_0 : decode cX12_take 0 = .ok (.aload_n 0, 1) := by decide +kernel
theorem dX12_take_1 : decode cX12_take 1 = .ok (.iload_n 2, 1) := by decide +kernel
theorem dX12_take_2 : decode cX12_take 2 = .ok (.invokevirtual 256, 3) := by decide +kernel
theorem dX12_take_5 : decode cX12_take 5 = .ok (.iconst 0, 1) := by decide +kernel
theorem dX12_take_6 : decode cX12_take 6 = .ok (.istore 4, 2) := by decide +kernel
theorem dX12_take_8 : decode cX12_take 8 = .ok (.iload 4, 2) := by decide +kernel
theorem dX12_take_10 : decode cX12_take 10 = .ok (.iconst 5, 1) := by decide +kernel
theorem dX12_take_11 : decode cX12_take 11 = .ok (.if_icmp .ge 33, 3) := by decide +kernel
theorem dX12_take_14 : decode cX12_take 14 = .ok (.aload_n 0, 1) := by decide +kernel
theorem dX12_take_15 : decode cX12_take 15 = .ok (.getfield 7, 3) := by decide +kernel
theorem dX12_take_18 : decode cX12_take 18 = .ok (.aload_n 0, 1) := by decide +kernel
theorem dX12_take_19 : decode cX12_take 19 = .ok (.getfield 67, 3) := by decide +kernel
theorem dX12_take_22 : decode cX12_take 22 = .ok (.iload 4, 2) := by decide +kernel
theorem dX12_take_24 : decode cX12_take 24 = .ok (.iaload, 1) := by decide +kernel
theorem dX12_take_25 : decode cX12_take 25 = .ok (.dup2, 1) := by decide +kernel
theorem dX12_take_26 : decode cX12_take 26 = .ok (.iaload, 1) := by decide +kernel
theorem dX12_take_27 : decode cX12_take 27 = .ok (.iload_n 3, 1) := by decide +kernel
theorem dX12_take_28 : decode cX12_take 28 = .ok (.aload_n 0, 1) := by decide +kernel
theorem dX12_take_29 : decode cX12_take 29 = .ok (.iload_n 1, 1) := by decide +kernel
theorem dX12_take_30 : decode cX12_take 30 = .ok (.iload 4, 2) := by decide +kernel
theorem dX12_take_32 : decode cX12_take 32 = .ok (.invokevirtual 124, 3) := by decide +kernel
theorem dX12_take_35 : decode cX12_take 35 = .ok (.imul, 1) := by decide +kernel
theorem dX12_take_36 : decode cX12_take 36 = .ok (.isub, 1) := by decide +kernel
theorem dX12_take_37 : decode cX12_take 37 = .ok (.iastore, 1) := by decide +kernel
theorem dX12_take_38 : decode cX12_take 38 = .ok (.iinc 4 1, 3) := by decide +kernel
theorem dX12_take_41 : decode cX12_take 41 = .ok (.goto (-33), 3) := by decide +kernel
theorem dX12_take_44 : decode cX12_take 44 = .ok (.return_, 1) := by decide +kernel
theorem dX12_lastDay_0 : decode cX12_lastDay 0 = .ok (.iconst 0, 1) := by decide +kernel
theorem dX12_lastDay_1 : decode cX12_lastDay 1 = .ok (.istore_n 1, 1) := by decide +kernel
theorem dX12_lastDay_2 : decode cX12_lastDay 2 = .ok (.iconst 0, 1) := by decide +kernel
theorem dX12_lastDay_3 : decode cX12_lastDay 3 = .ok (.istore_n 2, 1) := by decide +kernel
theorem dX12_lastDay_4 : decode cX12_lastDay 4 = .ok (.iload_n 2, 1) := by decide +kernel
theorem dX12_lastDay_5 : decode cX12_lastDay 5 = .ok (.aload_n 0, 1) := by decide +kernel
theorem dX12_lastDay_6 : decode cX12_lastDay 6 = .ok (.getfield 113, 3) := by decide +kernel
theorem dX12_lastDay_9 : decode cX12_lastDay 9 = .ok (.if_icmp .ge 35, 3) := by decide +kernel
theorem dX12_lastDay_12 : decode cX12_lastDay 12 = .ok (.aload_n 0, 1) := by decide +kernel
theorem dX12_lastDay_13 : decode cX12_lastDay 13 = .ok (.getfield 34, 3) := by decide +kernel
theorem dX12_lastDay_16 : decode cX12_lastDay 16 = .ok (.iload_n 2, 1) := by decide +kernel
theorem dX12_lastDay_17 : decode cX12_lastDay 17 = .ok (.baload, 1) := by decide +kernel
theorem dX12_lastDay_18 : decode cX12_lastDay 18 = .ok (.ifCond .eq 20, 3) := by decide +kernel
theorem dX12_lastDay_21 : decode cX12_lastDay 21 = .ok (.aload_n 0, 1) := by decide +kernel
theorem dX12_lastDay_22 : decode cX12_lastDay 22 = .ok (.getfield 41, 3) := by decide +kernel
theorem dX12_lastDay_25 : decode cX12_lastDay 25 = .ok (.iload_n 2, 1) := by decide +kernel
theorem dX12_lastDay_26 : decode cX12_lastDay 26 = .ok (.iaload, 1) := by decide +kernel
theorem dX12_lastDay_27 : decode cX12_lastDay 27 = .ok (.iload_n 1, 1) := by decide +kernel
theorem dX12_lastDay_28 : decode cX12_lastDay 28 = .ok (.if_icmp .le 10, 3) := by decide +kernel
theorem dX12_lastDay_31 : decode cX12_lastDay 31 = .ok (.aload_n 0, 1) := by decide +kernel
theorem dX12_lastDay_32 : decode cX12_lastDay 32 = .ok (.getfield 41, 3) := by decide +kernel
theorem dX12_lastDay_35 : decode cX12_lastDay 35 = .ok (.iload_n 2, 1) := by decide +kernel
theorem dX12_lastDay_36 : decode cX12_lastDay 36 = .ok (.iaload, 1) := by decide +kernel
theorem dX12_lastDay_37 : decode cX12_lastDay 37 = .ok (.istore_n 1, 1) := by decide +kernel
theorem dX12_lastDay_38 : decode cX12_lastDay 38 = .ok (.iinc 2 1, 3) := by decide +kernel
theorem dX12_lastDay_41 : decode cX12_lastDay 41 = .ok (.goto (-37), 3) := by decide +kernel
theorem dX12_lastDay_44 : decode cX12_lastDay 44 = .ok (.iload_n 1, 1) := by decide +kernel
theorem dX12_lastDay_45 : decode cX12_lastDay 45 = .ok (.ireturn, 1) := by decide +kernel
theorem dX12_knit_0 : decode cX12_knit 0 = .ok (.aload_n 0, 1) := by decide +kernel
theorem dX12_knit_1 : decode cX12_knit 1 = .ok (.iload_n 1, 1) := by decide +kernel
theorem dX12_knit_2 : decode cX12_knit 2 = .ok (.invokevirtual 127, 3) := by decide +kernel
theorem dX12_knit_5 : decode cX12_knit 5 = .ok (.ifCond .eq 27, 3) := by decide +kernel
theorem dX12_knit_8 : decode cX12_knit 8 = .ok (.iload_n 2, 1) := by decide +kernel
theorem dX12_knit_9 : decode cX12_knit 9 = .ok (.iconst 0, 1) := by decide +kernel
theorem dX12_knit_10 : decode cX12_knit 10 = .ok (.sipush 7775, 3) := by decide +kernel
theorem dX12_knit_13 : decode cX12_knit 13 = .ok (.invokestatic 109, 3) := by decide +kernel
theorem dX12_knit_16 : decode cX12_knit 16 = .ok (.ifCond .eq 16, 3) := by decide +kernel
theorem dX12_knit_19 : decode cX12_knit 19 = .ok (.iload_n 3, 1) := by decide +kernel
theorem dX12_knit_20 : decode cX12_knit 20 = .ok (.aload_n 0, 1) := by decide +kernel
theorem dX12_knit_21 : decode cX12_knit 21 = .ok (.invokevirtual 281, 3) := by decide +kernel
theorem dX12_knit_24 : decode cX12_knit 24 = .ok (.bipush 99, 2) := by decide +kernel
theorem dX12_knit_26 : decode cX12_knit 26 = .ok (.invokestatic 109, 3) := by decide +kernel
theorem dX12_knit_29 : decode cX12_knit 29 = .ok (.ifCond .ne 6, 3) := by decide +kernel
theorem dX12_knit_32 : decode cX12_knit 32 = .ok (.bipush (-2), 2) := by decide +kernel
theorem dX12_knit_34 : decode cX12_knit 34 = .ok (.ireturn, 1) := by decide +kernel
theorem dX12_knit_35 : decode cX12_knit 35 = .ok (.aload_n 0, 1) := by decide +kernel
theorem dX12_knit_36 : decode cX12_knit 36 = .ok (.getfield 34, 3) := by decide +kernel
theorem dX12_knit_39 : decode cX12_knit 39 = .ok (.iload_n 1, 1) := by decide +kernel
theorem dX12_knit_40 : decode cX12_knit 40 = .ok (.baload, 1) := by decide +kernel
theorem dX12_knit_41 : decode cX12_knit 41 = .ok (.ifCond .eq 6, 3) := by decide +kernel
theorem dX12_knit_44 : decode cX12_knit 44 = .ok (.bipush (-3), 2) := by decide +kernel
theorem dX12_knit_46 : decode cX12_knit 46 = .ok (.ireturn, 1) := by decide +kernel
theorem dX12_knit_47 : decode cX12_knit 47 = .ok (.aload_n 0, 1) := by decide +kernel
theorem dX12_knit_48 : decode cX12_knit 48 = .ok (.iload_n 1, 1) := by decide +kernel
theorem dX12_knit_49 : decode cX12_knit 49 = .ok (.iload_n 2, 1) := by decide +kernel
theorem dX12_knit_50 : decode cX12_knit 50 = .ok (.invokevirtual 259, 3) := by decide +kernel
theorem dX12_knit_53 : decode cX12_knit 53 = .ok (.istore 4, 2) := by decide +kernel
theorem dX12_knit_55 : decode cX12_knit 55 = .ok (.iload 4, 2) := by decide +kernel
theorem dX12_knit_57 : decode cX12_knit 57 = .ok (.iconst (-1), 1) := by decide +kernel
theorem dX12_knit_58 : decode cX12_knit 58 = .ok (.if_icmp .eq 6, 3) := by decide +kernel
theorem dX12_knit_61 : decode cX12_knit 61 = .ok (.iload 4, 2) := by decide +kernel
theorem dX12_knit_63 : decode cX12_knit 63 = .ok (.ireturn, 1) := by decide +kernel
theorem dX12_knit_64 : decode cX12_knit 64 = .ok (.aload_n 0, 1) := by decide +kernel
theorem dX12_knit_65 : decode cX12_knit 65 = .ok (.iload_n 1, 1) := by decide +kernel
theorem dX12_knit_66 : decode cX12_knit 66 = .ok (.iload_n 2, 1) := by decide +kernel
theorem dX12_knit_67 : decode cX12_knit 67 = .ok (.iconst 1, 1) := by decide +kernel
theorem dX12_knit_68 : decode cX12_knit 68 = .ok (.invokevirtual 284, 3) := by decide +kernel
theorem dX12_knit_71 : decode cX12_knit 71 = .ok (.aload_n 0, 1) := by decide +kernel
theorem dX12_knit_72 : decode cX12_knit 72 = .ok (.getfield 34, 3) := by decide +kernel
theorem dX12_knit_75 : decode cX12_knit 75 = .ok (.iload_n 1, 1) := by decide +kernel
theorem dX12_knit_76 : decode cX12_knit 76 = .ok (.iconst 1, 1) := by decide +kernel
theorem dX12_knit_77 : decode cX12_knit 77 = .ok (.bastore, 1) := by decide +kernel
theorem dX12_knit_78 : decode cX12_knit 78 = .ok (.aload_n 0, 1) := by decide +kernel
theorem dX12_knit_79 : decode cX12_knit 79 = .ok (.getfield 38, 3) := by decide +kernel
theorem dX12_knit_82 : decode cX12_knit 82 = .ok (.iload_n 1, 1) := by decide +kernel
theorem dX12_knit_83 : decode cX12_knit 83 = .ok (.iload_n 2, 1) := by decide +kernel
theorem dX12_knit_84 : decode cX12_knit 84 = .ok (.iastore, 1) := by decide +kernel
theorem dX12_knit_85 : decode cX12_knit 85 = .ok (.aload_n 0, 1) := by decide +kernel
theorem dX12_knit_86 : decode cX12_knit 86 = .ok (.getfield 41, 3) := by decide +kernel
theorem dX12_knit_89 : decode cX12_knit 89 = .ok (.iload_n 1, 1) := by decide +kernel
theorem dX12_knit_90 : decode cX12_knit 90 = .ok (.iload_n 3, 1) := by decide +kernel
theorem dX12_knit_91 : decode cX12_knit 91 = .ok (.iastore, 1) := by decide +kernel
theorem dX12_knit_92 : decode cX12_knit 92 = .ok (.iconst (-1), 1) := by decide +kernel
theorem dX12_knit_93 : decode cX12_knit 93 = .ok (.ireturn, 1) := by decide +kernel
theorem dX12_undo_0 : decode cX12_undo 0 = .ok (.aload_n 0, 1) := by decide +kernel
theorem dX12_undo_1 : decode cX12_undo 1 = .ok (.iload_n 1, 1) := by decide +kernel
theorem dX12_undo_2 : decode cX12_undo 2 = .ok (.invokevirtual 127, 3) := by decide +kernel
theorem dX12_undo_5 : decode cX12_undo 5 = .ok (.ifCond .ne 6, 3) := by decide +kernel
theorem dX12_undo_8 : decode cX12_undo 8 = .ok (.bipush (-2), 2) := by decide +kernel
theorem dX12_undo_10 : decode cX12_undo 10 = .ok (.ireturn, 1) := by decide +kernel
theorem dX12_undo_11 : decode cX12_undo 11 = .ok (.aload_n 0, 1) := by decide +kernel
theorem dX12_undo_12 : decode cX12_undo 12 = .ok (.getfield 34, 3) := by decide +kernel
theorem dX12_undo_15 : decode cX12_undo 15 = .ok (.iload_n 1, 1) := by decide +kernel
theorem dX12_undo_16 : decode cX12_undo 16 = .ok (.baload, 1) := by decide +kernel
theorem dX12_undo_17 : decode cX12_undo 17 = .ok (.ifCond .ne 6, 3) := by decide +kernel
theorem dX12_undo_20 : decode cX12_undo 20 = .ok (.bipush (-3), 2) := by decide +kernel
theorem dX12_undo_22 : decode cX12_undo 22 = .ok (.ireturn, 1) := by decide +kernel
theorem dX12_undo_23 : decode cX12_undo 23 = .ok (.aload_n 0, 1) := by decide +kernel
theorem dX12_undo_24 : decode cX12_undo 24 = .ok (.getfield 34, 3) := by decide +kernel
theorem dX12_undo_27 : decode cX12_undo 27 = .ok (.iload_n 1, 1) := by decide +kernel
theorem dX12_undo_28 : decode cX12_undo 28 = .ok (.iconst 0, 1) := by decide +kernel
theorem dX12_undo_29 : decode cX12_undo 29 = .ok (.bastore, 1) := by decide +kernel
theorem dX12_undo_30 : decode cX12_undo 30 = .ok (.aload_n 0, 1) := by decide +kernel
theorem dX12_undo_31 : decode cX12_undo 31 = .ok (.aload_n 0, 1) := by decide +kernel
theorem dX12_undo_32 : decode cX12_undo 32 = .ok (.getfield 38, 3) := by decide +kernel
theorem dX12_undo_35 : decode cX12_undo 35 = .ok (.iload_n 1, 1) := by decide +kernel
theorem dX12_undo_36 : decode cX12_undo 36 = .ok (.iaload, 1) := by decide +kernel
theorem dX12_undo_37 : decode cX12_undo 37 = .ok (.invokevirtual 256, 3) := by decide +kernel
theorem dX12_undo_40 : decode cX12_undo 40 = .ok (.iconst 0, 1) := by decide +kernel
theorem dX12_undo_41 : decode cX12_undo 41 = .ok (.istore_n 2, 1) := by decide +kernel
theorem dX12_undo_42 : decode cX12_undo 42 = .ok (.iconst 0, 1) := by decide +kernel
theorem dX12_undo_43 : decode cX12_undo 43 = .ok (.istore_n 3, 1) := by decide +kernel
theorem dX12_undo_44 : decode cX12_undo 44 = .ok (.iload_n 3, 1) := by decide +kernel
theorem dX12_undo_45 : decode cX12_undo 45 = .ok (.iconst 5, 1) := by decide +kernel
theorem dX12_undo_46 : decode cX12_undo 46 = .ok (.if_icmp .ge 53, 3) := by decide +kernel
theorem dX12_undo_49 : decode cX12_undo 49 = .ok (.aload_n 0, 1) := by decide +kernel
theorem dX12_undo_50 : decode cX12_undo 50 = .ok (.iload_n 1, 1) := by decide +kernel
theorem dX12_undo_51 : decode cX12_undo 51 = .ok (.iload_n 3, 1) := by decide +kernel
theorem dX12_undo_52 : decode cX12_undo 52 = .ok (.invokevirtual 124, 3) := by decide +kernel
theorem dX12_undo_55 : decode cX12_undo 55 = .ok (.ifCond .le 14, 3) := by decide +kernel
theorem dX12_undo_58 : decode cX12_undo 58 = .ok (.aload_n 0, 1) := by decide +kernel
theorem dX12_undo_59 : decode cX12_undo 59 = .ok (.iload_n 1, 1) := by decide +kernel
theorem dX12_undo_60 : decode cX12_undo 60 = .ok (.iload_n 3, 1) := by decide +kernel
theorem dX12_undo_61 : decode cX12_undo 61 = .ok (.invokevirtual 124, 3) := by decide +kernel
theorem dX12_undo_64 : decode cX12_undo 64 = .ok (.iconst 1, 1) := by decide +kernel
theorem dX12_undo_65 : decode cX12_undo 65 = .ok (.isub, 1) := by decide +kernel
theorem dX12_undo_66 : decode cX12_undo 66 = .ok (.goto 4, 3) := by decide +kernel
theorem dX12_undo_69 : decode cX12_undo 69 = .ok (.iconst 0, 1) := by decide +kernel
theorem dX12_undo_70 : decode cX12_undo 70 = .ok (.istore 4, 2) := by decide +kernel
theorem dX12_undo_72 : decode cX12_undo 72 = .ok (.aload_n 0, 1) := by decide +kernel
theorem dX12_undo_73 : decode cX12_undo 73 = .ok (.getfield 7, 3) := by decide +kernel
theorem dX12_undo_76 : decode cX12_undo 76 = .ok (.aload_n 0, 1) := by decide +kernel
theorem dX12_undo_77 : decode cX12_undo 77 = .ok (.getfield 67, 3) := by decide +kernel
theorem dX12_undo_80 : decode cX12_undo 80 = .ok (.iload_n 3, 1) := by decide +kernel
theorem dX12_undo_81 : decode cX12_undo 81 = .ok (.iaload, 1) := by decide +kernel
theorem dX12_undo_82 : decode cX12_undo 82 = .ok (.dup2, 1) := by decide +kernel
theorem dX12_undo_83 : decode cX12_undo 83 = .ok (.iaload, 1) := by decide +kernel
theorem dX12_undo_84 : decode cX12_undo 84 = .ok (.iload 4, 2) := by decide +kernel
theorem dX12_undo_86 : decode cX12_undo 86 = .ok (.iadd, 1) := by decide +kernel
theorem dX12_undo_87 : decode cX12_undo 87 = .ok (.iastore, 1) := by decide +kernel
theorem dX12_undo_88 : decode cX12_undo 88 = .ok (.iload_n 2, 1) := by decide +kernel
theorem dX12_undo_89 : decode cX12_undo 89 = .ok (.iload 4, 2) := by decide +kernel
theorem dX12_undo_91 : decode cX12_undo 91 = .ok (.iadd, 1) := by decide +kernel
theorem dX12_undo_92 : decode cX12_undo 92 = .ok (.istore_n 2, 1) := by decide +kernel
theorem dX12_undo_93 : decode cX12_undo 93 = .ok (.iinc 3 1, 3) := by decide +kernel
theorem dX12_undo_96 : decode cX12_undo 96 = .ok (.goto (-52), 3) := by decide +kernel
theorem dX12_undo_99 : decode cX12_undo 99 = .ok (.iload_n 2, 1) := by decide +kernel
theorem dX12_undo_100 : decode cX12_undo 100 = .ok (.ireturn, 1) := by decide +kernel
theorem dX12_goOn_0 : decode cX12_goOn 0 = .ok (.iload 4, 2) := by decide +kernel
theorem dX12_goOn_2 : decode cX12_goOn 2 = .ok (.aload_n 0, 1) := by decide +kernel
theorem dX12_goOn_3 : decode cX12_goOn 3 = .ok (.getfield 288, 3) := by decide +kernel
theorem dX12_goOn_6 : decode cX12_goOn 6 = .ok (.if_icmp .gt 36, 3) := by decide +kernel
theorem dX12_goOn_9 : decode cX12_goOn 9 = .ok (.iload 4, 2) := by decide +kernel
theorem dX12_goOn_11 : decode cX12_goOn 11 = .ok (.aload_n 0, 1) := by decide +kernel
theorem dX12_goOn_12 : decode cX12_goOn 12 = .ok (.getfield 288, 3) := by decide +kernel
theorem dX12_goOn_15 : decode cX12_goOn 15 = .ok (.if_icmp .ne 31, 3) := by decide +kernel
theorem dX12_goOn_18 : decode cX12_goOn 18 = .ok (.iload_n 3, 1) := by decide +kernel
theorem dX12_goOn_19 : decode cX12_goOn 19 = .ok (.aload_n 0, 1) := by decide +kernel
theorem dX12_goOn_20 : decode cX12_goOn 20 = .ok (.getfield 291, 3) := by decide +kernel
theorem dX12_goOn_23 : decode cX12_goOn 23 = .ok (.if_icmp .lt 19, 3) := by decide +kernel
theorem dX12_goOn_26 : decode cX12_goOn 26 = .ok (.iload_n 3, 1) := by decide +kernel
theorem dX12_goOn_27 : decode cX12_goOn 27 = .ok (.aload_n 0, 1) := by decide +kernel
theorem dX12_goOn_28 : decode cX12_goOn 28 = .ok (.getfield 291, 3) := by decide +kernel
theorem dX12_goOn_31 : decode cX12_goOn 31 = .ok (.if_icmp .ne 15, 3) := by decide +kernel
theorem dX12_goOn_34 : decode cX12_goOn 34 = .ok (.iload_n 2, 1) := by decide +kernel
theorem dX12_goOn_35 : decode cX12_goOn 35 = .ok (.aload_n 0, 1) := by decide +kernel
theorem dX12_goOn_36 : decode cX12_goOn 36 = .ok (.getfield 294, 3) := by decide +kernel
theorem dX12_goOn_39 : decode cX12_goOn 39 = .ok (.if_icmp .ge 7, 3) := by decide +kernel
theorem dX12_goOn_42 : decode cX12_goOn 42 = .ok (.iconst 1, 1) := by decide +kernel
theorem dX12_goOn_43 : decode cX12_goOn 43 = .ok (.goto 4, 3) := by decide +kernel
theorem dX12_goOn_46 : decode cX12_goOn 46 = .ok (.iconst 0, 1) := by decide +kernel
theorem dX12_goOn_47 : decode cX12_goOn 47 = .ok (.istore 5, 2) := by decide +kernel
theorem dX12_goOn_49 : decode cX12_goOn 49 = .ok (.iload 5, 2) := by decide +kernel
theorem dX12_goOn_51 : decode cX12_goOn 51 = .ok (.ifCond .eq 19, 3) := by decide +kernel
theorem dX12_goOn_54 : decode cX12_goOn 54 = .ok (.aload_n 0, 1) := by decide +kernel
theorem dX12_goOn_55 : decode cX12_goOn 55 = .ok (.iload 4, 2) := by decide +kernel
theorem dX12_goOn_57 : decode cX12_goOn 57 = .ok (.putfield 288, 3) := by decide +kernel
theorem dX12_goOn_60 : decode cX12_goOn 60 = .ok (.aload_n 0, 1) := by decide +kernel
theorem dX12_goOn_61 : decode cX12_goOn 61 = .ok (.iload_n 2, 1) := by decide +kernel
theorem dX12_goOn_62 : decode cX12_goOn 62 = .ok (.putfield 294, 3) := by decide +kernel
theorem dX12_goOn_65 : decode cX12_goOn 65 = .ok (.aload_n 0, 1) := by decide +kernel
theorem dX12_goOn_66 : decode cX12_goOn 66 = .ok (.iload_n 3, 1) := by decide +kernel
theorem dX12_goOn_67 : decode cX12_goOn 67 = .ok (.putfield 291, 3) := by decide +kernel
theorem dX12_goOn_70 : decode cX12_goOn 70 = .ok (.iconst 0, 1) := by decide +kernel
theorem dX12_goOn_71 : decode cX12_goOn 71 = .ok (.istore 6, 2) := by decide +kernel
theorem dX12_goOn_73 : decode cX12_goOn 73 = .ok (.iload 6, 2) := by decide +kernel
theorem dX12_goOn_75 : decode cX12_goOn 75 = .ok (.aload_n 0, 1) := by decide +kernel
theorem dX12_goOn_76 : decode cX12_goOn 76 = .ok (.getfield 113, 3) := by decide +kernel
theorem dX12_goOn_79 : decode cX12_goOn 79 = .ok (.if_icmp .ge 109, 3) := by decide +kernel
theorem dX12_goOn_82 : decode cX12_goOn 82 = .ok (.iload 6, 2) := by decide +kernel
theorem dX12_goOn_84 : decode cX12_goOn 84 = .ok (.iconst 3, 1) := by decide +kernel
theorem dX12_goOn_85 : decode cX12_goOn 85 = .ok (.if_icmp .ge 103, 3) := by decide +kernel
theorem dX12_goOn_88 : decode cX12_goOn 88 = .ok (.iload_n 1, 1) := by decide +kernel
theorem dX12_goOn_89 : decode cX12_goOn 89 = .ok (.iload 6, 2) := by decide +kernel
theorem dX12_goOn_91 : decode cX12_goOn 91 = .ok (.ishr, 1) := by decide +kernel
theorem dX12_goOn_92 : decode cX12_goOn 92 = .ok (.iconst 1, 1) := by decide +kernel
theorem dX12_goOn_93 : decode cX12_goOn 93 = .ok (.iand, 1) := by decide +kernel
theorem dX12_goOn_94 : decode cX12_goOn 94 = .ok (.iconst 1, 1) := by decide +kernel
theorem dX12_goOn_95 : decode cX12_goOn 95 = .ok (.if_icmp .eq 87, 3) := by decide +kernel
theorem dX12_goOn_98 : decode cX12_goOn 98 = .ok (.aload_n 0, 1) := by decide +kernel
theorem dX12_goOn_99 : decode cX12_goOn 99 = .ok (.getfield 34, 3) := by decide +kernel
theorem dX12_goOn_102 : decode cX12_goOn 102 = .ok (.iload 6, 2) := by decide +kernel
theorem dX12_goOn_104 : decode cX12_goOn 104 = .ok (.baload, 1) := by decide +kernel
theorem dX12_goOn_105 : decode cX12_goOn 105 = .ok (.ifCond .eq 6, 3) := by decide +kernel
theorem dX12_goOn_108 : decode cX12_goOn 108 = .ok (.goto 74, 3) := by decide +kernel
theorem dX12_goOn_111 : decode cX12_goOn 111 = .ok (.aload_n 0, 1) := by decide +kernel
theorem dX12_goOn_112 : decode cX12_goOn 112 = .ok (.iload 6, 2) := by decide +kernel
theorem dX12_goOn_114 : decode cX12_goOn 114 = .ok (.invokevirtual 278, 3) := by decide +kernel
theorem dX12_goOn_117 : decode cX12_goOn 117 = .ok (.aload_n 0, 1) := by decide +kernel
theorem dX12_goOn_118 : decode cX12_goOn 118 = .ok (.getfield 271, 3) := by decide +kernel
theorem dX12_goOn_121 : decode cX12_goOn 121 = .ok (.ifCond .ne 6, 3) := by decide +kernel
theorem dX12_goOn_124 : decode cX12_goOn 124 = .ok (.goto 58, 3) := by decide +kernel
theorem dX12_goOn_127 : decode cX12_goOn 127 = .ok (.aload_n 0, 1) := by decide +kernel
theorem dX12_goOn_128 : decode cX12_goOn 128 = .ok (.getfield 265, 3) := by decide +kernel
theorem dX12_goOn_131 : decode cX12_goOn 131 = .ok (.istore 7, 2) := by decide +kernel
theorem dX12_goOn_133 : decode cX12_goOn 133 = .ok (.aload_n 0, 1) := by decide +kernel
theorem dX12_goOn_134 : decode cX12_goOn 134 = .ok (.iload 6, 2) := by decide +kernel
theorem dX12_goOn_136 : decode cX12_goOn 136 = .ok (.iload 7, 2) := by decide +kernel
theorem dX12_goOn_138 : decode cX12_goOn 138 = .ok (.iconst 1, 1) := by decide +kernel
theorem dX12_goOn_139 : decode cX12_goOn 139 = .ok (.invokevirtual 284, 3) := by decide +kernel
theorem dX12_goOn_142 : decode cX12_goOn 142 = .ok (.aload_n 0, 1) := by decide +kernel
theorem dX12_goOn_143 : decode cX12_goOn 143 = .ok (.iload_n 1, 1) := by decide +kernel
theorem dX12_goOn_144 : decode cX12_goOn 144 = .ok (.iconst 1, 1) := by decide +kernel
theorem dX12_goOn_145 : decode cX12_goOn 145 = .ok (.iload 6, 2) := by decide +kernel
theorem dX12_goOn_147 : decode cX12_goOn 147 = .ok (.ishl, 1) := by decide +kernel
theorem dX12_goOn_148 : decode cX12_goOn 148 = .ok (.ior, 1) := by decide +kernel
theorem dX12_goOn_149 : decode cX12_goOn 149 = .ok (.bipush 10, 2) := by decide +kernel
theorem dX12_goOn_151 : decode cX12_goOn 151 = .ok (.iload_n 2, 1) := by decide +kernel
theorem dX12_goOn_152 : decode cX12_goOn 152 = .ok (.imul, 1) := by decide +kernel
theorem dX12_goOn_153 : decode cX12_goOn 153 = .ok (.iload 6, 2) := by decide +kernel
theorem dX12_goOn_155 : decode cX12_goOn 155 = .ok (.iadd, 1) := by decide +kernel
theorem dX12_goOn_156 : decode cX12_goOn 156 = .ok (.iconst 1, 1) := by decide +kernel
theorem dX12_goOn_157 : decode cX12_goOn 157 = .ok (.iadd, 1) := by decide +kernel
theorem dX12_goOn_158 : decode cX12_goOn 158 = .ok (.iload_n 3, 1) := by decide +kernel
theorem dX12_goOn_159 : decode cX12_goOn 159 = .ok (.iconst 1, 1) := by decide +kernel
theorem dX12_goOn_160 : decode cX12_goOn 160 = .ok (.iadd, 1) := by decide +kernel
theorem dX12_goOn_161 : decode cX12_goOn 161 = .ok (.iload 4, 2) := by decide +kernel
theorem dX12_goOn_163 : decode cX12_goOn 163 = .ok (.aload_n 0, 1) := by decide +kernel
theorem dX12_goOn_164 : decode cX12_goOn 164 = .ok (.iload 6, 2) := by decide +kernel
theorem dX12_goOn_166 : decode cX12_goOn 166 = .ok (.invokevirtual 136, 3) := by decide +kernel
theorem dX12_goOn_169 : decode cX12_goOn 169 = .ok (.iadd, 1) := by decide +kernel
theorem dX12_goOn_170 : decode cX12_goOn 170 = .ok (.invokevirtual 297, 3) := by decide +kernel
theorem dX12_goOn_173 : decode cX12_goOn 173 = .ok (.aload_n 0, 1) := by decide +kernel
theorem dX12_goOn_174 : decode cX12_goOn 174 = .ok (.iload 6, 2) := by decide +kernel
theorem dX12_goOn_176 : decode cX12_goOn 176 = .ok (.iload 7, 2) := by decide +kernel
theorem dX12_goOn_178 : decode cX12_goOn 178 = .ok (.iconst (-1), 1) := by decide +kernel
theorem dX12_goOn_179 : decode cX12_goOn 179 = .ok (.invokevirtual 284, 3) := by decide +kernel
theorem dX12_goOn_182 : decode cX12_goOn 182 = .ok (.iinc 6 1, 3) := by decide +kernel
theorem dX12_goOn_185 : decode cX12_goOn 185 = .ok (.goto (-112), 3) := by decide +kernel
theorem dX12_goOn_188 : decode cX12_goOn 188 = .ok (.return_, 1) := by decide +kernel
theorem dX12_findMost_0 : decode cX12_findMost 0 = .ok (.aload_n 0, 1) := by decide +kernel
theorem dX12_findMost_1 : decode cX12_findMost 1 = .ok (.iconst 0, 1) := by decide +kernel
theorem dX12_findMost_2 : decode cX12_findMost 2 = .ok (.putfield 288, 3) := by decide +kernel
theorem dX12_findMost_5 : decode cX12_findMost 5 = .ok (.aload_n 0, 1) := by decide +kernel
theorem dX12_findMost_6 : decode cX12_findMost 6 = .ok (.iconst 0, 1) := by decide +kernel
theorem dX12_findMost_7 : decode cX12_findMost 7 = .ok (.putfield 294, 3) := by decide +kernel
theorem dX12_findMost_10 : decode cX12_findMost 10 = .ok (.aload_n 0, 1) := by decide +kernel
theorem dX12_findMost_11 : decode cX12_findMost 11 = .ok (.iconst 0, 1) := by decide +kernel
theorem dX12_findMost_12 : decode cX12_findMost 12 = .ok (.putfield 291, 3) := by decide +kernel
theorem dX12_findMost_15 : decode cX12_findMost 15 = .ok (.aload_n 0, 1) := by decide +kernel
theorem dX12_findMost_16 : decode cX12_findMost 16 = .ok (.iconst 0, 1) := by decide +kernel
theorem dX12_findMost_17 : decode cX12_findMost 17 = .ok (.iconst 0, 1) := by decide +kernel
theorem dX12_findMost_18 : decode cX12_findMost 18 = .ok (.iconst 0, 1) := by decide +kernel
theorem dX12_findMost_19 : decode cX12_findMost 19 = .ok (.iconst 0, 1) := by decide +kernel
theorem dX12_findMost_20 : decode cX12_findMost 20 = .ok (.invokevirtual 297, 3) := by decide +kernel
theorem dX12_findMost_23 : decode cX12_findMost 23 = .ok (.return_, 1) := by decide +kernel
theorem dX12_allOunces_0 : decode cX12_allOunces 0 = .ok (.iconst 0, 1) := by decide +kernel
theorem dX12_allOunces_1 : decode cX12_allOunces 1 = .ok (.istore_n 1, 1) := by decide +kernel
theorem dX12_allOunces_2 : decode cX12_allOunces 2 = .ok (.iconst 0, 1) := by decide +kernel
theorem dX12_allOunces_3 : decode cX12_allOunces 3 = .ok (.istore_n 2, 1) := by decide +kernel
theorem dX12_allOunces_4 : decode cX12_allOunces 4 = .ok (.iload_n 2, 1) := by decide +kernel
theorem dX12_allOunces_5 : decode cX12_allOunces 5 = .ok (.aload_n 0, 1) := by decide +kernel
theorem dX12_allOunces_6 : decode cX12_allOunces 6 = .ok (.getfield 106, 3) := by decide +kernel
theorem dX12_allOunces_9 : decode cX12_allOunces 9 = .ok (.if_icmp .ge 18, 3) := by decide +kernel
theorem dX12_allOunces_12 : decode cX12_allOunces 12 = .ok (.iload_n 1, 1) := by decide +kernel
theorem dX12_allOunces_13 : decode cX12_allOunces 13 = .ok (.aload_n 0, 1) := by decide +kernel
theorem dX12_allOunces_14 : decode cX12_allOunces 14 = .ok (.getfield 7, 3) := by decide +kernel
theorem dX12_allOunces_17 : decode cX12_allOunces 17 = .ok (.iload_n 2, 1) := by decide +kernel
theorem dX12_allOunces_18 : decode cX12_allOunces 18 = .ok (.iaload, 1) := by decide +kernel
theorem dX12_allOunces_19 : decode cX12_allOunces 19 = .ok (.iadd, 1) := by decide +kernel
theorem dX12_allOunces_20 : decode cX12_allOunces 20 = .ok (.istore_n 1, 1) := by decide +kernel
theorem dX12_allOunces_21 : decode cX12_allOunces 21 = .ok (.iinc 2 1, 3) := by decide +kernel
theorem dX12_allOunces_24 : decode cX12_allOunces 24 = .ok (.goto (-20), 3) := by decide +kernel
theorem dX12_allOunces_27 : decode cX12_allOunces 27 = .ok (.iload_n 1, 1) := by decide +kernel
theorem dX12_allOunces_28 : decode cX12_allOunces 28 = .ok (.ireturn, 1) := by decide +kernel
theorem dX12_most_0 : decode cX12_most 0 = .ok (.iload_n 1, 1) := by decide +kernel
theorem dX12_most_1 : decode cX12_most 1 = .ok (.iconst 0, 1) := by decide +kernel
theorem dX12_most_2 : decode cX12_most 2 = .ok (.iconst 2, 1) := by decide +kernel
theorem dX12_most_3 : decode cX12_most 3 = .ok (.invokestatic 109, 3) := by decide +kernel
theorem dX12_most_6 : decode cX12_most 6 = .ok (.ifCond .ne 6, 3) := by decide +kernel
theorem dX12_most_9 : decode cX12_most 9 = .ok (.bipush (-2), 2) := by decide +kernel
theorem dX12_most_11 : decode cX12_most 11 = .ok (.ireturn, 1) := by decide +kernel
theorem dX12_most_12 : decode cX12_most 12 = .ok (.iload_n 1, 1) := by decide +kernel
theorem dX12_most_13 : decode cX12_most 13 = .ok (.iconst 2, 1) := by decide +kernel
theorem dX12_most_14 : decode cX12_most 14 = .ok (.if_icmp .ge 23, 3) := by decide +kernel
theorem dX12_most_17 : decode cX12_most 17 = .ok (.aload_n 0, 1) := by decide +kernel
theorem dX12_most_18 : decode cX12_most 18 = .ok (.invokevirtual 301, 3) := by decide +kernel
theorem dX12_most_21 : decode cX12_most 21 = .ok (.iload_n 1, 1) := by decide +kernel
theorem dX12_most_22 : decode cX12_most 22 = .ok (.ifCond .ne 10, 3) := by decide +kernel
theorem dX12_most_25 : decode cX12_most 25 = .ok (.aload_n 0, 1) := by decide +kernel
theorem dX12_most_26 : decode cX12_most 26 = .ok (.getfield 288, 3) := by decide +kernel
theorem dX12_most_29 : decode cX12_most 29 = .ok (.goto 7, 3) := by decide +kernel
theorem dX12_most_32 : decode cX12_most 32 = .ok (.aload_n 0, 1) := by decide +kernel
theorem dX12_most_33 : decode cX12_most 33 = .ok (.getfield 294, 3) := by decide +kernel
theorem dX12_most_36 : decode cX12_most 36 = .ok (.ireturn, 1) := by decide +kernel
theorem dX12_most_37 : decode cX12_most 37 = .ok (.iconst 0, 1) := by decide +kernel
theorem dX12_most_38 : decode cX12_most 38 = .ok (.istore_n 2, 1) := by decide +kernel
theorem dX12_most_39 : decode cX12_most 39 = .ok (.iconst 0, 1) := by decide +kernel
theorem dX12_most_40 : decode cX12_most 40 = .ok (.istore_n 3, 1) := by decide +kernel
theorem dX12_most_41 : decode cX12_most 41 = .ok (.iload_n 3, 1) := by decide +kernel
theorem dX12_most_42 : decode cX12_most 42 = .ok (.aload_n 0, 1) := by decide +kernel
theorem dX12_most_43 : decode cX12_most 43 = .ok (.getfield 113, 3) := by decide +kernel
theorem dX12_most_46 : decode cX12_most 46 = .ok (.if_icmp .ge 51, 3) := by decide +kernel
theorem dX12_most_49 : decode cX12_most 49 = .ok (.iload_n 3, 1) := by decide +kernel
theorem dX12_most_50 : decode cX12_most 50 = .ok (.iconst 3, 1) := by decide +kernel
theorem dX12_most_51 : decode cX12_most 51 = .ok (.if_icmp .ge 46, 3) := by decide +kernel
theorem dX12_most_54 : decode cX12_most 54 = .ok (.aload_n 0, 1) := by decide +kernel
theorem dX12_most_55 : decode cX12_most 55 = .ok (.getfield 34, 3) := by decide +kernel
theorem dX12_most_58 : decode cX12_most 58 = .ok (.iload_n 3, 1) := by decide +kernel
theorem dX12_most_59 : decode cX12_most 59 = .ok (.baload, 1) := by decide +kernel
theorem dX12_most_60 : decode cX12_most 60 = .ok (.ifCond .ne 31, 3) := by decide +kernel
theorem dX12_most_63 : decode cX12_most 63 = .ok (.aload_n 0, 1) := by decide +kernel
theorem dX12_most_64 : decode cX12_most 64 = .ok (.iload_n 3, 1) := by decide +kernel
theorem dX12_most_65 : decode cX12_most 65 = .ok (.invokevirtual 136, 3) := by decide +kernel
theorem dX12_most_68 : decode cX12_most 68 = .ok (.ifCond .le 23, 3) := by decide +kernel
theorem dX12_most_71 : decode cX12_most 71 = .ok (.aload_n 0, 1) := by decide +kernel
theorem dX12_most_72 : decode cX12_most 72 = .ok (.iload_n 3, 1) := by decide +kernel
theorem dX12_most_73 : decode cX12_most 73 = .ok (.invokevirtual 140, 3) := by decide +kernel
theorem dX12_most_76 : decode cX12_most 76 = .ok (.aload_n 0, 1) := by decide +kernel
theorem dX12_most_77 : decode cX12_most 77 = .ok (.invokevirtual 304, 3) := by decide +kernel
theorem dX12_most_80 : decode cX12_most 80 = .ok (.if_icmp .gt 11, 3) := by decide +kernel
theorem dX12_most_83 : decode cX12_most 83 = .ok (.iload_n 2, 1) := by decide +kernel
theorem dX12_most_84 : decode cX12_most 84 = .ok (.aload_n 0, 1) := by decide +kernel
theorem dX12_most_85 : decode cX12_most 85 = .ok (.iload_n 3, 1) := by decide +kernel
theorem dX12_most_86 : decode cX12_most 86 = .ok (.invokevirtual 136, 3) := by decide +kernel
theorem dX12_most_89 : decode cX12_most 89 = .ok (.iadd, 1) := by decide +kernel
theorem dX12_most_90 : decode cX12_most 90 = .ok (.istore_n 2, 1) := by decide +kernel
theorem dX12_most_91 : decode cX12_most 91 = .ok (.iinc 3 1, 3) := by decide +kernel
theorem dX12_most_94 : decode cX12_most 94 = .ok (.goto (-53), 3) := by decide +kernel
theorem dX12_most_97 : decode cX12_most 97 = .ok (.iload_n 2, 1) := by decide +kernel
theorem dX12_most_98 : decode cX12_most 98 = .ok (.ireturn, 1) := by decide +kernel
theorem dX12_more_0 : decode cX12_more 0 = .ok (.iload_n 1, 1) := by decide +kernel
theorem dX12_more_1 : decode cX12_more 1 = .ok (.iconst 1, 1) := by decide +kernel
theorem dX12_more_2 : decode cX12_more 2 = .ok (.bipush 50, 2) := by decide +kernel
theorem dX12_more_4 : decode cX12_more 4 = .ok (.invokestatic 109, 3) := by decide +kernel
theorem dX12_more_7 : decode cX12_more 7 = .ok (.ifCond .ne 6, 3) := by decide +kernel
theorem dX12_more_10 : decode cX12_more 10 = .ok (.bipush (-2), 2) := by decide +kernel
theorem dX12_more_12 : decode cX12_more 12 = .ok (.ireturn, 1) := by decide +kernel
theorem dX12_more_13 : decode cX12_more 13 = .ok (.aload_n 0, 1) := by decide +kernel
theorem dX12_more_14 : decode cX12_more 14 = .ok (.invokevirtual 301, 3) := by decide +kernel
theorem dX12_more_17 : decode cX12_more 17 = .ok (.aload_n 0, 1) := by decide +kernel
theorem dX12_more_18 : decode cX12_more 18 = .ok (.getfield 288, 3) := by decide +kernel
theorem dX12_more_21 : decode cX12_more 21 = .ok (.istore_n 2, 1) := by decide +kernel
theorem dX12_more_22 : decode cX12_more 22 = .ok (.iconst (-1), 1) := by decide +kernel
theorem dX12_more_23 : decode cX12_more 23 = .ok (.istore_n 3, 1) := by decide +kernel
theorem dX12_more_24 : decode cX12_more 24 = .ok (.iconst 0, 1) := by decide +kernel
theorem dX12_more_25 : decode cX12_more 25 = .ok (.istore 4, 2) := by decide +kernel
theorem dX12_more_27 : decode cX12_more 27 = .ok (.iload 4, 2) := by decide +kernel
theorem dX12_more_29 : decode cX12_more 29 = .ok (.aload_n 0, 1) := by decide +kernel
theorem dX12_more_30 : decode cX12_more 30 = .ok (.getfield 106, 3) := by decide +kernel
theorem dX12_more_33 : decode cX12_more 33 = .ok (.if_icmp .ge 54, 3) := by decide +kernel
theorem dX12_more_36 : decode cX12_more 36 = .ok (.aload_n 0, 1) := by decide +kernel
theorem dX12_more_37 : decode cX12_more 37 = .ok (.getfield 7, 3) := by decide +kernel
theorem dX12_more_40 : decode cX12_more 40 = .ok (.iload 4, 2) := by decide +kernel
theorem dX12_more_42 : decode cX12_more 42 = .ok (.dup2, 1) := by decide +kernel
theorem dX12_more_43 : decode cX12_more 43 = .ok (.iaload, 1) := by decide +kernel
theorem dX12_more_44 : decode cX12_more 44 = .ok (.iload_n 1, 1) := by decide +kernel
theorem dX12_more_45 : decode cX12_more 45 = .ok (.iadd, 1) := by decide +kernel
theorem dX12_more_46 : decode cX12_more 46 = .ok (.iastore, 1) := by decide +kernel
theorem dX12_more_47 : decode cX12_more 47 = .ok (.aload_n 0, 1) := by decide +kernel
theorem dX12_more_48 : decode cX12_more 48 = .ok (.invokevirtual 301, 3) := by decide +kernel
theorem dX12_more_51 : decode cX12_more 51 = .ok (.aload_n 0, 1) := by decide +kernel
theorem dX12_more_52 : decode cX12_more 52 = .ok (.getfield 7, 3) := by decide +kernel
theorem dX12_more_55 : decode cX12_more 55 = .ok (.iload 4, 2) := by decide +kernel
theorem dX12_more_57 : decode cX12_more 57 = .ok (.dup2, 1) := by decide +kernel
theorem dX12_more_58 : decode cX12_more 58 = .ok (.iaload, 1) := by decide +kernel
theorem dX12_more_59 : decode cX12_more 59 = .ok (.iload_n 1, 1) := by decide +kernel
theorem dX12_more_60 : decode cX12_more 60 = .ok (.isub, 1) := by decide +kernel
theorem dX12_more_61 : decode cX12_more 61 = .ok (.iastore, 1) := by decide +kernel
theorem dX12_more_62 : decode cX12_more 62 = .ok (.aload_n 0, 1) := by decide +kernel
theorem dX12_more_63 : decode cX12_more 63 = .ok (.getfield 288, 3) := by decide +kernel
theorem dX12_more_66 : decode cX12_more 66 = .ok (.iload_n 2, 1) := by decide +kernel
theorem dX12_more_67 : decode cX12_more 67 = .ok (.if_icmp .gt 6, 3) := by decide +kernel
theorem dX12_more_70 : decode cX12_more 70 = .ok (.goto 11, 3) := by decide +kernel
theorem dX12_more_73 : decode cX12_more 73 = .ok (.aload_n 0, 1) := by decide +kernel
theorem dX12_more_74 : decode cX12_more 74 = .ok (.getfield 288, 3) := by decide +kernel
theorem dX12_more_77 : decode cX12_more 77 = .ok (.istore_n 2, 1) := by decide +kernel
theorem dX12_more_78 : decode cX12_more 78 = .ok (.iload 4, 2) := by decide +kernel
theorem dX12_more_80 : decode cX12_more 80 = .ok (.istore_n 3, 1) := by decide +kernel
theorem dX12_more_81 : decode cX12_more 81 = .ok (.iinc 4 1, 3) := by decide +kernel
theorem dX12_more_84 : decode cX12_more 84 = .ok (.goto (-57), 3) := by decide +kernel
theorem dX12_more_87 : decode cX12_more 87 = .ok (.iload_n 3, 1) := by decide +kernel
theorem dX12_more_88 : decode cX12_more 88 = .ok (.ireturn, 1) := by decide +kernel
theorem dX12_late_0 : decode cX12_late 0 = .ok (.iload_n 1, 1) := by decide +kernel
theorem dX12_late_1 : decode cX12_late 1 = .ok (.iconst 0, 1) := by decide +kernel
theorem dX12_late_2 : decode cX12_late 2 = .ok (.bipush 99, 2) := by decide +kernel
theorem dX12_late_4 : decode cX12_late 4 = .ok (.invokestatic 109, 3) := by decide +kernel
theorem dX12_late_7 : decode cX12_late 7 = .ok (.ifCond .ne 6, 3) := by decide +kernel
theorem dX12_late_10 : decode cX12_late 10 = .ok (.bipush (-2), 2) := by decide +kernel
theorem dX12_late_12 : decode cX12_late 12 = .ok (.ireturn, 1) := by decide +kernel
theorem dX12_late_13 : decode cX12_late 13 = .ok (.iconst 0, 1) := by decide +kernel
theorem dX12_late_14 : decode cX12_late 14 = .ok (.istore_n 2, 1) := by decide +kernel
theorem dX12_late_15 : decode cX12_late 15 = .ok (.iconst 0, 1) := by decide +kernel
theorem dX12_late_16 : decode cX12_late 16 = .ok (.istore_n 3, 1) := by decide +kernel
theorem dX12_late_17 : decode cX12_late 17 = .ok (.iload_n 3, 1) := by decide +kernel
theorem dX12_late_18 : decode cX12_late 18 = .ok (.aload_n 0, 1) := by decide +kernel
theorem dX12_late_19 : decode cX12_late 19 = .ok (.getfield 113, 3) := by decide +kernel
theorem dX12_late_22 : decode cX12_late 22 = .ok (.if_icmp .ge 60, 3) := by decide +kernel
theorem dX12_late_25 : decode cX12_late 25 = .ok (.aload_n 0, 1) := by decide +kernel
theorem dX12_late_26 : decode cX12_late 26 = .ok (.getfield 22, 3) := by decide +kernel
theorem dX12_late_29 : decode cX12_late 29 = .ok (.iload_n 3, 1) := by decide +kernel
theorem dX12_late_30 : decode cX12_late 30 = .ok (.iaload, 1) := by decide +kernel
theorem dX12_late_31 : decode cX12_late 31 = .ok (.iconst 4, 1) := by decide +kernel
theorem dX12_late_32 : decode cX12_late 32 = .ok (.if_icmp .eq 6, 3) := by decide +kernel
theorem dX12_late_35 : decode cX12_late 35 = .ok (.goto 41, 3) := by decide +kernel
theorem dX12_late_38 : decode cX12_late 38 = .ok (.aload_n 0, 1) := by decide +kernel
theorem dX12_late_39 : decode cX12_late 39 = .ok (.getfield 34, 3) := by decide +kernel
theorem dX12_late_42 : decode cX12_late 42 = .ok (.iload_n 3, 1) := by decide +kernel
theorem dX12_late_43 : decode cX12_late 43 = .ok (.baload, 1) := by decide +kernel
theorem dX12_late_44 : decode cX12_late 44 = .ok (.ifCond .eq 12, 3) := by decide +kernel
theorem dX12_late_47 : decode cX12_late 47 = .ok (.aload_n 0, 1) := by decide +kernel
theorem dX12_late_48 : decode cX12_late 48 = .ok (.getfield 41, 3) := by decide +kernel
theorem dX12_late_51 : decode cX12_late 51 = .ok (.iload_n 3, 1) := by decide +kernel
theorem dX12_late_52 : decode cX12_late 52 = .ok (.iaload, 1) := by decide +kernel
theorem dX12_late_53 : decode cX12_late 53 = .ok (.goto 4, 3) := by decide +kernel
theorem dX12_late_56 : decode cX12_late 56 = .ok (.iload_n 1, 1) := by decide +kernel
theorem dX12_late_57 : decode cX12_late 57 = .ok (.aload_n 0, 1) := by decide +kernel
theorem dX12_late_58 : decode cX12_late 58 = .ok (.getfield 28, 3) := by decide +kernel
theorem dX12_late_61 : decode cX12_late 61 = .ok (.iload_n 3, 1) := by decide +kernel
theorem dX12_late_62 : decode cX12_late 62 = .ok (.iaload, 1) := by decide +kernel
theorem dX12_late_63 : decode cX12_late 63 = .ok (.isub, 1) := by decide +kernel
theorem dX12_late_64 : decode cX12_late 64 = .ok (.istore 4, 2) := by decide +kernel
theorem dX12_late_66 : decode cX12_late 66 = .ok (.iload 4, 2) := by decide +kernel
theorem dX12_late_68 : decode cX12_late 68 = .ok (.ifCond .le 8, 3) := by decide +kernel
theorem dX12_late_71 : decode cX12_late 71 = .ok (.iload_n 2, 1) := by decide +kernel
theorem dX12_late_72 : decode cX12_late 72 = .ok (.iload 4, 2) := by decide +kernel
theorem dX12_late_74 : decode cX12_late 74 = .ok (.iadd, 1) := by decide +kernel
theorem dX12_late_75 : decode cX12_late 75 = .ok (.istore_n 2, 1) := by decide +kernel
theorem dX12_late_76 : decode cX12_late 76 = .ok (.iinc 3 1, 3) := by decide +kernel
theorem dX12_late_79 : decode cX12_late 79 = .ok (.goto (-62), 3) := by decide +kernel
theorem dX12_late_82 : decode cX12_late 82 = .ok (.iload_n 2, 1) := by decide +kernel
theorem dX12_late_83 : decode cX12_late 83 = .ok (.ireturn, 1) := by decide +kernel
theorem dX12_doneMany_0 : decode cX12_doneMany 0 = .ok (.iconst 0, 1) := by decide +kernel
theorem dX12_doneMany_1 : decode cX12_doneMany 1 = .ok (.istore_n 1, 1) := by decide +kernel
theorem dX12_doneMany_2 : decode cX12_doneMany 2 = .ok (.iconst 0, 1) := by decide +kernel
theorem dX12_doneMany_3 : decode cX12_doneMany 3 = .ok (.istore_n 2, 1) := by decide +kernel
theorem dX12_doneMany_4 : decode cX12_doneMany 4 = .ok (.iload_n 2, 1) := by decide +kernel
theorem dX12_doneMany_5 : decode cX12_doneMany 5 = .ok (.aload_n 0, 1) := by decide +kernel
theorem dX12_doneMany_6 : decode cX12_doneMany 6 = .ok (.getfield 113, 3) := by decide +kernel
theorem dX12_doneMany_9 : decode cX12_doneMany 9 = .ok (.if_icmp .ge 26, 3) := by decide +kernel
theorem dX12_doneMany_12 : decode cX12_doneMany 12 = .ok (.iload_n 1, 1) := by decide +kernel
theorem dX12_doneMany_13 : decode cX12_doneMany 13 = .ok (.aload_n 0, 1) := by decide +kernel
theorem dX12_doneMany_14 : decode cX12_doneMany 14 = .ok (.getfield 34, 3) := by decide +kernel
theorem dX12_doneMany_17 : decode cX12_doneMany 17 = .ok (.iload_n 2, 1) := by decide +kernel
theorem dX12_doneMany_18 : decode cX12_doneMany 18 = .ok (.baload, 1) := by decide +kernel
theorem dX12_doneMany_19 : decode cX12_doneMany 19 = .ok (.ifCond .eq 7, 3) := by decide +kernel
theorem dX12_doneMany_22 : decode cX12_doneMany 22 = .ok (.iconst 1, 1) := by decide +kernel
theorem dX12_doneMany_23 : decode cX12_doneMany 23 = .ok (.goto 4, 3) := by decide +kernel
theorem dX12_doneMany_26 : decode cX12_doneMany 26 = .ok (.iconst 0, 1) := by decide +kernel
theorem dX12_doneMany_27 : decode cX12_doneMany 27 = .ok (.iadd, 1) := by decide +kernel
theorem dX12_doneMany_28 : decode cX12_doneMany 28 = .ok (.istore_n 1, 1) := by decide +kernel
theorem dX12_doneMany_29 : decode cX12_doneMany 29 = .ok (.iinc 2 1, 3) := by decide +kernel
theorem dX12_doneMany_32 : decode cX12_doneMany 32 = .ok (.goto (-28), 3) := by decide +kernel
theorem dX12_doneMany_35 : decode cX12_doneMany 35 = .ok (.iload_n 1, 1) := by decide +kernel
theorem dX12_doneMany_36 : decode cX12_doneMany 36 = .ok (.ireturn, 1) := by decide +kernel
theorem dX12_image_0 : decode cX12_image 0 = .ok (.aload_n 0, 1) := by decide +kernel
theorem dX12_image_1 : decode cX12_image 1 = .ok (.iconst 1, 1) := by decide +kernel
theorem dX12_image_2 : decode cX12_image 2 = .ok (.putfield 307, 3) := by decide +kernel
theorem dX12_image_5 : decode cX12_image 5 = .ok (.aload_n 0, 1) := by decide +kernel
theorem dX12_image_6 : decode cX12_image 6 = .ok (.aload_n 0, 1) := by decide +kernel
theorem dX12_image_7 : decode cX12_image 7 = .ok (.getfield 106, 3) := by decide +kernel
theorem dX12_image_10 : decode cX12_image 10 = .ok (.putfield 311, 3) := by decide +kernel
theorem dX12_image_13 : decode cX12_image 13 = .ok (.aload_n 0, 1) := by decide +kernel
theorem dX12_image_14 : decode cX12_image 14 = .ok (.aload_n 0, 1) := by decide +kernel
theorem dX12_image_15 : decode cX12_image 15 = .ok (.getfield 113, 3) := by decide +kernel
theorem dX12_image_18 : decode cX12_image 18 = .ok (.putfield 314, 3) := by decide +kernel
theorem dX12_image_21 : decode cX12_image 21 = .ok (.aload_n 0, 1) := by decide +kernel
theorem dX12_image_22 : decode cX12_image 22 = .ok (.aload_n 0, 1) := by decide +kernel
theorem dX12_image_23 : decode cX12_image 23 = .ok (.getfield 229, 3) := by decide +kernel
theorem dX12_image_26 : decode cX12_image 26 = .ok (.putfield 317, 3) := by decide +kernel
theorem dX12_image_29 : decode cX12_image 29 = .ok (.iconst 0, 1) := by decide +kernel
theorem dX12_image_30 : decode cX12_image 30 = .ok (.istore_n 1, 1) := by decide +kernel
theorem dX12_image_31 : decode cX12_image 31 = .ok (.iload_n 1, 1) := by decide +kernel
theorem dX12_image_32 : decode cX12_image 32 = .ok (.bipush 6, 2) := by decide +kernel
theorem dX12_image_34 : decode cX12_image 34 = .ok (.if_icmp .ge 21, 3) := by decide +kernel
theorem dX12_image_37 : decode cX12_image 37 = .ok (.aload_n 0, 1) := by decide +kernel
theorem dX12_image_38 : decode cX12_image 38 = .ok (.getfield 76, 3) := by decide +kernel
theorem dX12_image_41 : decode cX12_image 41 = .ok (.iload_n 1, 1) := by decide +kernel
theorem dX12_image_42 : decode cX12_image 42 = .ok (.aload_n 0, 1) := by decide +kernel
theorem dX12_image_43 : decode cX12_image 43 = .ok (.getfield 7, 3) := by decide +kernel
theorem dX12_image_46 : decode cX12_image 46 = .ok (.iload_n 1, 1) := by decide +kernel
theorem dX12_image_47 : decode cX12_image 47 = .ok (.iaload, 1) := by decide +kernel
theorem dX12_image_48 : decode cX12_image 48 = .ok (.iastore, 1) := by decide +kernel
theorem dX12_image_49 : decode cX12_image 49 = .ok (.iinc 1 1, 3) := by decide +kernel
theorem dX12_image_52 : decode cX12_image 52 = .ok (.goto (-21), 3) := by decide +kernel
theorem dX12_image_55 : decode cX12_image 55 = .ok (.iconst 0, 1) := by decide +kernel
theorem dX12_image_56 : decode cX12_image 56 = .ok (.istore_n 1, 1) := by decide +kernel
theorem dX12_image_57 : decode cX12_image 57 = .ok (.iload_n 1, 1) := by decide +kernel
theorem dX12_image_58 : decode cX12_image 58 = .ok (.bipush 9, 2) := by decide +kernel
theorem dX12_image_60 : decode cX12_image 60 = .ok (.if_icmp .ge 21, 3) := by decide +kernel
theorem dX12_image_63 : decode cX12_image 63 = .ok (.aload_n 0, 1) := by decide +kernel
theorem dX12_image_64 : decode cX12_image 64 = .ok (.getfield 79, 3) := by decide +kernel
theorem dX12_image_67 : decode cX12_image 67 = .ok (.iload_n 1, 1) := by decide +kernel
theorem dX12_image_68 : decode cX12_image 68 = .ok (.aload_n 0, 1) := by decide +kernel
theorem dX12_image_69 : decode cX12_image 69 = .ok (.getfield 19, 3) := by decide +kernel
theorem dX12_image_72 : decode cX12_image 72 = .ok (.iload_n 1, 1) := by decide +kernel
theorem dX12_image_73 : decode cX12_image 73 = .ok (.iaload, 1) := by decide +kernel
theorem dX12_image_74 : decode cX12_image 74 = .ok (.iastore, 1) := by decide +kernel
theorem dX12_image_75 : decode cX12_image 75 = .ok (.iinc 1 1, 3) := by decide +kernel
theorem dX12_image_78 : decode cX12_image 78 = .ok (.goto (-21), 3) := by decide +kernel
theorem dX12_image_81 : decode cX12_image 81 = .ok (.iconst 0, 1) := by decide +kernel
theorem dX12_image_82 : decode cX12_image 82 = .ok (.istore_n 1, 1) := by decide +kernel
theorem dX12_image_83 : decode cX12_image 83 = .ok (.iload_n 1, 1) := by decide +kernel
theorem dX12_image_84 : decode cX12_image 84 = .ok (.bipush 8, 2) := by decide +kernel
theorem dX12_image_86 : decode cX12_image 86 = .ok (.if_icmp .ge 45, 3) := by decide +kernel
theorem dX12_image_89 : decode cX12_image 89 = .ok (.aload_n 0, 1) := by decide +kernel
theorem dX12_image_90 : decode cX12_image 90 = .ok (.getfield 82, 3) := by decide +kernel
theorem dX12_image_93 : decode cX12_image 93 = .ok (.iload_n 1, 1) := by decide +kernel
theorem dX12_image_94 : decode cX12_image 94 = .ok (.aload_n 0, 1) := by decide +kernel
theorem dX12_image_95 : decode cX12_image 95 = .ok (.getfield 34, 3) := by decide +kernel
theorem dX12_image_98 : decode cX12_image 98 = .ok (.iload_n 1, 1) := by decide +kernel
theorem dX12_image_99 : decode cX12_image 99 = .ok (.baload, 1) := by decide +kernel
theorem dX12_image_100 : decode cX12_image 100 = .ok (.bastore, 1) := by decide +kernel
theorem dX12_image_101 : decode cX12_image 101 = .ok (.aload_n 0, 1) := by decide +kernel
theorem dX12_image_102 : decode cX12_image 102 = .ok (.getfield 85, 3) := by decide +kernel
theorem dX12_image_105 : decode cX12_image 105 = .ok (.iload_n 1, 1) := by decide +kernel
theorem dX12_image_106 : decode cX12_image 106 = .ok (.aload_n 0, 1) := by decide +kernel
theorem dX12_image_107 : decode cX12_image 107 = .ok (.getfield 38, 3) := by decide +kernel
theorem dX12_image_110 : decode cX12_image 110 = .ok (.iload_n 1, 1) := by decide +kernel
theorem dX12_image_111 : decode cX12_image 111 = .ok (.iaload, 1) := by decide +kernel
theorem dX12_image_112 : decode cX12_image 112 = .ok (.iastore, 1) := by decide +kernel
theorem dX12_image_113 : decode cX12_image 113 = .ok (.aload_n 0, 1) := by decide +kernel
theorem dX12_image_114 : decode cX12_image 114 = .ok (.getfield 88, 3) := by decide +kernel
theorem dX12_image_117 : decode cX12_image 117 = .ok (.iload_n 1, 1) := by decide +kernel
theorem dX12_image_118 : decode cX12_image 118 = .ok (.aload_n 0, 1) := by decide +kernel
theorem dX12_image_119 : decode cX12_image 119 = .ok (.getfield 41, 3) := by decide +kernel
theorem dX12_image_122 : decode cX12_image 122 = .ok (.iload_n 1, 1) := by decide +kernel
theorem dX12_image_123 : decode cX12_image 123 = .ok (.iaload, 1) := by decide +kernel
theorem dX12_image_124 : decode cX12_image 124 = .ok (.iastore, 1) := by decide +kernel
theorem dX12_image_125 : decode cX12_image 125 = .ok (.iinc 1 1, 3) := by decide +kernel
theorem dX12_image_128 : decode cX12_image 128 = .ok (.goto (-45), 3) := by decide +kernel
theorem dX12_image_131 : decode cX12_image 131 = .ok (.aload_n 0, 1) := by decide +kernel
theorem dX12_image_132 : decode cX12_image 132 = .ok (.invokevirtual 320, 3) := by decide +kernel
theorem dX12_image_135 : decode cX12_image 135 = .ok (.ireturn, 1) := by decide +kernel
theorem dX12_back_0 : decode cX12_back 0 = .ok (.aload_n 0, 1) := by decide +kernel
theorem dX12_back_1 : decode cX12_back 1 = .ok (.getfield 307, 3) := by decide +kernel
theorem dX12_back_4 : decode cX12_back 4 = .ok (.ifCond .ne 6, 3) := by decide +kernel
theorem dX12_back_7 : decode cX12_back 7 = .ok (.bipush (-3), 2) := by decide +kernel
theorem dX12_back_9 : decode cX12_back 9 = .ok (.ireturn, 1) := by decide +kernel
theorem dX12_back_10 : decode cX12_back 10 = .ok (.aload_n 0, 1) := by decide +kernel
theorem dX12_back_11 : decode cX12_back 11 = .ok (.aload_n 0, 1) := by decide +kernel
theorem dX12_back_12 : decode cX12_back 12 = .ok (.getfield 317, 3) := by decide +kernel
theorem dX12_back_15 : decode cX12_back 15 = .ok (.putfield 229, 3) := by decide +kernel
theorem dX12_back_18 : decode cX12_back 18 = .ok (.iconst 0, 1) := by decide +kernel
theorem dX12_back_19 : decode cX12_back 19 = .ok (.istore_n 1, 1) := by decide +kernel
theorem dX12_back_20 : decode cX12_back 20 = .ok (.iload_n 1, 1) := by decide +kernel
theorem dX12_back_21 : decode cX12_back 21 = .ok (.aload_n 0, 1) := by decide +kernel
theorem dX12_back_22 : decode cX12_back 22 = .ok (.getfield 311, 3) := by decide +kernel
theorem dX12_back_25 : decode cX12_back 25 = .ok (.if_icmp .ge 21, 3) := by decide +kernel
theorem dX12_back_28 : decode cX12_back 28 = .ok (.aload_n 0, 1) := by decide +kernel
theorem dX12_back_29 : decode cX12_back 29 = .ok (.getfield 7, 3) := by decide +kernel
theorem dX12_back_32 : decode cX12_back 32 = .ok (.iload_n 1, 1) := by decide +kernel
theorem dX12_back_33 : decode cX12_back 33 = .ok (.aload_n 0, 1) := by decide +kernel
theorem dX12_back_34 : decode cX12_back 34 = .ok (.getfield 76, 3) := by decide +kernel
theorem dX12_back_37 : decode cX12_back 37 = .ok (.iload_n 1, 1) := by decide +kernel
theorem dX12_back_38 : decode cX12_back 38 = .ok (.iaload, 1) := by decide +kernel
theorem dX12_back_39 : decode cX12_back 39 = .ok (.iastore, 1) := by decide +kernel
theorem dX12_back_40 : decode cX12_back 40 = .ok (.iinc 1 1, 3) := by decide +kernel
theorem dX12_back_43 : decode cX12_back 43 = .ok (.goto (-23), 3) := by decide +kernel
theorem dX12_back_46 : decode cX12_back 46 = .ok (.iconst 0, 1) := by decide +kernel
theorem dX12_back_47 : decode cX12_back 47 = .ok (.istore_n 1, 1) := by decide +kernel
theorem dX12_back_48 : decode cX12_back 48 = .ok (.iload_n 1, 1) := by decide +kernel
theorem dX12_back_49 : decode cX12_back 49 = .ok (.bipush 9, 2) := by decide +kernel
theorem dX12_back_51 : decode cX12_back 51 = .ok (.if_icmp .ge 21, 3) := by decide +kernel
theorem dX12_back_54 : decode cX12_back 54 = .ok (.aload_n 0, 1) := by decide +kernel
theorem dX12_back_55 : decode cX12_back 55 = .ok (.getfield 19, 3) := by decide +kernel
theorem dX12_back_58 : decode cX12_back 58 = .ok (.iload_n 1, 1) := by decide +kernel
theorem dX12_back_59 : decode cX12_back 59 = .ok (.aload_n 0, 1) := by decide +kernel
theorem dX12_back_60 : decode cX12_back 60 = .ok (.getfield 79, 3) := by decide +kernel
theorem dX12_back_63 : decode cX12_back 63 = .ok (.iload_n 1, 1) := by decide +kernel
theorem dX12_back_64 : decode cX12_back 64 = .ok (.iaload, 1) := by decide +kernel
theorem dX12_back_65 : decode cX12_back 65 = .ok (.iastore, 1) := by decide +kernel
theorem dX12_back_66 : decode cX12_back 66 = .ok (.iinc 1 1, 3) := by decide +kernel
theorem dX12_back_69 : decode cX12_back 69 = .ok (.goto (-21), 3) := by decide +kernel
theorem dX12_back_72 : decode cX12_back 72 = .ok (.iconst 0, 1) := by decide +kernel
theorem dX12_back_73 : decode cX12_back 73 = .ok (.istore_n 1, 1) := by decide +kernel
theorem dX12_back_74 : decode cX12_back 74 = .ok (.iload_n 1, 1) := by decide +kernel
theorem dX12_back_75 : decode cX12_back 75 = .ok (.aload_n 0, 1) := by decide +kernel
theorem dX12_back_76 : decode cX12_back 76 = .ok (.getfield 314, 3) := by decide +kernel
theorem dX12_back_79 : decode cX12_back 79 = .ok (.if_icmp .ge 45, 3) := by decide +kernel
theorem dX12_back_82 : decode cX12_back 82 = .ok (.aload_n 0, 1) := by decide +kernel
theorem dX12_back_83 : decode cX12_back 83 = .ok (.getfield 34, 3) := by decide +kernel
theorem dX12_back_86 : decode cX12_back 86 = .ok (.iload_n 1, 1) := by decide +kernel
theorem dX12_back_87 : decode cX12_back 87 = .ok (.aload_n 0, 1) := by decide +kernel
theorem dX12_back_88 : decode cX12_back 88 = .ok (.getfield 82, 3) := by decide +kernel
theorem dX12_back_91 : decode cX12_back 91 = .ok (.iload_n 1, 1) := by decide +kernel
theorem dX12_back_92 : decode cX12_back 92 = .ok (.baload, 1) := by decide +kernel
theorem dX12_back_93 : decode cX12_back 93 = .ok (.bastore, 1) := by decide +kernel
theorem dX12_back_94 : decode cX12_back 94 = .ok (.aload_n 0, 1) := by decide +kernel
theorem dX12_back_95 : decode cX12_back 95 = .ok (.getfield 38, 3) := by decide +kernel
theorem dX12_back_98 : decode cX12_back 98 = .ok (.iload_n 1, 1) := by decide +kernel
theorem dX12_back_99 : decode cX12_back 99 = .ok (.aload_n 0, 1) := by decide +kernel
theorem dX12_back_100 : decode cX12_back 100 = .ok (.getfield 85, 3) := by decide +kernel
theorem dX12_back_103 : decode cX12_back 103 = .ok (.iload_n 1, 1) := by decide +kernel
theorem dX12_back_104 : decode cX12_back 104 = .ok (.iaload, 1) := by decide +kernel
theorem dX12_back_105 : decode cX12_back 105 = .ok (.iastore, 1) := by decide +kernel
theorem dX12_back_106 : decode cX12_back 106 = .ok (.aload_n 0, 1) := by decide +kernel
theorem dX12_back_107 : decode cX12_back 107 = .ok (.getfield 41, 3) := by decide +kernel
theorem dX12_back_110 : decode cX12_back 110 = .ok (.iload_n 1, 1) := by decide +kernel
theorem dX12_back_111 : decode cX12_back 111 = .ok (.aload_n 0, 1) := by decide +kernel
theorem dX12_back_112 : decode cX12_back 112 = .ok (.getfield 88, 3) := by decide +kernel
theorem dX12_back_115 : decode cX12_back 115 = .ok (.iload_n 1, 1) := by decide +kernel
theorem dX12_back_116 : decode cX12_back 116 = .ok (.iaload, 1) := by decide +kernel
theorem dX12_back_117 : decode cX12_back 117 = .ok (.iastore, 1) := by decide +kernel
theorem dX12_back_118 : decode cX12_back 118 = .ok (.iinc 1 1, 3) := by decide +kernel
theorem dX12_back_121 : decode cX12_back 121 = .ok (.goto (-47), 3) := by decide +kernel
theorem dX12_back_124 : decode cX12_back 124 = .ok (.aload_n 0, 1) := by decide +kernel
theorem dX12_back_125 : decode cX12_back 125 = .ok (.invokevirtual 320, 3) := by decide +kernel
theorem dX12_back_128 : decode cX12_back 128 = .ok (.ireturn, 1) := by decide +kernel
theorem dX12_count_0 : decode cX12_count 0 = .ok (.iconst 0, 1) := by decide +kernel
theorem dX12_count_1 : decode cX12_count 1 = .ok (.istore_n 2, 1) := by decide +kernel
theorem dX12_count_2 : decode cX12_count 2 = .ok (.iload_n 1, 1) := by decide +kernel
theorem dX12_count_3 : decode cX12_count 3 = .ok (.tableswitch 161 0 8 #[49, 54, 59, 64, 69, 74, 79, 84, 123], 49) := by decide +kernel
theorem dX12_count_52 : decode cX12_count 52 = .ok (.aload_n 0, 1) := by decide +kernel
theorem dX12_count_53 : decode cX12_count 53 = .ok (.getfield 106, 3) := by decide +kernel
theorem dX12_count_56 : decode cX12_count 56 = .ok (.ireturn, 1) := by decide +kernel
theorem dX12_count_57 : decode cX12_count 57 = .ok (.aload_n 0, 1) := by decide +kernel
theorem dX12_count_58 : decode cX12_count 58 = .ok (.getfield 113, 3) := by decide +kernel
theorem dX12_count_61 : decode cX12_count 61 = .ok (.ireturn, 1) := by decide +kernel
theorem dX12_count_62 : decode cX12_count 62 = .ok (.aload_n 0, 1) := by decide +kernel
theorem dX12_count_63 : decode cX12_count 63 = .ok (.invokevirtual 320, 3) := by decide +kernel
theorem dX12_count_66 : decode cX12_count 66 = .ok (.ireturn, 1) := by decide +kernel
theorem dX12_count_67 : decode cX12_count 67 = .ok (.aload_n 0, 1) := by decide +kernel
theorem dX12_count_68 : decode cX12_count 68 = .ok (.getfield 48, 3) := by decide +kernel
theorem dX12_count_71 : decode cX12_count 71 = .ok (.ireturn, 1) := by decide +kernel
theorem dX12_count_72 : decode cX12_count 72 = .ok (.aload_n 0, 1) := by decide +kernel
theorem dX12_count_73 : decode cX12_count 73 = .ok (.getfield 149, 3) := by decide +kernel
theorem dX12_count_76 : decode cX12_count 76 = .ok (.ireturn, 1) := by decide +kernel
theorem dX12_count_77 : decode cX12_count 77 = .ok (.aload_n 0, 1) := by decide +kernel
theorem dX12_count_78 : decode cX12_count 78 = .ok (.getfield 229, 3) := by decide +kernel
theorem dX12_count_81 : decode cX12_count 81 = .ok (.ireturn, 1) := by decide +kernel
theorem dX12_count_82 : decode cX12_count 82 = .ok (.aload_n 0, 1) := by decide +kernel
theorem dX12_count_83 : decode cX12_count 83 = .ok (.invokevirtual 304, 3) := by decide +kernel
theorem dX12_count_86 : decode cX12_count 86 = .ok (.ireturn, 1) := by decide +kernel
theorem dX12_count_87 : decode cX12_count 87 = .ok (.iconst 0, 1) := by decide +kernel
theorem dX12_count_88 : decode cX12_count 88 = .ok (.istore_n 3, 1) := by decide +kernel
theorem dX12_count_89 : decode cX12_count 89 = .ok (.iload_n 3, 1) := by decide +kernel
theorem dX12_count_90 : decode cX12_count 90 = .ok (.aload_n 0, 1) := by decide +kernel
theorem dX12_count_91 : decode cX12_count 91 = .ok (.getfield 113, 3) := by decide +kernel
theorem dX12_count_94 : decode cX12_count 94 = .ok (.if_icmp .ge 30, 3) := by decide +kernel
theorem dX12_count_97 : decode cX12_count 97 = .ok (.iload_n 2, 1) := by decide +kernel
theorem dX12_count_98 : decode cX12_count 98 = .ok (.aload_n 0, 1) := by decide +kernel
theorem dX12_count_99 : decode cX12_count 99 = .ok (.getfield 34, 3) := by decide +kernel
theorem dX12_count_102 : decode cX12_count 102 = .ok (.iload_n 3, 1) := by decide +kernel
theorem dX12_count_103 : decode cX12_count 103 = .ok (.baload, 1) := by decide +kernel
theorem dX12_count_104 : decode cX12_count 104 = .ok (.ifCond .eq 11, 3) := by decide +kernel
theorem dX12_count_107 : decode cX12_count 107 = .ok (.aload_n 0, 1) := by decide +kernel
theorem dX12_count_108 : decode cX12_count 108 = .ok (.iload_n 3, 1) := by decide +kernel
theorem dX12_count_109 : decode cX12_count 109 = .ok (.invokevirtual 143, 3) := by decide +kernel
theorem dX12_count_112 : decode cX12_count 112 = .ok (.goto 4, 3) := by decide +kernel
theorem dX12_count_115 : decode cX12_count 115 = .ok (.iconst 0, 1) := by decide +kernel
theorem dX12_count_116 : decode cX12_count 116 = .ok (.iadd, 1) := by decide +kernel
theorem dX12_count_117 : decode cX12_count 117 = .ok (.istore_n 2, 1) := by decide +kernel
theorem dX12_count_118 : decode cX12_count 118 = .ok (.iinc 3 1, 3) := by decide +kernel
theorem dX12_count_121 : decode cX12_count 121 = .ok (.goto (-32), 3) := by decide +kernel
theorem dX12_count_124 : decode cX12_count 124 = .ok (.iload_n 2, 1) := by decide +kernel
theorem dX12_count_125 : decode cX12_count 125 = .ok (.ireturn, 1) := by decide +kernel
theorem dX12_count_126 : decode cX12_count 126 = .ok (.iconst 0, 1) := by decide +kernel
theorem dX12_count_127 : decode cX12_count 127 = .ok (.istore_n 3, 1) := by decide +kernel
theorem dX12_count_128 : decode cX12_count 128 = .ok (.iload_n 3, 1) := by decide +kernel
theorem dX12_count_129 : decode cX12_count 129 = .ok (.aload_n 0, 1) := by decide +kernel
theorem dX12_count_130 : decode cX12_count 130 = .ok (.getfield 106, 3) := by decide +kernel
theorem dX12_count_133 : decode cX12_count 133 = .ok (.if_icmp .ge 29, 3) := by decide +kernel
theorem dX12_count_136 : decode cX12_count 136 = .ok (.aload_n 0, 1) := by decide +kernel
theorem dX12_count_137 : decode cX12_count 137 = .ok (.getfield 7, 3) := by decide +kernel
theorem dX12_count_140 : decode cX12_count 140 = .ok (.iload_n 3, 1) := by decide +kernel
theorem dX12_count_141 : decode cX12_count 141 = .ok (.iaload, 1) := by decide +kernel
theorem dX12_count_142 : decode cX12_count 142 = .ok (.iconst 1, 1) := by decide +kernel
theorem dX12_count_143 : decode cX12_count 143 = .ok (.iconst 2, 1) := by decide +kernel
theorem dX12_count_144 : decode cX12_count 144 = .ok (.invokestatic 109, 3) := by decide +kernel
theorem dX12_count_147 : decode cX12_count 147 = .ok (.ifCond .eq 9, 3) := by decide +kernel
theorem dX12_count_150 : decode cX12_count 150 = .ok (.iload_n 2, 1) := by decide +kernel
theorem dX12_count_151 : decode cX12_count 151 = .ok (.iconst 1, 1) := by decide +kernel
theorem dX12_count_152 : decode cX12_count 152 = .ok (.iload_n 3, 1) := by decide +kernel
theorem dX12_count_153 : decode cX12_count 153 = .ok (.ishl, 1) := by decide +kernel
theorem dX12_count_154 : decode cX12_count 154 = .ok (.ior, 1) := by decide +kernel
theorem dX12_count_155 : decode cX12_count 155 = .ok (.istore_n 2, 1) := by decide +kernel
theorem dX12_count_156 : decode cX12_count 156 = .ok (.iinc 3 1, 3) := by decide +kernel
theorem dX12_count_159 : decode cX12_count 159 = .ok (.goto (-31), 3) := by decide +kernel
theorem dX12_count_162 : decode cX12_count 162 = .ok (.iload_n 2, 1) := by decide +kernel
theorem dX12_count_163 : decode cX12_count 163 = .ok (.ireturn, 1) := by decide +kernel
theorem dX12_count_164 : decode cX12_count 164 = .ok (.bipush (-2), 2) := by decide +kernel
theorem dX12_count_166 : decode cX12_count 166 = .ok (.ireturn, 1) := by decide +kernel
theorem dX12_isSheet_0 : decode cX12_isSheet 0 = .ok (.iload_n 0, 1) := by decide +kernel
theorem dX12_isSheet_1 : decode cX12_isSheet 1 = .ok (.iconst 0, 1) := by decide +kernel
theorem dX12_isSheet_2 : decode cX12_isSheet 2 = .ok (.iconst 3, 1) := by decide +kernel
theorem dX12_isSheet_3 : decode cX12_isSheet 3 = .ok (.invokestatic 109, 3) := by decide +kernel
theorem dX12_isSheet_6 : decode cX12_isSheet 6 = .ok (.ireturn, 1) := by decide +kernel
theorem dX12_sheet_0 : decode cX12_sheet 0 = .ok (.iload_n 1, 1) := by decide +kernel
theorem dX12_sheet_1 : decode cX12_sheet 1 = .ok (.invokestatic 323, 3) := by decide +kernel
theorem dX12_sheet_4 : decode cX12_sheet 4 = .ok (.ifCond .eq 12, 3) := by decide +kernel
theorem dX12_sheet_7 : decode cX12_sheet 7 = .ok (.iload_n 2, 1) := by decide +kernel
theorem dX12_sheet_8 : decode cX12_sheet 8 = .ok (.iconst (-1), 1) := by decide +kernel
theorem dX12_sheet_9 : decode cX12_sheet 9 = .ok (.iconst 2, 1) := by decide +kernel
theorem dX12_sheet_10 : decode cX12_sheet 10 = .ok (.invokestatic 109, 3) := by decide +kernel
theorem dX12_sheet_13 : decode cX12_sheet 13 = .ok (.ifCond .ne 6, 3) := by decide +kernel
theorem dX12_sheet_16 : decode cX12_sheet 16 = .ok (.bipush (-2), 2) := by decide +kernel
theorem dX12_sheet_18 : decode cX12_sheet 18 = .ok (.ireturn, 1) := by decide +kernel
theorem dX12_sheet_19 : decode cX12_sheet 19 = .ok (.iload_n 2, 1) := by decide +kernel
theorem dX12_sheet_20 : decode cX12_sheet 20 = .ok (.iconst (-1), 1) := by decide +kernel
theorem dX12_sheet_21 : decode cX12_sheet 21 = .ok (.if_icmp .ne 12, 3) := by decide +kernel
theorem dX12_sheet_24 : decode cX12_sheet 24 = .ok (.aload_n 0, 1) := by decide +kernel
theorem dX12_sheet_25 : decode cX12_sheet 25 = .ok (.getfield 91, 3) := by decide +kernel
theorem dX12_sheet_28 : decode cX12_sheet 28 = .ok (.iload_n 1, 1) := by decide +kernel
theorem dX12_sheet_29 : decode cX12_sheet 29 = .ok (.iconst (-1), 1) := by decide +kernel
theorem dX12_sheet_30 : decode cX12_sheet 30 = .ok (.iastore, 1) := by decide +kernel
theorem dX12_sheet_31 : decode cX12_sheet 31 = .ok (.iconst 1, 1) := by decide +kernel
theorem dX12_sheet_32 : decode cX12_sheet 32 = .ok (.ireturn, 1) := by decide +kernel
theorem dX12_sheet_33 : decode cX12_sheet 33 = .ok (.iload_n 3, 1) := by decide +kernel
theorem dX12_sheet_34 : decode cX12_sheet 34 = .ok (.bipush 40, 2) := by decide +kernel
theorem dX12_sheet_36 : decode cX12_sheet 36 = .ok (.if_icmp .le 6, 3) := by decide +kernel
theorem dX12_sheet_39 : decode cX12_sheet 39 = .ok (.bipush (-2), 2) := by decide +kernel
theorem dX12_sheet_41 : decode cX12_sheet 41 = .ok (.ireturn, 1) := by decide +kernel
theorem dX12_sheet_42 : decode cX12_sheet 42 = .ok (.iload_n 3, 1) := by decide +kernel
theorem dX12_sheet_43 : decode cX12_sheet 43 = .ok (.ifCond .ge 6, 3) := by decide +kernel
theorem dX12_sheet_46 : decode cX12_sheet 46 = .ok (.bipush (-14), 2) := by decide +kernel
theorem dX12_sheet_48 : decode cX12_sheet 48 = .ok (.ireturn, 1) := by decide +kernel
theorem dX12_sheet_49 : decode cX12_sheet 49 = .ok (.aload_n 0, 1) := by decide +kernel
theorem dX12_sheet_50 : decode cX12_sheet 50 = .ok (.getfield 91, 3) := by decide +kernel
theorem dX12_sheet_53 : decode cX12_sheet 53 = .ok (.iload_n 1, 1) := by decide +kernel
theorem dX12_sheet_54 : decode cX12_sheet 54 = .ok (.iload_n 2, 1) := by decide +kernel
theorem dX12_sheet_55 : decode cX12_sheet 55 = .ok (.iastore, 1) := by decide +kernel
theorem dX12_sheet_56 : decode cX12_sheet 56 = .ok (.aload_n 0, 1) := by decide +kernel
theorem dX12_sheet_57 : decode cX12_sheet 57 = .ok (.getfield 94, 3) := by decide +kernel
theorem dX12_sheet_60 : decode cX12_sheet 60 = .ok (.iload_n 1, 1) := by decide +kernel
theorem dX12_sheet_61 : decode cX12_sheet 61 = .ok (.iload_n 3, 1) := by decide +kernel
theorem dX12_sheet_62 : decode cX12_sheet 62 = .ok (.iastore, 1) := by decide +kernel
theorem dX12_sheet_63 : decode cX12_sheet 63 = .ok (.iconst 0, 1) := by decide +kernel
theorem dX12_sheet_64 : decode cX12_sheet 64 = .ok (.istore 4, 2) := by decide +kernel
theorem dX12_sheet_66 : decode cX12_sheet 66 = .ok (.iload 4, 2) := by decide +kernel
theorem dX12_sheet_68 : decode cX12_sheet 68 = .ok (.iload_n 3, 1) := by decide +kernel
theorem dX12_sheet_69 : decode cX12_sheet 69 = .ok (.if_icmp .ge 22, 3) := by decide +kernel
theorem dX12_sheet_72 : decode cX12_sheet 72 = .ok (.aload_n 0, 1) := by decide +kernel
theorem dX12_sheet_73 : decode cX12_sheet 73 = .ok (.getfield 97, 3) := by decide +kernel
theorem dX12_sheet_76 : decode cX12_sheet 76 = .ok (.bipush 40, 2) := by decide +kernel
theorem dX12_sheet_78 : decode cX12_sheet 78 = .ok (.iload_n 1, 1) := by decide +kernel
theorem dX12_sheet_79 : decode cX12_sheet 79 = .ok (.imul, 1) := by decide +kernel
theorem dX12_sheet_80 : decode cX12_sheet 80 = .ok (.iload 4, 2) := by decide +kernel
theorem dX12_sheet_82 : decode cX12_sheet 82 = .ok (.iadd, 1) := by decide +kernel
theorem dX12_sheet_83 : decode cX12_sheet 83 = .ok (.iconst 0, 1) := by decide +kernel
theorem dX12_sheet_84 : decode cX12_sheet 84 = .ok (.iastore, 1) := by decide +kernel
theorem dX12_sheet_85 : decode cX12_sheet 85 = .ok (.iinc 4 1, 3) := by decide +kernel
theorem dX12_sheet_88 : decode cX12_sheet 88 = .ok (.goto (-22), 3) := by decide +kernel
theorem dX12_sheet_91 : decode cX12_sheet 91 = .ok (.iconst 1, 1) := by decide +kernel
theorem dX12_sheet_92 : decode cX12_sheet 92 = .ok (.ireturn, 1) := by decide +kernel
theorem dX12_cell_0 : decode cX12_cell 0 = .ok (.iload_n 1, 1) := by decide +kernel
theorem dX12_cell_1 : decode cX12_cell 1 = .ok (.invokestatic 323, 3) := by decide +kernel
theorem dX12_cell_4 : decode cX12_cell 4 = .ok (.ifCond .ne 6, 3) := by decide +kernel
theorem dX12_cell_7 : decode cX12_cell 7 = .ok (.bipush (-2), 2) := by decide +kernel
theorem dX12_cell_9 : decode cX12_cell 9 = .ok (.ireturn, 1) := by decide +kernel
theorem dX12_cell_10 : decode cX12_cell 10 = .ok (.aload_n 0, 1) := by decide +kernel
theorem dX12_cell_11 : decode cX12_cell 11 = .ok (.getfield 91, 3) := by decide +kernel
theorem dX12_cell_14 : decode cX12_cell 14 = .ok (.iload_n 1, 1) := by decide +kernel
theorem dX12_cell_15 : decode cX12_cell 15 = .ok (.iaload, 1) := by decide +kernel
theorem dX12_cell_16 : decode cX12_cell 16 = .ok (.ifCond .ge 6, 3) := by decide +kernel
theorem dX12_cell_19 : decode cX12_cell 19 = .ok (.bipush (-11), 2) := by decide +kernel
theorem dX12_cell_21 : decode cX12_cell 21 = .ok (.ireturn, 1) := by decide +kernel
theorem dX12_cell_22 : decode cX12_cell 22 = .ok (.iload_n 2, 1) := by decide +kernel
theorem dX12_cell_23 : decode cX12_cell 23 = .ok (.iconst 0, 1) := by decide +kernel
theorem dX12_cell_24 : decode cX12_cell 24 = .ok (.aload_n 0, 1) := by decide +kernel
theorem dX12_cell_25 : decode cX12_cell 25 = .ok (.getfield 94, 3) := by decide +kernel
theorem dX12_cell_28 : decode cX12_cell 28 = .ok (.iload_n 1, 1) := by decide +kernel
theorem dX12_cell_29 : decode cX12_cell 29 = .ok (.iaload, 1) := by decide +kernel
theorem dX12_cell_30 : decode cX12_cell 30 = .ok (.iconst 1, 1) := by decide +kernel
theorem dX12_cell_31 : decode cX12_cell 31 = .ok (.isub, 1) := by decide +kernel
theorem dX12_cell_32 : decode cX12_cell 32 = .ok (.invokestatic 109, 3) := by decide +kernel
theorem dX12_cell_35 : decode cX12_cell 35 = .ok (.ifCond .ne 6, 3) := by decide +kernel
theorem dX12_cell_38 : decode cX12_cell 38 = .ok (.bipush (-12), 2) := by decide +kernel
theorem dX12_cell_40 : decode cX12_cell 40 = .ok (.ireturn, 1) := by decide +kernel
theorem dX12_cell_41 : decode cX12_cell 41 = .ok (.aload_n 0, 1) := by decide +kernel
theorem dX12_cell_42 : decode cX12_cell 42 = .ok (.getfield 97, 3) := by decide +kernel
theorem dX12_cell_45 : decode cX12_cell 45 = .ok (.bipush 40, 2) := by decide +kernel
theorem dX12_cell_47 : decode cX12_cell 47 = .ok (.iload_n 1, 1) := by decide +kernel
theorem dX12_cell_48 : decode cX12_cell 48 = .ok (.imul, 1) := by decide +kernel
theorem dX12_cell_49 : decode cX12_cell 49 = .ok (.iload_n 2, 1) := by decide +kernel
theorem dX12_cell_50 : decode cX12_cell 50 = .ok (.iadd, 1) := by decide +kernel
theorem dX12_cell_51 : decode cX12_cell 51 = .ok (.aload_n 0, 1) := by decide +kernel
theorem dX12_cell_52 : decode cX12_cell 52 = .ok (.getfield 91, 3) := by decide +kernel
theorem dX12_cell_55 : decode cX12_cell 55 = .ok (.iload_n 1, 1) := by decide +kernel
theorem dX12_cell_56 : decode cX12_cell 56 = .ok (.iaload, 1) := by decide +kernel
theorem dX12_cell_57 : decode cX12_cell 57 = .ok (.ifCond .ne 8, 3) := by decide +kernel
theorem dX12_cell_60 : decode cX12_cell 60 = .ok (.iload_n 3, 1) := by decide +kernel
theorem dX12_cell_61 : decode cX12_cell 61 = .ok (.i2b, 1) := by decide +kernel
theorem dX12_cell_62 : decode cX12_cell 62 = .ok (.goto 19, 3) := by decide +kernel
theorem dX12_cell_65 : decode cX12_cell 65 = .ok (.aload_n 0, 1) := by decide +kernel
theorem dX12_cell_66 : decode cX12_cell 66 = .ok (.getfield 91, 3) := by decide +kernel
theorem dX12_cell_69 : decode cX12_cell 69 = .ok (.iload_n 1, 1) := by decide +kernel
theorem dX12_cell_70 : decode cX12_cell 70 = .ok (.iaload, 1) := by decide +kernel
theorem dX12_cell_71 : decode cX12_cell 71 = .ok (.iconst 1, 1) := by decide +kernel
theorem dX12_cell_72 : decode cX12_cell 72 = .ok (.if_icmp .ne 8, 3) := by decide +kernel
theorem dX12_cell_75 : decode cX12_cell 75 = .ok (.iload_n 3, 1) := by decide +kernel
theorem dX12_cell_76 : decode cX12_cell 76 = .ok (.i2s, 1) := by decide +kernel
theorem dX12_cell_77 : decode cX12_cell 77 = .ok (.goto 4, 3) := by decide +kernel
theorem dX12_cell_80 : decode cX12_cell 80 = .ok (.iload_n 3, 1) := by decide +kernel
theorem dX12_cell_81 : decode cX12_cell 81 = .ok (.iastore, 1) := by decide +kernel
theorem dX12_cell_82 : decode cX12_cell 82 = .ok (.iconst 1, 1) := by decide +kernel
theorem dX12_cell_83 : decode cX12_cell 83 = .ok (.ireturn, 1) := by decide +kernel
theorem dX12_copy_0 : decode cX12_copy 0 = .ok (.iload_n 1, 1) := by decide +kernel
theorem dX12_copy_1 : decode cX12_copy 1 = .ok (.invokestatic 323, 3) := by decide +kernel
theorem dX12_copy_4 : decode cX12_copy 4 = .ok (.ifCond .eq 10, 3) := by decide +kernel
theorem dX12_copy_7 : decode cX12_copy 7 = .ok (.iload_n 3, 1) := by decide +kernel
theorem dX12_copy_8 : decode cX12_copy 8 = .ok (.invokestatic 323, 3) := by decide +kernel
theorem dX12_copy_11 : decode cX12_copy 11 = .ok (.ifCond .ne 6, 3) := by decide +kernel
theorem dX12_copy_14 : decode cX12_copy 14 = .ok (.bipush (-2), 2) := by decide +kernel
theorem dX12_copy_16 : decode cX12_copy 16 = .ok (.ireturn, 1) := by decide +kernel
theorem dX12_copy_17 : decode cX12_copy 17 = .ok (.aload_n 0, 1) := by decide +kernel
theorem dX12_copy_18 : decode cX12_copy 18 = .ok (.getfield 91, 3) := by decide +kernel
theorem dX12_copy_21 : decode cX12_copy 21 = .ok (.iload_n 1, 1) := by decide +kernel
theorem dX12_copy_22 : decode cX12_copy 22 = .ok (.iaload, 1) := by decide +kernel
theorem dX12_copy_23 : decode cX12_copy 23 = .ok (.ifCond .lt 12, 3) := by decide +kernel
theorem dX12_copy_26 : decode cX12_copy 26 = .ok (.aload_n 0, 1) := by decide +kernel
theorem dX12_copy_27 : decode cX12_copy 27 = .ok (.getfield 91, 3) := by decide +kernel
theorem dX12_copy_30 : decode cX12_copy 30 = .ok (.iload_n 3, 1) := by decide +kernel
theorem dX12_copy_31 : decode cX12_copy 31 = .ok (.iaload, 1) := by decide +kernel
theorem dX12_copy_32 : decode cX12_copy 32 = .ok (.ifCond .ge 6, 3) := by decide +kernel
theorem dX12_copy_35 : decode cX12_copy 35 = .ok (.bipush (-11), 2) := by decide +kernel
theorem dX12_copy_37 : decode cX12_copy 37 = .ok (.ireturn, 1) := by decide +kernel
theorem dX12_copy_38 : decode cX12_copy 38 = .ok (.aload_n 0, 1) := by decide +kernel
theorem dX12_copy_39 : decode cX12_copy 39 = .ok (.getfield 91, 3) := by decide +kernel
theorem dX12_copy_42 : decode cX12_copy 42 = .ok (.iload_n 1, 1) := by decide +kernel
theorem dX12_copy_43 : decode cX12_copy 43 = .ok (.iaload, 1) := by decide +kernel
theorem dX12_copy_44 : decode cX12_copy 44 = .ok (.aload_n 0, 1) := by decide +kernel
theorem dX12_copy_45 : decode cX12_copy 45 = .ok (.getfield 91, 3) := by decide +kernel
theorem dX12_copy_48 : decode cX12_copy 48 = .ok (.iload_n 3, 1) := by decide +kernel
theorem dX12_copy_49 : decode cX12_copy 49 = .ok (.iaload, 1) := by decide +kernel
theorem dX12_copy_50 : decode cX12_copy 50 = .ok (.if_icmp .eq 6, 3) := by decide +kernel
theorem dX12_copy_53 : decode cX12_copy 53 = .ok (.bipush (-13), 2) := by decide +kernel
theorem dX12_copy_55 : decode cX12_copy 55 = .ok (.ireturn, 1) := by decide +kernel
theorem dX12_copy_56 : decode cX12_copy 56 = .ok (.iload 5, 2) := by decide +kernel
theorem dX12_copy_58 : decode cX12_copy 58 = .ok (.ifCond .lt 47, 3) := by decide +kernel
theorem dX12_copy_61 : decode cX12_copy 61 = .ok (.iload_n 2, 1) := by decide +kernel
theorem dX12_copy_62 : decode cX12_copy 62 = .ok (.ifCond .lt 43, 3) := by decide +kernel
theorem dX12_copy_65 : decode cX12_copy 65 = .ok (.iload 4, 2) := by decide +kernel
theorem dX12_copy_67 : decode cX12_copy 67 = .ok (.ifCond .lt 38, 3) := by decide +kernel
theorem dX12_copy_70 : decode cX12_copy 70 = .ok (.iload_n 2, 1) := by decide +kernel
theorem dX12_copy_71 : decode cX12_copy 71 = .ok (.i2l, 1) := by decide +kernel
theorem dX12_copy_72 : decode cX12_copy 72 = .ok (.iload 5, 2) := by decide +kernel
theorem dX12_copy_74 : decode cX12_copy 74 = .ok (.i2l, 1) := by decide +kernel
theorem dX12_copy_75 : decode cX12_copy 75 = .ok (.ladd, 1) := by decide +kernel
theorem dX12_copy_76 : decode cX12_copy 76 = .ok (.aload_n 0, 1) := by decide +kernel
theorem dX12_copy_77 : decode cX12_copy 77 = .ok (.getfield 94, 3) := by decide +kernel
theorem dX12_copy_80 : decode cX12_copy 80 = .ok (.iload_n 1, 1) := by decide +kernel
theorem dX12_copy_81 : decode cX12_copy 81 = .ok (.iaload, 1) := by decide +kernel
theorem dX12_copy_82 : decode cX12_copy 82 = .ok (.i2l, 1) := by decide +kernel
theorem dX12_copy_83 : decode cX12_copy 83 = .ok (.lcmp, 1) := by decide +kernel
theorem dX12_copy_84 : decode cX12_copy 84 = .ok (.ifCond .gt 21, 3) := by decide +kernel
theorem dX12_copy_87 : decode cX12_copy 87 = .ok (.iload 4, 2) := by decide +kernel
theorem dX12_copy_89 : decode cX12_copy 89 = .ok (.i2l, 1) := by decide +kernel
theorem dX12_copy_90 : decode cX12_copy 90 = .ok (.iload 5, 2) := by decide +kernel
theorem dX12_copy_92 : decode cX12_copy 92 = .ok (.i2l, 1) := by decide +kernel
theorem dX12_copy_93 : decode cX12_copy 93 = .ok (.ladd, 1) := by decide +kernel
theorem dX12_copy_94 : decode cX12_copy 94 = .ok (.aload_n 0, 1) := by decide +kernel
theorem dX12_copy_95 : decode cX12_copy 95 = .ok (.getfield 94, 3) := by decide +kernel
theorem dX12_copy_98 : decode cX12_copy 98 = .ok (.iload_n 3, 1) := by decide +kernel
theorem dX12_copy_99 : decode cX12_copy 99 = .ok (.iaload, 1) := by decide +kernel
theorem dX12_copy_100 : decode cX12_copy 100 = .ok (.i2l, 1) := by decide +kernel
theorem dX12_copy_101 : decode cX12_copy 101 = .ok (.lcmp, 1) := by decide +kernel
theorem dX12_copy_102 : decode cX12_copy 102 = .ok (.ifCond .le 6, 3) := by decide +kernel
theorem dX12_copy_105 : decode cX12_copy 105 = .ok (.bipush (-12), 2) := by decide +kernel
theorem dX12_copy_107 : decode cX12_copy 107 = .ok (.ireturn, 1) := by decide +kernel
theorem dX12_copy_108 : decode cX12_copy 108 = .ok (.iconst 0, 1) := by decide +kernel
theorem dX12_copy_109 : decode cX12_copy 109 = .ok (.istore 6, 2) := by decide +kernel
theorem dX12_copy_111 : decode cX12_copy 111 = .ok (.iload 6, 2) := by decide +kernel
theorem dX12_copy_113 : decode cX12_copy 113 = .ok (.iload 5, 2) := by decide +kernel
theorem dX12_copy_115 : decode cX12_copy 115 = .ok (.if_icmp .ge 30, 3) := by decide +kernel
theorem dX12_copy_118 : decode cX12_copy 118 = .ok (.aload_n 0, 1) := by decide +kernel
theorem dX12_copy_119 : decode cX12_copy 119 = .ok (.getfield 100, 3) := by decide +kernel
theorem dX12_copy_122 : decode cX12_copy 122 = .ok (.iload 6, 2) := by decide +kernel
theorem dX12_copy_124 : decode cX12_copy 124 = .ok (.aload_n 0, 1) := by decide +kernel
theorem dX12_copy_125 : decode cX12_copy 125 = .ok (.getfield 97, 3) := by decide +kernel
theorem dX12_copy_128 : decode cX12_copy 128 = .ok (.bipush 40, 2) := by decide +kernel
theorem dX12_copy_130 : decode cX12_copy 130 = .ok (.iload_n 1, 1) := by decide +kernel
theorem dX12_copy_131 : decode cX12_copy 131 = .ok (.imul, 1) := by decide +kernel
theorem dX12_copy_132 : decode cX12_copy 132 = .ok (.iload_n 2, 1) := by decide +kernel
theorem dX12_copy_133 : decode cX12_copy 133 = .ok (.iadd, 1) := by decide +kernel
theorem dX12_copy_134 : decode cX12_copy 134 = .ok (.iload 6, 2) := by decide +kernel
theorem dX12_copy_136 : decode cX12_copy 136 = .ok (.iadd, 1) := by decide +kernel
theorem dX12_copy_137 : decode cX12_copy 137 = .ok (.iaload, 1) := by decide +kernel
theorem dX12_copy_138 : decode cX12_copy 138 = .ok (.iastore, 1) := by decide +kernel
theorem dX12_copy_139 : decode cX12_copy 139 = .ok (.iinc 6 1, 3) := by decide +kernel
theorem dX12_copy_142 : decode cX12_copy 142 = .ok (.goto (-31), 3) := by decide +kernel
theorem dX12_copy_145 : decode cX12_copy 145 = .ok (.iconst 0, 1) := by decide +kernel
theorem dX12_copy_146 : decode cX12_copy 146 = .ok (.istore 6, 2) := by decide +kernel
theorem dX12_copy_148 : decode cX12_copy 148 = .ok (.iload 6, 2) := by decide +kernel
theorem dX12_copy_150 : decode cX12_copy 150 = .ok (.iload 5, 2) := by decide +kernel
theorem dX12_copy_152 : decode cX12_copy 152 = .ok (.if_icmp .ge 31, 3) := by decide +kernel
theorem dX12_copy_155 : decode cX12_copy 155 = .ok (.aload_n 0, 1) := by decide +kernel
theorem dX12_copy_156 : decode cX12_copy 156 = .ok (.getfield 97, 3) := by decide +kernel
theorem dX12_copy_159 : decode cX12_copy 159 = .ok (.bipush 40, 2) := by decide +kernel
theorem dX12_copy_161 : decode cX12_copy 161 = .ok (.iload_n 3, 1) := by decide +kernel
theorem dX12_copy_162 : decode cX12_copy 162 = .ok (.imul, 1) := by decide +kernel
theorem dX12_copy_163 : decode cX12_copy 163 = .ok (.iload 4, 2) := by decide +kernel
theorem dX12_copy_165 : decode cX12_copy 165 = .ok (.iadd, 1) := by decide +kernel
theorem dX12_copy_166 : decode cX12_copy 166 = .ok (.iload 6, 2) := by decide +kernel
theorem dX12_copy_168 : decode cX12_copy 168 = .ok (.iadd, 1) := by decide +kernel
theorem dX12_copy_169 : decode cX12_copy 169 = .ok (.aload_n 0, 1) := by decide +kernel
theorem dX12_copy_170 : decode cX12_copy 170 = .ok (.getfield 100, 3) := by decide +kernel
theorem dX12_copy_173 : decode cX12_copy 173 = .ok (.iload 6, 2) := by decide +kernel
theorem dX12_copy_175 : decode cX12_copy 175 = .ok (.iaload, 1) := by decide +kernel
theorem dX12_copy_176 : decode cX12_copy 176 = .ok (.iastore, 1) := by decide +kernel
theorem dX12_copy_177 : decode cX12_copy 177 = .ok (.iinc 6 1, 3) := by decide +kernel
theorem dX12_copy_180 : decode cX12_copy 180 = .ok (.goto (-32), 3) := by decide +kernel
theorem dX12_copy_183 : decode cX12_copy 183 = .ok (.iload 5, 2) := by decide +kernel
theorem dX12_copy_185 : decode cX12_copy 185 = .ok (.ireturn, 1) := by decide +kernel
theorem dX12_hanks_0 : decode cX12_hanks 0 = .ok (.iload_n 1, 1) := by decide +kernel
theorem dX12_hanks_1 : decode cX12_hanks 1 = .ok (.invokestatic 323, 3) := by decide +kernel
theorem dX12_hanks_4 : decode cX12_hanks 4 = .ok (.ifCond .eq 23, 3) := by decide +kernel
theorem dX12_hanks_7 : decode cX12_hanks 7 = .ok (.iload_n 2, 1) := by decide +kernel
theorem dX12_hanks_8 : decode cX12_hanks 8 = .ok (.iconst 0, 1) := by decide +kernel
theorem dX12_hanks_9 : decode cX12_hanks 9 = .ok (.iconst 2, 1) := by decide +kernel
theorem dX12_hanks_10 : decode cX12_hanks 10 = .ok (.invokestatic 109, 3) := by decide +kernel
theorem dX12_hanks_13 : decode cX12_hanks 13 = .ok (.ifCond .eq 14, 3) := by decide +kernel
theorem dX12_hanks_16 : decode cX12_hanks 16 = .ok (.iload 4, 2) := by decide +kernel
theorem dX12_hanks_18 : decode cX12_hanks 18 = .ok (.iconst 0, 1) := by decide +kernel
theorem dX12_hanks_19 : decode cX12_hanks 19 = .ok (.bipush 12, 2) := by decide +kernel
theorem dX12_hanks_21 : decode cX12_hanks 21 = .ok (.invokestatic 109, 3) := by decide +kernel
theorem dX12_hanks_24 : decode cX12_hanks 24 = .ok (.ifCond .ne 6, 3) := by decide +kernel
theorem dX12_hanks_27 : decode cX12_hanks 27 = .ok (.bipush (-2), 2) := by decide +kernel
theorem dX12_hanks_29 : decode cX12_hanks 29 = .ok (.ireturn, 1) := by decide +kernel
theorem dX12_hanks_30 : decode cX12_hanks 30 = .ok (.aload_n 0, 1) := by decide +kernel
theorem dX12_hanks_31 : decode cX12_hanks 31 = .ok (.getfield 91, 3) := by decide +kernel
theorem dX12_hanks_34 : decode cX12_hanks 34 = .ok (.iload_n 1, 1) := by decide +kernel
theorem dX12_hanks_35 : decode cX12_hanks 35 = .ok (.iaload, 1) := by decide +kernel
theorem dX12_hanks_36 : decode cX12_hanks 36 = .ok (.ifCond .lt 16, 3) := by decide +kernel
theorem dX12_hanks_39 : decode cX12_hanks 39 = .ok (.aload_n 0, 1) := by decide +kernel
theorem dX12_hanks_40 : decode cX12_hanks 40 = .ok (.getfield 91, 3) := by decide +kernel
theorem dX12_hanks_43 : decode cX12_hanks 43 = .ok (.iload_n 1, 1) := by decide +kernel
theorem dX12_hanks_44 : decode cX12_hanks 44 = .ok (.iaload, 1) := by decide +kernel
theorem dX12_hanks_45 : decode cX12_hanks 45 = .ok (.iload_n 2, 1) := by decide +kernel
theorem dX12_hanks_46 : decode cX12_hanks 46 = .ok (.if_icmp .eq 6, 3) := by decide +kernel
theorem dX12_hanks_49 : decode cX12_hanks 49 = .ok (.bipush (-13), 2) := by decide +kernel
theorem dX12_hanks_51 : decode cX12_hanks 51 = .ok (.ireturn, 1) := by decide +kernel
theorem dX12_hanks_52 : decode cX12_hanks 52 = .ok (.aload_n 0, 1) := by decide +kernel
theorem dX12_hanks_53 : decode cX12_hanks 53 = .ok (.getfield 91, 3) := by decide +kernel
theorem dX12_hanks_56 : decode cX12_hanks 56 = .ok (.iload_n 1, 1) := by decide +kernel
theorem dX12_hanks_57 : decode cX12_hanks 57 = .ok (.iaload, 1) := by decide +kernel
theorem dX12_hanks_58 : decode cX12_hanks 58 = .ok (.ifCond .ge 6, 3) := by decide +kernel
theorem dX12_hanks_61 : decode cX12_hanks 61 = .ok (.bipush (-11), 2) := by decide +kernel
theorem dX12_hanks_63 : decode cX12_hanks 63 = .ok (.ireturn, 1) := by decide +kernel
theorem dX12_hanks_64 : decode cX12_hanks 64 = .ok (.iconst 0, 1) := by decide +kernel
theorem dX12_hanks_65 : decode cX12_hanks 65 = .ok (.istore 5, 2) := by decide +kernel
theorem dX12_hanks_67 : decode cX12_hanks 67 = .ok (.iconst 0, 1) := by decide +kernel
theorem dX12_hanks_68 : decode cX12_hanks 68 = .ok (.istore 6, 2) := by decide +kernel
theorem dX12_hanks_70 : decode cX12_hanks 70 = .ok (.iload 6, 2) := by decide +kernel
theorem dX12_hanks_72 : decode cX12_hanks 72 = .ok (.iload 4, 2) := by decide +kernel
theorem dX12_hanks_74 : decode cX12_hanks 74 = .ok (.if_icmp .ge 91, 3) := by decide +kernel
theorem dX12_hanks_77 : decode cX12_hanks 77 = .ok (.iload_n 3, 1) := by decide +kernel
theorem dX12_hanks_78 : decode cX12_hanks 78 = .ok (.i2l, 1) := by decide +kernel
theorem dX12_hanks_79 : decode cX12_hanks 79 = .ok (.iconst 3, 1) := by decide +kernel
theorem dX12_hanks_80 : decode cX12_hanks 80 = .ok (.iload 6, 2) := by decide +kernel
theorem dX12_hanks_82 : decode cX12_hanks 82 = .ok (.imul, 1) := by decide +kernel
theorem dX12_hanks_83 : decode cX12_hanks 83 = .ok (.i2l, 1) := by decide +kernel
theorem dX12_hanks_84 : decode cX12_hanks 84 = .ok (.ladd, 1) := by decide +kernel
theorem dX12_hanks_85 : decode cX12_hanks 85 = .ok (.lstore 7, 2) := by decide +kernel
theorem dX12_hanks_87 : decode cX12_hanks 87 = .ok (.lload 7, 2) := by decide +kernel
theorem dX12_hanks_89 : decode cX12_hanks 89 = .ok (.lconst 0, 1) := by decide +kernel
theorem dX12_hanks_90 : decode cX12_hanks 90 = .ok (.lcmp, 1) := by decide +kernel
theorem dX12_hanks_91 : decode cX12_hanks 91 = .ok (.ifCond .lt 20, 3) := by decide +kernel
theorem dX12_hanks_94 : decode cX12_hanks 94 = .ok (.lload 7, 2) := by decide +kernel
theorem dX12_hanks_96 : decode cX12_hanks 96 = .ok (.ldc2_w 326, 3) := by decide +kernel
theorem dX12_hanks_99 : decode cX12_hanks 99 = .ok (.ladd, 1) := by decide +kernel
theorem dX12_hanks_100 : decode cX12_hanks 100 = .ok (.aload_n 0, 1) := by decide +kernel
theorem dX12_hanks_101 : decode cX12_hanks 101 = .ok (.getfield 94, 3) := by decide +kernel
theorem dX12_hanks_104 : decode cX12_hanks 104 = .ok (.iload_n 1, 1) := by decide +kernel
theorem dX12_hanks_105 : decode cX12_hanks 105 = .ok (.iaload, 1) := by decide +kernel
theorem dX12_hanks_106 : decode cX12_hanks 106 = .ok (.i2l, 1) := by decide +kernel
theorem dX12_hanks_107 : decode cX12_hanks 107 = .ok (.lcmp, 1) := by decide +kernel
theorem dX12_hanks_108 : decode cX12_hanks 108 = .ok (.ifCond .lt 6, 3) := by decide +kernel
theorem dX12_hanks_111 : decode cX12_hanks 111 = .ok (.bipush (-12), 2) := by decide +kernel
theorem dX12_hanks_113 : decode cX12_hanks 113 = .ok (.ireturn, 1) := by decide +kernel
theorem dX12_hanks_114 : decode cX12_hanks 114 = .ok (.bipush 40, 2) := by decide +kernel
theorem dX12_hanks_116 : decode cX12_hanks 116 = .ok (.iload_n 1, 1) := by decide +kernel
theorem dX12_hanks_117 : decode cX12_hanks 117 = .ok (.imul, 1) := by decide +kernel
theorem dX12_hanks_118 : decode cX12_hanks 118 = .ok (.lload 7, 2) := by decide +kernel
theorem dX12_hanks_120 : decode cX12_hanks 120 = .ok (.l2i, 1) := by decide +kernel
theorem dX12_hanks_121 : decode cX12_hanks 121 = .ok (.iadd, 1) := by decide +kernel
theorem dX12_hanks_122 : decode cX12_hanks 122 = .ok (.istore 9, 2) := by decide +kernel
theorem dX12_hanks_124 : decode cX12_hanks 124 = .ok (.aload_n 0, 1) := by decide +kernel
theorem dX12_hanks_125 : decode cX12_hanks 125 = .ok (.aload_n 0, 1) := by decide +kernel
theorem dX12_hanks_126 : decode cX12_hanks 126 = .ok (.getfield 97, 3) := by decide +kernel
theorem dX12_hanks_129 : decode cX12_hanks 129 = .ok (.iload 9, 2) := by decide +kernel
theorem dX12_hanks_131 : decode cX12_hanks 131 = .ok (.iaload, 1) := by decide +kernel
theorem dX12_hanks_132 : decode cX12_hanks 132 = .ok (.aload_n 0, 1) := by decide +kernel
theorem dX12_hanks_133 : decode cX12_hanks 133 = .ok (.getfield 97, 3) := by decide +kernel
theorem dX12_hanks_136 : decode cX12_hanks 136 = .ok (.iload 9, 2) := by decide +kernel
theorem dX12_hanks_138 : decode cX12_hanks 138 = .ok (.iconst 1, 1) := by decide +kernel
theorem dX12_hanks_139 : decode cX12_hanks 139 = .ok (.iadd, 1) := by decide +kernel
theorem dX12_hanks_140 : decode cX12_hanks 140 = .ok (.iaload, 1) := by decide +kernel
theorem dX12_hanks_141 : decode cX12_hanks 141 = .ok (.aload_n 0, 1) := by decide +kernel
theorem dX12_hanks_142 : decode cX12_hanks 142 = .ok (.getfield 97, 3) := by decide +kernel
theorem dX12_hanks_145 : decode cX12_hanks 145 = .ok (.iload 9, 2) := by decide +kernel
theorem dX12_hanks_147 : decode cX12_hanks 147 = .ok (.iconst 2, 1) := by decide +kernel
theorem dX12_hanks_148 : decode cX12_hanks 148 = .ok (.iadd, 1) := by decide +kernel
theorem dX12_hanks_149 : decode cX12_hanks 149 = .ok (.iaload, 1) := by decide +kernel
theorem dX12_hanks_150 : decode cX12_hanks 150 = .ok (.invokevirtual 328, 3) := by decide +kernel
theorem dX12_hanks_153 : decode cX12_hanks 153 = .ok (.ifCond .lt 6, 3) := by decide +kernel
theorem dX12_hanks_156 : decode cX12_hanks 156 = .ok (.iinc 5 1, 3) := by decide +kernel
theorem dX12_hanks_159 : decode cX12_hanks 159 = .ok (.iinc 6 1, 3) := by decide +kernel
theorem dX12_hanks_162 : decode cX12_hanks 162 = .ok (.goto (-92), 3) := by decide +kernel
theorem dX12_hanks_165 : decode cX12_hanks 165 = .ok (.iload 5, 2) := by decide +kernel
theorem dX12_hanks_167 : decode cX12_hanks 167 = .ok (.ireturn, 1) := by decide +kernel
theorem dX12_isUnder_0 : decode cX12_isUnder 0 = .ok (.iload_n 1, 1) := by decide +kernel
theorem dX12_isUnder_1 : decode cX12_isUnder 1 = .ok (.ifCond .eq 28, 3) := by decide +kernel
theorem dX12_isUnder_4 : decode cX12_isUnder 4 = .ok (.iload_n 0, 1) := by decide +kernel
theorem dX12_isUnder_5 : decode cX12_isUnder 5 = .ok (.iload_n 1, 1) := by decide +kernel
theorem dX12_isUnder_6 : decode cX12_isUnder 6 = .ok (.if_icmp .eq 23, 3) := by decide +kernel
theorem dX12_isUnder_9 : decode cX12_isUnder 9 = .ok (.iload_n 1, 1) := by decide +kernel
theorem dX12_isUnder_10 : decode cX12_isUnder 10 = .ok (.iconst 1, 1) := by decide +kernel
theorem dX12_isUnder_11 : decode cX12_isUnder 11 = .ok (.if_icmp .ne 8, 3) := by decide +kernel
theorem dX12_isUnder_14 : decode cX12_isUnder 14 = .ok (.iload_n 0, 1) := by decide +kernel
theorem dX12_isUnder_15 : decode cX12_isUnder 15 = .ok (.iconst 4, 1) := by decide +kernel
theorem dX12_isUnder_16 : decode cX12_isUnder 16 = .ok (.if_icmp .eq 13, 3) := by decide +kernel
theorem dX12_isUnder_19 : decode cX12_isUnder 19 = .ok (.iload_n 1, 1) := by decide +kernel
theorem dX12_isUnder_20 : decode cX12_isUnder 20 = .ok (.iconst 2, 1) := by decide +kernel
theorem dX12_isUnder_21 : decode cX12_isUnder 21 = .ok (.if_icmp .ne 12, 3) := by decide +kernel
theorem dX12_isUnder_24 : decode cX12_isUnder 24 = .ok (.iload_n 0, 1) := by decide +kernel
theorem dX12_isUnder_25 : decode cX12_isUnder 25 = .ok (.iconst 5, 1) := by decide +kernel
theorem dX12_isUnder_26 : decode cX12_isUnder 26 = .ok (.if_icmp .ne 7, 3) := by decide +kernel
theorem dX12_isUnder_29 : decode cX12_isUnder 29 = .ok (.iconst 1, 1) := by decide +kernel
theorem dX12_isUnder_30 : decode cX12_isUnder 30 = .ok (.goto 4, 3) := by decide +kernel
theorem dX12_isUnder_33 : decode cX12_isUnder 33 = .ok (.iconst 0, 1) := by decide +kernel
theorem dX12_isUnder_34 : decode cX12_isUnder 34 = .ok (.ireturn, 1) := by decide +kernel
theorem dX12_taken_0 : decode cX12_taken 0 = .ok (.iload_n 2, 1) := by decide +kernel
theorem dX12_taken_1 : decode cX12_taken 1 = .ok (.iconst 0, 1) := by decide +kernel
theorem dX12_taken_2 : decode cX12_taken 2 = .ok (.iconst 5, 1) := by decide +kernel
theorem dX12_taken_3 : decode cX12_taken 3 = .ok (.invokestatic 109, 3) := by decide +kernel
theorem dX12_taken_6 : decode cX12_taken 6 = .ok (.ifCond .ne 6, 3) := by decide +kernel
theorem dX12_taken_9 : decode cX12_taken 9 = .ok (.bipush (-2), 2) := by decide +kernel
theorem dX12_taken_11 : decode cX12_taken 11 = .ok (.ireturn, 1) := by decide +kernel
theorem dX12_taken_12 : decode cX12_taken 12 = .ok (.aload_n 0, 1) := by decide +kernel
theorem dX12_taken_13 : decode cX12_taken 13 = .ok (.iload_n 1, 1) := by decide +kernel
theorem dX12_taken_14 : decode cX12_taken 14 = .ok (.invokevirtual 127, 3) := by decide +kernel
theorem dX12_taken_17 : decode cX12_taken 17 = .ok (.ifCond .ne 6, 3) := by decide +kernel
theorem dX12_taken_20 : decode cX12_taken 20 = .ok (.bipush (-11), 2) := by decide +kernel
theorem dX12_taken_22 : decode cX12_taken 22 = .ok (.ireturn, 1) := by decide +kernel
theorem dX12_taken_23 : decode cX12_taken 23 = .ok (.aload_n 0, 1) := by decide +kernel
theorem dX12_taken_24 : decode cX12_taken 24 = .ok (.getfield 22, 3) := by decide +kernel
theorem dX12_taken_27 : decode cX12_taken 27 = .ok (.iload_n 1, 1) := by decide +kernel
theorem dX12_taken_28 : decode cX12_taken 28 = .ok (.iaload, 1) := by decide +kernel
theorem dX12_taken_29 : decode cX12_taken 29 = .ok (.iload_n 2, 1) := by decide +kernel
theorem dX12_taken_30 : decode cX12_taken 30 = .ok (.invokestatic 331, 3) := by decide +kernel
theorem dX12_taken_33 : decode cX12_taken 33 = .ok (.ifCond .eq 12, 3) := by decide +kernel
theorem dX12_taken_36 : decode cX12_taken 36 = .ok (.aload_n 0, 1) := by decide +kernel
theorem dX12_taken_37 : decode cX12_taken 37 = .ok (.getfield 31, 3) := by decide +kernel
theorem dX12_taken_40 : decode cX12_taken 40 = .ok (.iload_n 1, 1) := by decide +kernel
theorem dX12_taken_41 : decode cX12_taken 41 = .ok (.iaload, 1) := by decide +kernel
theorem dX12_taken_42 : decode cX12_taken 42 = .ok (.goto 5, 3) := by decide +kernel
theorem dX12_taken_45 : decode cX12_taken 45 = .ok (.bipush (-13), 2) := by decide +kernel
theorem dX12_taken_47 : decode cX12_taken 47 = .ok (.ireturn, 1) := by decide +kernel
end
section
theorem dJ11_isValidCodePoint_9a6ad_0 : decode cJ11_isValidCodePoint_9a6ad 0 = .ok (.iload_n 0, 1) := by decide +kernel
theorem dJ11_isValidCodePoint_9a6ad_1 : decode cJ11_isValidCodePoint_9a6ad 1 = .ok (.bipush 16, 2) := by decide +kernel
theorem dJ11_isValidCodePoint_9a6ad_3 : decode cJ11_isValidCodePoint_9a6ad 3 = .ok (.iushr, 1) := by decide +kernel
theorem dJ11_isValidCodePoint_9a6ad_4 : decode cJ11_isValidCodePoint_9a6ad 4 = .ok (.istore_n 1, 1) := by decide +kernel
theorem dJ11_isValidCodePoint_9a6ad_5 : decode cJ11_isValidCodePoint_9a6ad 5 = .ok (.iload_n 1, 1) := by decide +kernel
theorem dJ11_isValidCodePoint_9a6ad_6 : decode cJ11_isValidCodePoint_9a6ad 6 = .ok (.bipush 17, 2) := by decide +kernel
theorem dJ11_isValidCodePoint_9a6ad_8 : decode cJ11_isValidCodePoint_9a6ad 8 = .ok (.if_icmp .ge 7, 3) := by decide +kernel
theorem dJ11_isValidCodePoint_9a6ad_11 : decode cJ11_isValidCodePoint_9a6ad 11 = .ok (.iconst 1, 1) := by decide +kernel
theorem dJ11_isValidCodePoint_9a6ad_12 : decode cJ11_isValidCodePoint_9a6ad 12 = .ok (.goto 4, 3) := by decide +kernel
theorem dJ11_isValidCodePoint_9a6ad_15 : decode cJ11_isValidCodePoint_9a6ad 15 = .ok (.iconst 0, 1) := by decide +kernel
theorem dJ11_isValidCodePoint_9a6ad_16 : decode cJ11_isValidCodePoint_9a6ad 16 = .ok (.ireturn, 1) := by decide +kernel
theorem dJ11_highSurrogate_5068e_0 : decode cJ11_highSurrogate_5068e 0 = .ok (.iload_n 0, 1) := by decide +kernel
theorem dJ11_highSurrogate_5068e_1 : decode cJ11_highSurrogate_5068e 1 = .ok (.bipush 10, 2) := by decide +kernel
theorem dJ11_highSurrogate_5068e_3 : decode cJ11_highSurrogate_5068e 3 = .ok (.iushr, 1) := by decide +kernel
theorem dJ11_highSurrogate_5068e_4 : decode cJ11_highSurrogate_5068e 4 = .ok (.ldc 110, 2) := by decide +kernel
theorem dJ11_highSurrogate_5068e_6 : decode cJ11_highSurrogate_5068e 6 = .ok (.iadd, 1) := by decide +kernel
theorem dJ11_highSurrogate_5068e_7 : decode cJ11_highSurrogate_5068e 7 = .ok (.i2c, 1) := by decide +kernel
theorem dJ11_highSurrogate_5068e_8 : decode cJ11_highSurrogate_5068e 8 = .ok (.ireturn, 1) := by decide +kernel
theorem dJ11_lowSurrogate_5068e_0 : decode cJ11_lowSurrogate_5068e 0 = .ok (.iload_n 0, 1) := by decide +kernel
theorem dJ11_lowSurrogate_5068e_1 : decode cJ11_lowSurrogate_5068e 1 = .ok (.sipush 1023, 3) := by decide +kernel
theorem dJ11_lowSurrogate_5068e_4 : decode cJ11_lowSurrogate_5068e 4 = .ok (.iand, 1) := by decide +kernel
theorem dJ11_lowSurrogate_5068e_5 : decode cJ11_lowSurrogate_5068e 5 = .ok (.ldc 76, 2) := by decide +kernel
theorem dJ11_lowSurrogate_5068e_7 : decode cJ11_lowSurrogate_5068e 7 = .ok (.iadd, 1) := by decide +kernel
theorem dJ11_lowSurrogate_5068e_8 : decode cJ11_lowSurrogate_5068e 8 = .ok (.i2c, 1) := by decide +kernel
theorem dJ11_lowSurrogate_5068e_9 : decode cJ11_lowSurrogate_5068e 9 = .ok (.ireturn, 1) := by decide +kernel
theorem dJ9_abs_0f7a4_0 : decode cJ9_abs_0f7a4 0 = .ok (.iload_n 0, 1) := by decide +kernel
theorem dJ9_abs_0f7a4_1 : decode cJ9_abs_0f7a4 1 = .ok (.ifCond .ge 8, 3) := by decide +kernel
theorem dJ9_abs_0f7a4_4 : decode cJ9_abs_0f7a4 4 = .ok (.iload_n 0, 1) := by decide +kernel
theorem dJ9_abs_0f7a4_5 : decode cJ9_abs_0f7a4 5 = .ok (.ineg, 1) := by decide +kernel
theorem dJ9_abs_0f7a4_6 : decode cJ9_abs_0f7a4 6 = .ok (.goto 4, 3) := by decide +kernel
theorem dJ9_abs_0f7a4_9 : decode cJ9_abs_0f7a4 9 = .ok (.iload_n 0, 1) := by decide +kernel
theorem dJ9_abs_0f7a4_10 : decode cJ9_abs_0f7a4 10 = .ok (.ireturn, 1) := by decide +kernel
theorem dJ9_max_7cf53_0 : decode cJ9_max_7cf53 0 = .ok (.iload_n 0, 1) := by decide +kernel
theorem dJ9_max_7cf53_1 : decode cJ9_max_7cf53 1 = .ok (.iload_n 1, 1) := by decide +kernel
theorem dJ9_max_7cf53_2 : decode cJ9_max_7cf53 2 = .ok (.if_icmp .lt 7, 3) := by decide +kernel
theorem dJ9_max_7cf53_5 : decode cJ9_max_7cf53 5 = .ok (.iload_n 0, 1) := by decide +kernel
theorem dJ9_max_7cf53_6 : decode cJ9_max_7cf53 6 = .ok (.goto 4, 3) := by decide +kernel
theorem dJ9_max_7cf53_9 : decode cJ9_max_7cf53 9 = .ok (.iload_n 1, 1) := by decide +kernel
theorem dJ9_max_7cf53_10 : decode cJ9_max_7cf53 10 = .ok (.ireturn, 1) := by decide +kernel
theorem dJ9_min_7cf53_0 : decode cJ9_min_7cf53 0 = .ok (.iload_n 0, 1) := by decide +kernel
theorem dJ9_min_7cf53_1 : decode cJ9_min_7cf53 1 = .ok (.iload_n 1, 1) := by decide +kernel
theorem dJ9_min_7cf53_2 : decode cJ9_min_7cf53 2 = .ok (.if_icmp .gt 7, 3) := by decide +kernel
theorem dJ9_min_7cf53_5 : decode cJ9_min_7cf53 5 = .ok (.iload_n 0, 1) := by decide +kernel
theorem dJ9_min_7cf53_6 : decode cJ9_min_7cf53 6 = .ok (.goto 4, 3) := by decide +kernel
theorem dJ9_min_7cf53_9 : decode cJ9_min_7cf53 9 = .ok (.iload_n 1, 1) := by decide +kernel
theorem dJ9_min_7cf53_10 : decode cJ9_min_7cf53 10 = .ok (.ireturn, 1) := by decide +kernel
theorem dJ0_length_8abf5_0 : decode cJ0_length_8abf5 0 = .ok (.aload_n 0, 1) := by decide +kernel
theorem dJ0_length_8abf5_1 : decode cJ0_length_8abf5 1 = .ok (.getfield 9, 3) := by decide +kernel
theorem dJ0_length_8abf5_4 : decode cJ0_length_8abf5 4 = .ok (.arraylength, 1) := by decide +kernel
theorem dJ0_length_8abf5_5 : decode cJ0_length_8abf5 5 = .ok (.aload_n 0, 1) := by decide +kernel
theorem dJ0_length_8abf5_6 : decode cJ0_length_8abf5 6 = .ok (.invokevirtual 335, 3) := by decide +kernel
theorem dJ0_length_8abf5_9 : decode cJ0_length_8abf5 9 = .ok (.ishr, 1) := by decide +kernel
theorem dJ0_length_8abf5_10 : decode cJ0_length_8abf5 10 = .ok (.ireturn, 1) := by decide +kernel
theorem dJ0_charAt_5068e_0 : decode cJ0_charAt_5068e 0 = .ok (.aload_n 0, 1) := by decide +kernel
theorem dJ0_charAt_5068e_1 : decode cJ0_charAt_5068e 1 = .ok (.invokevirtual 492, 3) := by decide +kernel
theorem dJ0_charAt_5068e_4 : decode cJ0_charAt_5068e 4 = .ok (.ifCond .eq 12, 3) := by decide +kernel
theorem dJ0_charAt_5068e_7 : decode cJ0_charAt_5068e 7 = .ok (.aload_n 0, 1) := by decide +kernel
theorem dJ0_charAt_5068e_8 : decode cJ0_charAt_5068e 8 = .ok (.getfield 9, 3) := by decide +kernel
theorem dJ0_charAt_5068e_11 : decode cJ0_charAt_5068e 11 = .ok (.iload_n 1, 1) := by decide +kernel
theorem dJ0_charAt_5068e_12 : decode cJ0_charAt_5068e 12 = .ok (.invokestatic 495, 3) := by decide +kernel
theorem dJ0_charAt_5068e_15 : decode cJ0_charAt_5068e 15 = .ok (.ireturn, 1) := by decide +kernel
theorem dJ0_charAt_5068e_16 : decode cJ0_charAt_5068e 16 = .ok (.aload_n 0, 1) := by decide +kernel
theorem dJ0_charAt_5068e_17 : decode cJ0_charAt_5068e 17 = .ok (.getfield 9, 3) := by decide +kernel
theorem dJ0_charAt_5068e_20 : decode cJ0_charAt_5068e 20 = .ok (.iload_n 1, 1) := by decide +kernel
theorem dJ0_charAt_5068e_21 : decode cJ0_charAt_5068e 21 = .ok (.invokestatic 498, 3) := by decide +kernel
theorem dJ0_charAt_5068e_24 : decode cJ0_charAt_5068e 24 = .ok (.ireturn, 1) := by decide +kernel
theorem dJ0_indexOf_0f7a4_0 : decode cJ0_indexOf_0f7a4 0 = .ok (.aload_n 0, 1) := by decide +kernel
theorem dJ0_indexOf_0f7a4_1 : decode cJ0_indexOf_0f7a4 1 = .ok (.iload_n 1, 1) := by decide +kernel
theorem dJ0_indexOf_0f7a4_2 : decode cJ0_indexOf_0f7a4 2 = .ok (.iconst 0, 1) := by decide +kernel
theorem dJ0_indexOf_0f7a4_3 : decode cJ0_indexOf_0f7a4 3 = .ok (.invokevirtual 633, 3) := by decide +kernel
theorem dJ0_indexOf_0f7a4_6 : decode cJ0_indexOf_0f7a4 6 = .ok (.ireturn, 1) := by decide +kernel
theorem dJ0_indexOf_7cf53_0 : decode cJ0_indexOf_7cf53 0 = .ok (.aload_n 0, 1) := by decide +kernel
theorem dJ0_indexOf_7cf53_1 : decode cJ0_indexOf_7cf53 1 = .ok (.invokevirtual 492, 3) := by decide +kernel
theorem dJ0_indexOf_7cf53_4 : decode cJ0_indexOf_7cf53 4 = .ok (.ifCond .eq 19, 3) := by decide +kernel
theorem dJ0_indexOf_7cf53_7 : decode cJ0_indexOf_7cf53 7 = .ok (.aload_n 0, 1) := by decide +kernel
theorem dJ0_indexOf_7cf53_8 : decode cJ0_indexOf_7cf53 8 = .ok (.getfield 9, 3) := by decide +kernel
theorem dJ0_indexOf_7cf53_11 : decode cJ0_indexOf_7cf53 11 = .ok (.iload_n 1, 1) := by decide +kernel
theorem dJ0_indexOf_7cf53_12 : decode cJ0_indexOf_7cf53 12 = .ok (.iload_n 2, 1) := by decide +kernel
theorem dJ0_indexOf_7cf53_13 : decode cJ0_indexOf_7cf53 13 = .ok (.aload_n 0, 1) := by decide +kernel
theorem dJ0_indexOf_7cf53_14 : decode cJ0_indexOf_7cf53 14 = .ok (.invokevirtual 505, 3) := by decide +kernel
theorem dJ0_indexOf_7cf53_17 : decode cJ0_indexOf_7cf53 17 = .ok (.invokestatic 637, 3) := by decide +kernel
theorem dJ0_indexOf_7cf53_20 : decode cJ0_indexOf_7cf53 20 = .ok (.goto 16, 3) := by decide +kernel
theorem dJ0_indexOf_7cf53_23 : decode cJ0_indexOf_7cf53 23 = .ok (.aload_n 0, 1) := by decide +kernel
theorem dJ0_indexOf_7cf53_24 : decode cJ0_indexOf_7cf53 24 = .ok (.getfield 9, 3) := by decide +kernel
theorem dJ0_indexOf_7cf53_27 : decode cJ0_indexOf_7cf53 27 = .ok (.iload_n 1, 1) := by decide +kernel
theorem dJ0_indexOf_7cf53_28 : decode cJ0_indexOf_7cf53 28 = .ok (.iload_n 2, 1) := by decide +kernel
theorem dJ0_indexOf_7cf53_29 : decode cJ0_indexOf_7cf53 29 = .ok (.aload_n 0, 1) := by decide +kernel
theorem dJ0_indexOf_7cf53_30 : decode cJ0_indexOf_7cf53 30 = .ok (.invokevirtual 505, 3) := by decide +kernel
theorem dJ0_indexOf_7cf53_33 : decode cJ0_indexOf_7cf53 33 = .ok (.invokestatic 640, 3) := by decide +kernel
theorem dJ0_indexOf_7cf53_36 : decode cJ0_indexOf_7cf53 36 = .ok (.ireturn, 1) := by decide +kernel
theorem dJ0_coder_7d493_0 : decode cJ0_coder_7d493 0 = .ok (.getstatic 38, 3) := by decide +kernel
theorem dJ0_coder_7d493_3 : decode cJ0_coder_7d493 3 = .ok (.ifCond .eq 10, 3) := by decide +kernel
theorem dJ0_coder_7d493_6 : decode cJ0_coder_7d493 6 = .ok (.aload_n 0, 1) := by decide +kernel
theorem dJ0_coder_7d493_7 : decode cJ0_coder_7d493 7 = .ok (.getfield 15, 3) := by decide +kernel
theorem dJ0_coder_7d493_10 : decode cJ0_coder_7d493 10 = .ok (.goto 4, 3) := by decide +kernel
theorem dJ0_coder_7d493_13 : decode cJ0_coder_7d493 13 = .ok (.iconst 1, 1) := by decide +kernel
theorem dJ0_coder_7d493_14 : decode cJ0_coder_7d493 14 = .ok (.ireturn, 1) := by decide +kernel
theorem dJ0_isLatin1_aae02_0 : decode cJ0_isLatin1_aae02 0 = .ok (.getstatic 38, 3) := by decide +kernel
theorem dJ0_isLatin1_aae02_3 : decode cJ0_isLatin1_aae02 3 = .ok (.ifCond .eq 14, 3) := by decide +kernel
theorem dJ0_isLatin1_aae02_6 : decode cJ0_isLatin1_aae02 6 = .ok (.aload_n 0, 1) := by decide +kernel
theorem dJ0_isLatin1_aae02_7 : decode cJ0_isLatin1_aae02 7 = .ok (.getfield 15, 3) := by decide +kernel
theorem dJ0_isLatin1_aae02_10 : decode cJ0_isLatin1_aae02 10 = .ok (.ifCond .ne 7, 3) := by decide +kernel
theorem dJ0_isLatin1_aae02_13 : decode cJ0_isLatin1_aae02 13 = .ok (.iconst 1, 1) := by decide +kernel
theorem dJ0_isLatin1_aae02_14 : decode cJ0_isLatin1_aae02 14 = .ok (.goto 4, 3) := by decide +kernel
theorem dJ0_isLatin1_aae02_17 : decode cJ0_isLatin1_aae02 17 = .ok (.iconst 0, 1) := by decide +kernel
theorem dJ0_isLatin1_aae02_18 : decode cJ0_isLatin1_aae02 18 = .ok (.ireturn, 1) := by decide +kernel
theorem dJ0_checkIndex_df160_0 : decode cJ0_checkIndex_df160 0 = .ok (.iload_n 0, 1) := by decide +kernel
theorem dJ0_checkIndex_df160_1 : decode cJ0_checkIndex_df160 1 = .ok (.iload_n 1, 1) := by decide +kernel
theorem dJ0_checkIndex_df160_2 : decode cJ0_checkIndex_df160 2 = .ok (.getstatic 1053, 3) := by decide +kernel
theorem dJ0_checkIndex_df160_5 : decode cJ0_checkIndex_df160 5 = .ok (.invokestatic 1059, 3) := by decide +kernel
theorem dJ0_checkIndex_df160_8 : decode cJ0_checkIndex_df160 8 = .ok (.pop, 1) := by decide +kernel
theorem dJ0_checkIndex_df160_9 : decode cJ0_checkIndex_df160 9 = .ok (.return_, 1) := by decide +kernel
theorem dJ0_checkBoundsBeginEnd_23922_0 : decode cJ0_checkBoundsBeginEnd_23922 0 = .ok (.iload_n 0, 1) := by decide +kernel
theorem dJ0_checkBoundsBeginEnd_23922_1 : decode cJ0_checkBoundsBeginEnd_23922 1 = .ok (.iload_n 1, 1) := by decide +kernel
theorem dJ0_checkBoundsBeginEnd_23922_2 : decode cJ0_checkBoundsBeginEnd_23922 2 = .ok (.iload_n 2, 1) := by decide +kernel
theorem dJ0_checkBoundsBeginEnd_23922_3 : decode cJ0_checkBoundsBeginEnd_23922 3 = .ok (.getstatic 1053, 3) := by decide +kernel
theorem dJ0_checkBoundsBeginEnd_23922_6 : decode cJ0_checkBoundsBeginEnd_23922 6 = .ok (.invokestatic 1062, 3) := by decide +kernel
theorem dJ0_checkBoundsBeginEnd_23922_9 : decode cJ0_checkBoundsBeginEnd_23922 9 = .ok (.pop, 1) := by decide +kernel
theorem dJ0_checkBoundsBeginEnd_23922_10 : decode cJ0_checkBoundsBeginEnd_23922 10 = .ok (.return_, 1) := by decide +kernel
theorem dJ1_charAt_3b067_0 : decode cJ1_charAt_3b067 0 = .ok (.iload_n 1, 1) := by decide +kernel
theorem dJ1_charAt_3b067_1 : decode cJ1_charAt_3b067 1 = .ok (.aload_n 0, 1) := by decide +kernel
theorem dJ1_charAt_3b067_2 : decode cJ1_charAt_3b067 2 = .ok (.arraylength, 1) := by decide +kernel
theorem dJ1_charAt_3b067_3 : decode cJ1_charAt_3b067 3 = .ok (.invokestatic 9, 3) := by decide +kernel
theorem dJ1_charAt_3b067_6 : decode cJ1_charAt_3b067 6 = .ok (.aload_n 0, 1) := by decide +kernel
theorem dJ1_charAt_3b067_7 : decode cJ1_charAt_3b067 7 = .ok (.iload_n 1, 1) := by decide +kernel
theorem dJ1_charAt_3b067_8 : decode cJ1_charAt_3b067 8 = .ok (.baload, 1) := by decide +kernel
theorem dJ1_charAt_3b067_9 : decode cJ1_charAt_3b067 9 = .ok (.sipush 255, 3) := by decide +kernel
theorem dJ1_charAt_3b067_12 : decode cJ1_charAt_3b067 12 = .ok (.iand, 1) := by decide +kernel
theorem dJ1_charAt_3b067_13 : decode cJ1_charAt_3b067 13 = .ok (.i2c, 1) := by decide +kernel
theorem dJ1_charAt_3b067_14 : decode cJ1_charAt_3b067 14 = .ok (.ireturn, 1) := by decide +kernel
theorem dJ1_canEncode_9a6ad_0 : decode cJ1_canEncode_9a6ad 0 = .ok (.iload_n 0, 1) := by decide +kernel
theorem dJ1_canEncode_9a6ad_1 : decode cJ1_canEncode_9a6ad 1 = .ok (.ifCond .lt 14, 3) := by decide +kernel
theorem dJ1_canEncode_9a6ad_4 : decode cJ1_canEncode_9a6ad 4 = .ok (.iload_n 0, 1) := by decide +kernel
theorem dJ1_canEncode_9a6ad_5 : decode cJ1_canEncode_9a6ad 5 = .ok (.sipush 255, 3) := by decide +kernel
theorem dJ1_canEncode_9a6ad_8 : decode cJ1_canEncode_9a6ad 8 = .ok (.if_icmp .gt 7, 3) := by decide +kernel
theorem dJ1_canEncode_9a6ad_11 : decode cJ1_canEncode_9a6ad 11 = .ok (.iconst 1, 1) := by decide +kernel
theorem dJ1_canEncode_9a6ad_12 : decode cJ1_canEncode_9a6ad 12 = .ok (.goto 4, 3) := by decide +kernel
theorem dJ1_canEncode_9a6ad_15 : decode cJ1_canEncode_9a6ad 15 = .ok (.iconst 0, 1) := by decide +kernel
theorem dJ1_canEncode_9a6ad_16 : decode cJ1_canEncode_9a6ad 16 = .ok (.ireturn, 1) := by decide +kernel
theorem dJ1_indexOf_4cfef_0 : decode cJ1_indexOf_4cfef 0 = .ok (.iload_n 1, 1) := by decide +kernel
theorem dJ1_indexOf_4cfef_1 : decode cJ1_indexOf_4cfef 1 = .ok (.invokestatic 88, 3) := by decide +kernel
theorem dJ1_indexOf_4cfef_4 : decode cJ1_indexOf_4cfef 4 = .ok (.ifCond .ne 5, 3) := by decide +kernel
theorem dJ1_indexOf_4cfef_7 : decode cJ1_indexOf_4cfef 7 = .ok (.iconst (-1), 1) := by decide +kernel
theorem dJ1_indexOf_4cfef_8 : decode cJ1_indexOf_4cfef 8 = .ok (.ireturn, 1) := by decide +kernel
theorem dJ1_indexOf_4cfef_9 : decode cJ1_indexOf_4cfef 9 = .ok (.iload_n 2, 1) := by decide +kernel
theorem dJ1_indexOf_4cfef_10 : decode cJ1_indexOf_4cfef 10 = .ok (.iconst 0, 1) := by decide +kernel
theorem dJ1_indexOf_4cfef_11 : decode cJ1_indexOf_4cfef 11 = .ok (.invokestatic 92, 3) := by decide +kernel
theorem dJ1_indexOf_4cfef_14 : decode cJ1_indexOf_4cfef 14 = .ok (.istore_n 2, 1) := by decide +kernel
theorem dJ1_indexOf_4cfef_15 : decode cJ1_indexOf_4cfef 15 = .ok (.iload_n 3, 1) := by decide +kernel
theorem dJ1_indexOf_4cfef_16 : decode cJ1_indexOf_4cfef 16 = .ok (.aload_n 0, 1) := by decide +kernel
theorem dJ1_indexOf_4cfef_17 : decode cJ1_indexOf_4cfef 17 = .ok (.arraylength, 1) := by decide +kernel
theorem dJ1_indexOf_4cfef_18 : decode cJ1_indexOf_4cfef 18 = .ok (.invokestatic 38, 3) := by decide +kernel
theorem dJ1_indexOf_4cfef_21 : decode cJ1_indexOf_4cfef 21 = .ok (.istore_n 3, 1) := by decide +kernel
theorem dJ1_indexOf_4cfef_22 : decode cJ1_indexOf_4cfef 22 = .ok (.iload_n 2, 1) := by decide +kernel
theorem dJ1_indexOf_4cfef_23 : decode cJ1_indexOf_4cfef 23 = .ok (.iload_n 3, 1) := by decide +kernel
theorem dJ1_indexOf_4cfef_24 : decode cJ1_indexOf_4cfef 24 = .ok (.if_icmp .lt 5, 3) := by decide +kernel
theorem dJ1_indexOf_4cfef_27 : decode cJ1_indexOf_4cfef 27 = .ok (.iconst (-1), 1) := by decide +kernel
theorem dJ1_indexOf_4cfef_28 : decode cJ1_indexOf_4cfef 28 = .ok (.ireturn, 1) := by decide +kernel
theorem dJ1_indexOf_4cfef_29 : decode cJ1_indexOf_4cfef 29 = .ok (.aload_n 0, 1) := by decide +kernel
theorem dJ1_indexOf_4cfef_30 : decode cJ1_indexOf_4cfef 30 = .ok (.iload_n 1, 1) := by decide +kernel
theorem dJ1_indexOf_4cfef_31 : decode cJ1_indexOf_4cfef 31 = .ok (.iload_n 2, 1) := by decide +kernel
theorem dJ1_indexOf_4cfef_32 : decode cJ1_indexOf_4cfef 32 = .ok (.iload_n 3, 1) := by decide +kernel
theorem dJ1_indexOf_4cfef_33 : decode cJ1_indexOf_4cfef 33 = .ok (.invokestatic 95, 3) := by decide +kernel
theorem dJ1_indexOf_4cfef_36 : decode cJ1_indexOf_4cfef 36 = .ok (.ireturn, 1) := by decide +kernel
theorem dJ1_indexOfChar_4cfef_0 : decode cJ1_indexOfChar_4cfef 0 = .ok (.iload_n 1, 1) := by decide +kernel
theorem dJ1_indexOfChar_4cfef_1 : decode cJ1_indexOfChar_4cfef 1 = .ok (.i2b, 1) := by decide +kernel
theorem dJ1_indexOfChar_4cfef_2 : decode cJ1_indexOfChar_4cfef 2 = .ok (.istore 4, 2) := by decide +kernel
theorem dJ1_indexOfChar_4cfef_4 : decode cJ1_indexOfChar_4cfef 4 = .ok (.iload_n 2, 1) := by decide +kernel
theorem dJ1_indexOfChar_4cfef_5 : decode cJ1_indexOfChar_4cfef 5 = .ok (.istore 5, 2) := by decide +kernel
theorem dJ1_indexOfChar_4cfef_7 : decode cJ1_indexOfChar_4cfef 7 = .ok (.iload 5, 2) := by decide +kernel
theorem dJ1_indexOfChar_4cfef_9 : decode cJ1_indexOfChar_4cfef 9 = .ok (.iload_n 3, 1) := by decide +kernel
theorem dJ1_indexOfChar_4cfef_10 : decode cJ1_indexOfChar_4cfef 10 = .ok (.if_icmp .ge 21, 3) := by decide +kernel
theorem dJ1_indexOfChar_4cfef_13 : decode cJ1_indexOfChar_4cfef 13 = .ok (.aload_n 0, 1) := by decide +kernel
theorem dJ1_indexOfChar_4cfef_14 : decode cJ1_indexOfChar_4cfef 14 = .ok (.iload 5, 2) := by decide +kernel
theorem dJ1_indexOfChar_4cfef_16 : decode cJ1_indexOfChar_4cfef 16 = .ok (.baload, 1) := by decide +kernel
theorem dJ1_indexOfChar_4cfef_17 : decode cJ1_indexOfChar_4cfef 17 = .ok (.iload 4, 2) := by decide +kernel
theorem dJ1_indexOfChar_4cfef_19 : decode cJ1_indexOfChar_4cfef 19 = .ok (.if_icmp .ne 6, 3) := by decide +kernel
theorem dJ1_indexOfChar_4cfef_22 : decode cJ1_indexOfChar_4cfef 22 = .ok (.iload 5, 2) := by decide +kernel
theorem dJ1_indexOfChar_4cfef_24 : decode cJ1_indexOfChar_4cfef 24 = .ok (.ireturn, 1) := by decide +kernel
theorem dJ1_indexOfChar_4cfef_25 : decode cJ1_indexOfChar_4cfef 25 = .ok (.iinc 5 1, 3) := by decide +kernel
theorem dJ1_indexOfChar_4cfef_28 : decode cJ1_indexOfChar_4cfef 28 = .ok (.goto (-21), 3) := by decide +kernel
theorem dJ1_indexOfChar_4cfef_31 : decode cJ1_indexOfChar_4cfef 31 = .ok (.iconst (-1), 1) := by decide +kernel
theorem dJ1_indexOfChar_4cfef_32 : decode cJ1_indexOfChar_4cfef 32 = .ok (.ireturn, 1) := by decide +kernel
theorem dJ2_getChar_3b067_0 : decode cJ2_getChar_3b067 0 = .ok (.getstatic 44, 3) := by decide +kernel
theorem dJ2_getChar_3b067_3 : decode cJ2_getChar_3b067 3 = .ok (.ifCond .ne 25, 3) := by decide +kernel
theorem dJ2_getChar_3b067_6 : decode cJ2_getChar_3b067 6 = .ok (.iload_n 1, 1) := by decide +kernel
theorem dJ2_getChar_3b067_7 : decode cJ2_getChar_3b067 7 = .ok (.ifCond .lt 11, 3) := by decide +kernel
theorem dJ2_getChar_3b067_10 : decode cJ2_getChar_3b067 10 = .ok (.iload_n 1, 1) := by decide +kernel
theorem dJ2_getChar_3b067_11 : decode cJ2_getChar_3b067 11 = .ok (.aload_n 0, 1) := by decide +kernel
theorem dJ2_getChar_3b067_12 : decode cJ2_getChar_3b067 12 = .ok (.invokestatic 48, 3) := by decide +kernel
theorem dJ2_getChar_3b067_15 : decode cJ2_getChar_3b067 15 = .ok (.if_icmp .lt 13, 3) := by decide +kernel
theorem dJ2_getChar_3b067_18 : decode cJ2_getChar_3b067 18 = .ok (.new 52, 3) := by decide +kernel
theorem dJ2_getChar_3b067_21 : decode cJ2_getChar_3b067 21 = .ok (.dup, 1) := by decide +kernel
theorem dJ2_getChar_3b067_22 : decode cJ2_getChar_3b067 22 = .ok (.ldc 54, 2) := by decide +kernel
theorem dJ2_getChar_3b067_24 : decode cJ2_getChar_3b067 24 = .ok (.invokespecial 56, 3) := by decide +kernel
theorem dJ2_getChar_3b067_27 : decode cJ2_getChar_3b067 27 = .ok (.athrow, 1) := by decide +kernel
theorem dJ2_getChar_3b067_28 : decode cJ2_getChar_3b067 28 = .ok (.iload_n 1, 1) := by decide +kernel
theorem dJ2_getChar_3b067_29 : decode cJ2_getChar_3b067 29 = .ok (.iconst 1, 1) := by decide +kernel
theorem dJ2_getChar_3b067_30 : decode cJ2_getChar_3b067 30 = .ok (.ishl, 1) := by decide +kernel
theorem dJ2_getChar_3b067_31 : decode cJ2_getChar_3b067 31 = .ok (.istore_n 1, 1) := by decide +kernel
theorem dJ2_getChar_3b067_32 : decode cJ2_getChar_3b067 32 = .ok (.aload_n 0, 1) := by decide +kernel
theorem dJ2_getChar_3b067_33 : decode cJ2_getChar_3b067 33 = .ok (.iload_n 1, 1) := by decide +kernel
theorem dJ2_getChar_3b067_34 : decode cJ2_getChar_3b067 34 = .ok (.iinc 1 1, 3) := by decide +kernel
theorem dJ2_getChar_3b067_37 : decode cJ2_getChar_3b067 37 = .ok (.baload, 1) := by decide +kernel
theorem dJ2_getChar_3b067_38 : decode cJ2_getChar_3b067 38 = .ok (.sipush 255, 3) := by decide +kernel
theorem dJ2_getChar_3b067_41 : decode cJ2_getChar_3b067 41 = .ok (.iand, 1) := by decide +kernel
theorem dJ2_getChar_3b067_42 : decode cJ2_getChar_3b067 42 = .ok (.getstatic 59, 3) := by decide +kernel
theorem dJ2_getChar_3b067_45 : decode cJ2_getChar_3b067 45 = .ok (.ishl, 1) := by decide +kernel
theorem dJ2_getChar_3b067_46 : decode cJ2_getChar_3b067 46 = .ok (.aload_n 0, 1) := by decide +kernel
theorem dJ2_getChar_3b067_47 : decode cJ2_getChar_3b067 47 = .ok (.iload_n 1, 1) := by decide +kernel
theorem dJ2_getChar_3b067_48 : decode cJ2_getChar_3b067 48 = .ok (.baload, 1) := by decide +kernel
theorem dJ2_getChar_3b067_49 : decode cJ2_getChar_3b067 49 = .ok (.sipush 255, 3) := by decide +kernel
theorem dJ2_getChar_3b067_52 : decode cJ2_getChar_3b067 52 = .ok (.iand, 1) := by decide +kernel
theorem dJ2_getChar_3b067_53 : decode cJ2_getChar_3b067 53 = .ok (.getstatic 63, 3) := by decide +kernel
theorem dJ2_getChar_3b067_56 : decode cJ2_getChar_3b067 56 = .ok (.ishl, 1) := by decide +kernel
theorem dJ2_getChar_3b067_57 : decode cJ2_getChar_3b067 57 = .ok (.ior, 1) := by decide +kernel
theorem dJ2_getChar_3b067_58 : decode cJ2_getChar_3b067 58 = .ok (.i2c, 1) := by decide +kernel
theorem dJ2_getChar_3b067_59 : decode cJ2_getChar_3b067 59 = .ok (.ireturn, 1) := by decide +kernel
theorem dJ2_length_9d52b_0 : decode cJ2_length_9d52b 0 = .ok (.aload_n 0, 1) := by decide +kernel
theorem dJ2_length_9d52b_1 : decode cJ2_length_9d52b 1 = .ok (.arraylength, 1) := by decide +kernel
theorem dJ2_length_9d52b_2 : decode cJ2_length_9d52b 2 = .ok (.iconst 1, 1) := by decide +kernel
theorem dJ2_length_9d52b_3 : decode cJ2_length_9d52b 3 = .ok (.ishr, 1) := by decide +kernel
theorem dJ2_length_9d52b_4 : decode cJ2_length_9d52b 4 = .ok (.ireturn, 1) := by decide +kernel
theorem dJ2_indexOf_4cfef_0 : decode cJ2_indexOf_4cfef 0 = .ok (.iload_n 2, 1) := by decide +kernel
theorem dJ2_indexOf_4cfef_1 : decode cJ2_indexOf_4cfef 1 = .ok (.iconst 0, 1) := by decide +kernel
theorem dJ2_indexOf_4cfef_2 : decode cJ2_indexOf_4cfef 2 = .ok (.invokestatic 224, 3) := by decide +kernel
theorem dJ2_indexOf_4cfef_5 : decode cJ2_indexOf_4cfef 5 = .ok (.istore_n 2, 1) := by decide +kernel
theorem dJ2_indexOf_4cfef_6 : decode cJ2_indexOf_4cfef 6 = .ok (.iload_n 3, 1) := by decide +kernel
theorem dJ2_indexOf_4cfef_7 : decode cJ2_indexOf_4cfef 7 = .ok (.aload_n 0, 1) := by decide +kernel
theorem dJ2_indexOf_4cfef_8 : decode cJ2_indexOf_4cfef 8 = .ok (.arraylength, 1) := by decide +kernel
theorem dJ2_indexOf_4cfef_9 : decode cJ2_indexOf_4cfef 9 = .ok (.iconst 1, 1) := by decide +kernel
theorem dJ2_indexOf_4cfef_10 : decode cJ2_indexOf_4cfef 10 = .ok (.ishr, 1) := by decide +kernel
theorem dJ2_indexOf_4cfef_11 : decode cJ2_indexOf_4cfef 11 = .ok (.invokestatic 183, 3) := by decide +kernel
theorem dJ2_indexOf_4cfef_14 : decode cJ2_indexOf_4cfef 14 = .ok (.istore_n 3, 1) := by decide +kernel
theorem dJ2_indexOf_4cfef_15 : decode cJ2_indexOf_4cfef 15 = .ok (.iload_n 2, 1) := by decide +kernel
theorem dJ2_indexOf_4cfef_16 : decode cJ2_indexOf_4cfef 16 = .ok (.iload_n 3, 1) := by decide +kernel
theorem dJ2_indexOf_4cfef_17 : decode cJ2_indexOf_4cfef 17 = .ok (.if_icmp .lt 5, 3) := by decide +kernel
theorem dJ2_indexOf_4cfef_20 : decode cJ2_indexOf_4cfef 20 = .ok (.iconst (-1), 1) := by decide +kernel
theorem dJ2_indexOf_4cfef_21 : decode cJ2_indexOf_4cfef 21 = .ok (.ireturn, 1) := by decide +kernel
theorem dJ2_indexOf_4cfef_22 : decode cJ2_indexOf_4cfef 22 = .ok (.iload_n 1, 1) := by decide +kernel
theorem dJ2_indexOf_4cfef_23 : decode cJ2_indexOf_4cfef 23 = .ok (.ldc 227, 2) := by decide +kernel
theorem dJ2_indexOf_4cfef_25 : decode cJ2_indexOf_4cfef 25 = .ok (.if_icmp .ge 11, 3) := by decide +kernel
theorem dJ2_indexOf_4cfef_28 : decode cJ2_indexOf_4cfef 28 = .ok (.aload_n 0, 1) := by decide +kernel
theorem dJ2_indexOf_4cfef_29 : decode cJ2_indexOf_4cfef 29 = .ok (.iload_n 1, 1) := by decide +kernel
theorem dJ2_indexOf_4cfef_30 : decode cJ2_indexOf_4cfef 30 = .ok (.iload_n 2, 1) := by decide +kernel
theorem dJ2_indexOf_4cfef_31 : decode cJ2_indexOf_4cfef 31 = .ok (.iload_n 3, 1) := by decide +kernel
theorem dJ2_indexOf_4cfef_32 : decode cJ2_indexOf_4cfef 32 = .ok (.invokestatic 228, 3) := by decide +kernel
theorem dJ2_indexOf_4cfef_35 : decode cJ2_indexOf_4cfef 35 = .ok (.ireturn, 1) := by decide +kernel
theorem dJ2_indexOf_4cfef_36 : decode cJ2_indexOf_4cfef 36 = .ok (.aload_n 0, 1) := by decide +kernel
theorem dJ2_indexOf_4cfef_37 : decode cJ2_indexOf_4cfef 37 = .ok (.iload_n 1, 1) := by decide +kernel
theorem dJ2_indexOf_4cfef_38 : decode cJ2_indexOf_4cfef 38 = .ok (.iload_n 2, 1) := by decide +kernel
theorem dJ2_indexOf_4cfef_39 : decode cJ2_indexOf_4cfef 39 = .ok (.iload_n 3, 1) := by decide +kernel
theorem dJ2_indexOf_4cfef_40 : decode cJ2_indexOf_4cfef 40 = .ok (.invokestatic 232, 3) := by decide +kernel
theorem dJ2_indexOf_4cfef_43 : decode cJ2_indexOf_4cfef 43 = .ok (.ireturn, 1) := by decide +kernel
theorem dJ2_indexOfChar_4cfef_0 : decode cJ2_indexOfChar_4cfef 0 = .ok (.iload_n 2, 1) := by decide +kernel
theorem dJ2_indexOfChar_4cfef_1 : decode cJ2_indexOfChar_4cfef 1 = .ok (.iload_n 3, 1) := by decide +kernel
theorem dJ2_indexOfChar_4cfef_2 : decode cJ2_indexOfChar_4cfef 2 = .ok (.aload_n 0, 1) := by decide +kernel
theorem dJ2_indexOfChar_4cfef_3 : decode cJ2_indexOfChar_4cfef 3 = .ok (.invokestatic 96, 3) := by decide +kernel
theorem dJ2_indexOfChar_4cfef_6 : decode cJ2_indexOfChar_4cfef 6 = .ok (.aload_n 0, 1) := by decide +kernel
theorem dJ2_indexOfChar_4cfef_7 : decode cJ2_indexOfChar_4cfef 7 = .ok (.iload_n 1, 1) := by decide +kernel
theorem dJ2_indexOfChar_4cfef_8 : decode cJ2_indexOfChar_4cfef 8 = .ok (.iload_n 2, 1) := by decide +kernel
theorem dJ2_indexOfChar_4cfef_9 : decode cJ2_indexOfChar_4cfef 9 = .ok (.iload_n 3, 1) := by decide +kernel
theorem dJ2_indexOfChar_4cfef_10 : decode cJ2_indexOfChar_4cfef 10 = .ok (.invokestatic 244, 3) := by decide +kernel
theorem dJ2_indexOfChar_4cfef_13 : decode cJ2_indexOfChar_4cfef 13 = .ok (.ireturn, 1) := by decide +kernel
theorem dJ2_indexOfCharUnsafe_4cfef_0 : decode cJ2_indexOfCharUnsafe_4cfef 0 = .ok (.iload_n 2, 1) := by decide +kernel
theorem dJ2_indexOfCharUnsafe_4cfef_1 : decode cJ2_indexOfCharUnsafe_4cfef 1 = .ok (.istore 4, 2) := by decide +kernel
theorem dJ2_indexOfCharUnsafe_4cfef_3 : decode cJ2_indexOfCharUnsafe_4cfef 3 = .ok (.iload 4, 2) := by decide +kernel
theorem dJ2_indexOfCharUnsafe_4cfef_5 : decode cJ2_indexOfCharUnsafe_4cfef 5 = .ok (.iload_n 3, 1) := by decide +kernel
theorem dJ2_indexOfCharUnsafe_4cfef_6 : decode cJ2_indexOfCharUnsafe_4cfef 6 = .ok (.if_icmp .ge 22, 3) := by decide +kernel
theorem dJ2_indexOfCharUnsafe_4cfef_9 : decode cJ2_indexOfCharUnsafe_4cfef 9 = .ok (.aload_n 0, 1) := by decide +kernel
theorem dJ2_indexOfCharUnsafe_4cfef_10 : decode cJ2_indexOfCharUnsafe_4cfef 10 = .ok (.iload 4, 2) := by decide +kernel
theorem dJ2_indexOfCharUnsafe_4cfef_12 : decode cJ2_indexOfCharUnsafe_4cfef 12 = .ok (.invokestatic 71, 3) := by decide +kernel
theorem dJ2_indexOfCharUnsafe_4cfef_15 : decode cJ2_indexOfCharUnsafe_4cfef 15 = .ok (.iload_n 1, 1) := by decide +kernel
theorem dJ2_indexOfCharUnsafe_4cfef_16 : decode cJ2_indexOfCharUnsafe_4cfef 16 = .ok (.if_icmp .ne 6, 3) := by decide +kernel
theorem dJ2_indexOfCharUnsafe_4cfef_19 : decode cJ2_indexOfCharUnsafe_4cfef 19 = .ok (.iload 4, 2) := by decide +kernel
theorem dJ2_indexOfCharUnsafe_4cfef_21 : decode cJ2_indexOfCharUnsafe_4cfef 21 = .ok (.ireturn, 1) := by decide +kernel
theorem dJ2_indexOfCharUnsafe_4cfef_22 : decode cJ2_indexOfCharUnsafe_4cfef 22 = .ok (.iinc 4 1, 3) := by decide +kernel
theorem dJ2_indexOfCharUnsafe_4cfef_25 : decode cJ2_indexOfCharUnsafe_4cfef 25 = .ok (.goto (-22), 3) := by decide +kernel
theorem dJ2_indexOfCharUnsafe_4cfef_28 : decode cJ2_indexOfCharUnsafe_4cfef 28 = .ok (.iconst (-1), 1) := by decide +kernel
theorem dJ2_indexOfCharUnsafe_4cfef_29 : decode cJ2_indexOfCharUnsafe_4cfef 29 = .ok (.ireturn, 1) := by decide +kernel
theorem dJ2_indexOfSupplementary_4cfef_0 : decode cJ2_indexOfSupplementary_4cfef 0 = .ok (.iload_n 1, 1) := by decide +kernel
theorem dJ2_indexOfSupplementary_4cfef_1 : decode cJ2_indexOfSupplementary_4cfef 1 = .ok (.invokestatic 164, 3) := by decide +kernel
theorem dJ2_indexOfSupplementary_4cfef_4 : decode cJ2_indexOfSupplementary_4cfef 4 = .ok (.ifCond .eq 65, 3) := by decide +kernel
theorem dJ2_indexOfSupplementary_4cfef_7 : decode cJ2_indexOfSupplementary_4cfef 7 = .ok (.iload_n 1, 1) := by decide +kernel
theorem dJ2_indexOfSupplementary_4cfef_8 : decode cJ2_indexOfSupplementary_4cfef 8 = .ok (.invokestatic 157, 3) := by decide +kernel
theorem dJ2_indexOfSupplementary_4cfef_11 : decode cJ2_indexOfSupplementary_4cfef 11 = .ok (.istore 4, 2) := by decide +kernel
theorem dJ2_indexOfSupplementary_4cfef_13 : decode cJ2_indexOfSupplementary_4cfef 13 = .ok (.iload_n 1, 1) := by decide +kernel
theorem dJ2_indexOfSupplementary_4cfef_14 : decode cJ2_indexOfSupplementary_4cfef 14 = .ok (.invokestatic 161, 3) := by decide +kernel
theorem dJ2_indexOfSupplementary_4cfef_17 : decode cJ2_indexOfSupplementary_4cfef 17 = .ok (.istore 5, 2) := by decide +kernel
theorem dJ2_indexOfSupplementary_4cfef_19 : decode cJ2_indexOfSupplementary_4cfef 19 = .ok (.iload_n 2, 1) := by decide +kernel
theorem dJ2_indexOfSupplementary_4cfef_20 : decode cJ2_indexOfSupplementary_4cfef 20 = .ok (.iload_n 3, 1) := by decide +kernel
theorem dJ2_indexOfSupplementary_4cfef_21 : decode cJ2_indexOfSupplementary_4cfef 21 = .ok (.aload_n 0, 1) := by decide +kernel
theorem dJ2_indexOfSupplementary_4cfef_22 : decode cJ2_indexOfSupplementary_4cfef 22 = .ok (.invokestatic 96, 3) := by decide +kernel
theorem dJ2_indexOfSupplementary_4cfef_25 : decode cJ2_indexOfSupplementary_4cfef 25 = .ok (.iload_n 2, 1) := by decide +kernel
theorem dJ2_indexOfSupplementary_4cfef_26 : decode cJ2_indexOfSupplementary_4cfef 26 = .ok (.istore 6, 2) := by decide +kernel
theorem dJ2_indexOfSupplementary_4cfef_28 : decode cJ2_indexOfSupplementary_4cfef 28 = .ok (.iload 6, 2) := by decide +kernel
theorem dJ2_indexOfSupplementary_4cfef_30 : decode cJ2_indexOfSupplementary_4cfef 30 = .ok (.iload_n 3, 1) := by decide +kernel
theorem dJ2_indexOfSupplementary_4cfef_31 : decode cJ2_indexOfSupplementary_4cfef 31 = .ok (.iconst 1, 1) := by decide +kernel
theorem dJ2_indexOfSupplementary_4cfef_32 : decode cJ2_indexOfSupplementary_4cfef 32 = .ok (.isub, 1) := by decide +kernel
theorem dJ2_indexOfSupplementary_4cfef_33 : decode cJ2_indexOfSupplementary_4cfef 33 = .ok (.if_icmp .ge 36, 3) := by decide +kernel
theorem dJ2_indexOfSupplementary_4cfef_36 : decode cJ2_indexOfSupplementary_4cfef 36 = .ok (.aload_n 0, 1) := by decide +kernel
theorem dJ2_indexOfSupplementary_4cfef_37 : decode cJ2_indexOfSupplementary_4cfef 37 = .ok (.iload 6, 2) := by decide +kernel
theorem dJ2_indexOfSupplementary_4cfef_39 : decode cJ2_indexOfSupplementary_4cfef 39 = .ok (.invokestatic 71, 3) := by decide +kernel
theorem dJ2_indexOfSupplementary_4cfef_42 : decode cJ2_indexOfSupplementary_4cfef 42 = .ok (.iload 4, 2) := by decide +kernel
theorem dJ2_indexOfSupplementary_4cfef_44 : decode cJ2_indexOfSupplementary_4cfef 44 = .ok (.if_icmp .ne 19, 3) := by decide +kernel
theorem dJ2_indexOfSupplementary_4cfef_47 : decode cJ2_indexOfSupplementary_4cfef 47 = .ok (.aload_n 0, 1) := by decide +kernel
theorem dJ2_indexOfSupplementary_4cfef_48 : decode cJ2_indexOfSupplementary_4cfef 48 = .ok (.iload 6, 2) := by decide +kernel
theorem dJ2_indexOfSupplementary_4cfef_50 : decode cJ2_indexOfSupplementary_4cfef 50 = .ok (.iconst 1, 1) := by decide +kernel
theorem dJ2_indexOfSupplementary_4cfef_51 : decode cJ2_indexOfSupplementary_4cfef 51 = .ok (.iadd, 1) := by decide +kernel
theorem dJ2_indexOfSupplementary_4cfef_52 : decode cJ2_indexOfSupplementary_4cfef 52 = .ok (.invokestatic 71, 3) := by decide +kernel
theorem dJ2_indexOfSupplementary_4cfef_55 : decode cJ2_indexOfSupplementary_4cfef 55 = .ok (.iload 5, 2) := by decide +kernel
theorem dJ2_indexOfSupplementary_4cfef_57 : decode cJ2_indexOfSupplementary_4cfef 57 = .ok (.if_icmp .ne 6, 3) := by decide +kernel
theorem dJ2_indexOfSupplementary_4cfef_60 : decode cJ2_indexOfSupplementary_4cfef 60 = .ok (.iload 6, 2) := by decide +kernel
theorem dJ2_indexOfSupplementary_4cfef_62 : decode cJ2_indexOfSupplementary_4cfef 62 = .ok (.ireturn, 1) := by decide +kernel
theorem dJ2_indexOfSupplementary_4cfef_63 : decode cJ2_indexOfSupplementary_4cfef 63 = .ok (.iinc 6 1, 3) := by decide +kernel
theorem dJ2_indexOfSupplementary_4cfef_66 : decode cJ2_indexOfSupplementary_4cfef 66 = .ok (.goto (-38), 3) := by decide +kernel
theorem dJ2_indexOfSupplementary_4cfef_69 : decode cJ2_indexOfSupplementary_4cfef 69 = .ok (.iconst (-1), 1) := by decide +kernel
theorem dJ2_indexOfSupplementary_4cfef_70 : decode cJ2_indexOfSupplementary_4cfef 70 = .ok (.ireturn, 1) := by decide +kernel
theorem dJ2_charAt_3b067_0 : decode cJ2_charAt_3b067 0 = .ok (.iload_n 1, 1) := by decide +kernel
theorem dJ2_charAt_3b067_1 : decode cJ2_charAt_3b067 1 = .ok (.aload_n 0, 1) := by decide +kernel
theorem dJ2_charAt_3b067_2 : decode cJ2_charAt_3b067 2 = .ok (.invokestatic 67, 3) := by decide +kernel
theorem dJ2_charAt_3b067_5 : decode cJ2_charAt_3b067 5 = .ok (.aload_n 0, 1) := by decide +kernel
theorem dJ2_charAt_3b067_6 : decode cJ2_charAt_3b067 6 = .ok (.iload_n 1, 1) := by decide +kernel
theorem dJ2_charAt_3b067_7 : decode cJ2_charAt_3b067 7 = .ok (.invokestatic 71, 3) := by decide +kernel
theorem dJ2_charAt_3b067_10 : decode cJ2_charAt_3b067 10 = .ok (.ireturn, 1) := by decide +kernel
theorem dJ2_checkIndex_2214a_0 : decode cJ2_checkIndex_2214a 0 = .ok (.iload_n 0, 1) := by decide +kernel
theorem dJ2_checkIndex_2214a_1 : decode cJ2_checkIndex_2214a 1 = .ok (.aload_n 1, 1) := by decide +kernel
theorem dJ2_checkIndex_2214a_2 : decode cJ2_checkIndex_2214a 2 = .ok (.invokestatic 48, 3) := by decide +kernel
theorem dJ2_checkIndex_2214a_5 : decode cJ2_checkIndex_2214a 5 = .ok (.invokestatic 414, 3) := by decide +kernel
theorem dJ2_checkIndex_2214a_8 : decode cJ2_checkIndex_2214a 8 = .ok (.return_, 1) := by decide +kernel
theorem dJ2_checkBoundsBeginEnd_d044e_0 : decode cJ2_checkBoundsBeginEnd_d044e 0 = .ok (.iload_n 0, 1) := by decide +kernel
theorem dJ2_checkBoundsBeginEnd_d044e_1 : decode cJ2_checkBoundsBeginEnd_d044e 1 = .ok (.iload_n 1, 1) := by decide +kernel
theorem dJ2_checkBoundsBeginEnd_d044e_2 : decode cJ2_checkBoundsBeginEnd_d044e 2 = .ok (.aload_n 2, 1) := by decide +kernel
theorem dJ2_checkBoundsBeginEnd_d044e_3 : decode cJ2_checkBoundsBeginEnd_d044e 3 = .ok (.invokestatic 48, 3) := by decide +kernel
theorem dJ2_checkBoundsBeginEnd_d044e_6 : decode cJ2_checkBoundsBeginEnd_d044e 6 = .ok (.invokestatic 241, 3) := by decide +kernel
theorem dJ2_checkBoundsBeginEnd_d044e_9 : decode cJ2_checkBoundsBeginEnd_d044e 9 = .ok (.return_, 1) := by decide +kernel
theorem dJ7_fill_53178_0 : decode cJ7_fill_53178 0 = .ok (.iconst 0, 1) := by decide +kernel
theorem dJ7_fill_53178_1 : decode cJ7_fill_53178 1 = .ok (.istore_n 2, 1) := by decide +kernel
theorem dJ7_fill_53178_2 : decode cJ7_fill_53178 2 = .ok (.aload_n 0, 1) := by decide +kernel
theorem dJ7_fill_53178_3 : decode cJ7_fill_53178 3 = .ok (.arraylength, 1) := by decide +kernel
theorem dJ7_fill_53178_4 : decode cJ7_fill_53178 4 = .ok (.istore_n 3, 1) := by decide +kernel
theorem dJ7_fill_53178_5 : decode cJ7_fill_53178 5 = .ok (.iload_n 2, 1) := by decide +kernel
theorem dJ7_fill_53178_6 : decode cJ7_fill_53178 6 = .ok (.iload_n 3, 1) := by decide +kernel
theorem dJ7_fill_53178_7 : decode cJ7_fill_53178 7 = .ok (.if_icmp .ge 13, 3) := by decide +kernel
theorem dJ7_fill_53178_10 : decode cJ7_fill_53178 10 = .ok (.aload_n 0, 1) := by decide +kernel
theorem dJ7_fill_53178_11 : decode cJ7_fill_53178 11 = .ok (.iload_n 2, 1) := by decide +kernel
theorem dJ7_fill_53178_12 : decode cJ7_fill_53178 12 = .ok (.iload_n 1, 1) := by decide +kernel
theorem dJ7_fill_53178_13 : decode cJ7_fill_53178 13 = .ok (.iastore, 1) := by decide +kernel
theorem dJ7_fill_53178_14 : decode cJ7_fill_53178 14 = .ok (.iinc 2 1, 3) := by decide +kernel
theorem dJ7_fill_53178_17 : decode cJ7_fill_53178 17 = .ok (.goto (-12), 3) := by decide +kernel
theorem dJ7_fill_53178_20 : decode cJ7_fill_53178 20 = .ok (.return_, 1) := by decide +kernel
theorem dJ7_copyOf_59c91_0 : decode cJ7_copyOf_59c91 0 = .ok (.iload_n 1, 1) := by decide +kernel
theorem dJ7_copyOf_59c91_1 : decode cJ7_copyOf_59c91 1 = .ok (.aload_n 0, 1) := by decide +kernel
theorem dJ7_copyOf_59c91_2 : decode cJ7_copyOf_59c91 2 = .ok (.arraylength, 1) := by decide +kernel
theorem dJ7_copyOf_59c91_3 : decode cJ7_copyOf_59c91 3 = .ok (.if_icmp .ne 11, 3) := by decide +kernel
theorem dJ7_copyOf_59c91_6 : decode cJ7_copyOf_59c91 6 = .ok (.aload_n 0, 1) := by decide +kernel
theorem dJ7_copyOf_59c91_7 : decode cJ7_copyOf_59c91 7 = .ok (.invokevirtual 316, 3) := by decide +kernel
theorem dJ7_copyOf_59c91_10 : decode cJ7_copyOf_59c91 10 = .ok (.checkcast 317, 3) := by decide +kernel
theorem dJ7_copyOf_59c91_13 : decode cJ7_copyOf_59c91 13 = .ok (.areturn, 1) := by decide +kernel
theorem dJ7_copyOf_59c91_14 : decode cJ7_copyOf_59c91 14 = .ok (.iload_n 1, 1) := by decide +kernel
theorem dJ7_copyOf_59c91_15 : decode cJ7_copyOf_59c91 15 = .ok (.newarray .int, 2) := by decide +kernel
theorem dJ7_copyOf_59c91_17 : decode cJ7_copyOf_59c91 17 = .ok (.astore_n 2, 1) := by decide +kernel
theorem dJ7_copyOf_59c91_18 : decode cJ7_copyOf_59c91 18 = .ok (.aload_n 0, 1) := by decide +kernel
theorem dJ7_copyOf_59c91_19 : decode cJ7_copyOf_59c91 19 = .ok (.iconst 0, 1) := by decide +kernel
theorem dJ7_copyOf_59c91_20 : decode cJ7_copyOf_59c91 20 = .ok (.aload_n 2, 1) := by decide +kernel
theorem dJ7_copyOf_59c91_21 : decode cJ7_copyOf_59c91 21 = .ok (.iconst 0, 1) := by decide +kernel
theorem dJ7_copyOf_59c91_22 : decode cJ7_copyOf_59c91 22 = .ok (.aload_n 0, 1) := by decide +kernel
theorem dJ7_copyOf_59c91_23 : decode cJ7_copyOf_59c91 23 = .ok (.arraylength, 1) := by decide +kernel
theorem dJ7_copyOf_59c91_24 : decode cJ7_copyOf_59c91 24 = .ok (.iload_n 1, 1) := by decide +kernel
theorem dJ7_copyOf_59c91_25 : decode cJ7_copyOf_59c91 25 = .ok (.invokestatic 304, 3) := by decide +kernel
theorem dJ7_copyOf_59c91_28 : decode cJ7_copyOf_59c91 28 = .ok (.invokestatic 150, 3) := by decide +kernel
theorem dJ7_copyOf_59c91_31 : decode cJ7_copyOf_59c91 31 = .ok (.aload_n 2, 1) := by decide +kernel
theorem dJ7_copyOf_59c91_32 : decode cJ7_copyOf_59c91 32 = .ok (.areturn, 1) := by decide +kernel
theorem dJ3_checkIndex_8e157_0 : decode cJ3_checkIndex_8e157 0 = .ok (.iload_n 0, 1) := by decide +kernel
theorem dJ3_checkIndex_8e157_1 : decode cJ3_checkIndex_8e157 1 = .ok (.ifCond .lt 8, 3) := by decide +kernel
theorem dJ3_checkIndex_8e157_4 : decode cJ3_checkIndex_8e157 4 = .ok (.iload_n 0, 1) := by decide +kernel
theorem dJ3_checkIndex_8e157_5 : decode cJ3_checkIndex_8e157 5 = .ok (.iload_n 1, 1) := by decide +kernel
theorem dJ3_checkIndex_8e157_6 : decode cJ3_checkIndex_8e157 6 = .ok (.if_icmp .lt 10, 3) := by decide +kernel
theorem dJ3_checkIndex_8e157_9 : decode cJ3_checkIndex_8e157 9 = .ok (.aload_n 2, 1) := by decide +kernel
theorem dJ3_checkIndex_8e157_10 : decode cJ3_checkIndex_8e157 10 = .ok (.iload_n 0, 1) := by decide +kernel
theorem dJ3_checkIndex_8e157_11 : decode cJ3_checkIndex_8e157 11 = .ok (.iload_n 1, 1) := by decide +kernel
theorem dJ3_checkIndex_8e157_12 : decode cJ3_checkIndex_8e157 12 = .ok (.invokestatic 95, 3) := by decide +kernel
theorem dJ3_checkIndex_8e157_15 : decode cJ3_checkIndex_8e157 15 = .ok (.athrow, 1) := by decide +kernel
theorem dJ3_checkIndex_8e157_16 : decode cJ3_checkIndex_8e157 16 = .ok (.iload_n 0, 1) := by decide +kernel
theorem dJ3_checkIndex_8e157_17 : decode cJ3_checkIndex_8e157 17 = .ok (.ireturn, 1) := by decide +kernel
theorem dJ3_checkFromToIndex_8c36e_0 : decode cJ3_checkFromToIndex_8c36e 0 = .ok (.iload_n 0, 1) := by decide +kernel
theorem dJ3_checkFromToIndex_8c36e_1 : decode cJ3_checkFromToIndex_8c36e 1 = .ok (.ifCond .lt 13, 3) := by decide +kernel
theorem dJ3_checkFromToIndex_8c36e_4 : decode cJ3_checkFromToIndex_8c36e 4 = .ok (.iload_n 0, 1) := by decide +kernel
theorem dJ3_checkFromToIndex_8c36e_5 : decode cJ3_checkFromToIndex_8c36e 5 = .ok (.iload_n 1, 1) := by decide +kernel
theorem dJ3_checkFromToIndex_8c36e_6 : decode cJ3_checkFromToIndex_8c36e 6 = .ok (.if_icmp .gt 8, 3) := by decide +kernel
theorem dJ3_checkFromToIndex_8c36e_9 : decode cJ3_checkFromToIndex_8c36e 9 = .ok (.iload_n 1, 1) := by decide +kernel
theorem dJ3_checkFromToIndex_8c36e_10 : decode cJ3_checkFromToIndex_8c36e 10 = .ok (.iload_n 2, 1) := by decide +kernel
theorem dJ3_checkFromToIndex_8c36e_11 : decode cJ3_checkFromToIndex_8c36e 11 = .ok (.if_icmp .le 11, 3) := by decide +kernel
theorem dJ3_checkFromToIndex_8c36e_14 : decode cJ3_checkFromToIndex_8c36e 14 = .ok (.aload_n 3, 1) := by decide +kernel
theorem dJ3_checkFromToIndex_8c36e_15 : decode cJ3_checkFromToIndex_8c36e 15 = .ok (.iload_n 0, 1) := by decide +kernel
theorem dJ3_checkFromToIndex_8c36e_16 : decode cJ3_checkFromToIndex_8c36e 16 = .ok (.iload_n 1, 1) := by decide +kernel
theorem dJ3_checkFromToIndex_8c36e_17 : decode cJ3_checkFromToIndex_8c36e 17 = .ok (.iload_n 2, 1) := by decide +kernel
theorem dJ3_checkFromToIndex_8c36e_18 : decode cJ3_checkFromToIndex_8c36e 18 = .ok (.invokestatic 99, 3) := by decide +kernel
theorem dJ3_checkFromToIndex_8c36e_21 : decode cJ3_checkFromToIndex_8c36e 21 = .ok (.athrow, 1) := by decide +kernel
theorem dJ3_checkFromToIndex_8c36e_22 : decode cJ3_checkFromToIndex_8c36e 22 = .ok (.iload_n 0, 1) := by decide +kernel
theorem dJ3_checkFromToIndex_8c36e_23 : decode cJ3_checkFromToIndex_8c36e 23 = .ok (.ireturn, 1) := by decide +kernel
theorem dL_law_0 : decode cL_law 0 = .ok (.new 7, 3) := by decide +kernel
theorem dL_law_3 : decode cL_law 3 = .ok (.dup, 1) := by decide +kernel
theorem dL_law_4 : decode cL_law 4 = .ok (.invokespecial 9, 3) := by decide +kernel
theorem dL_law_7 : decode cL_law 7 = .ok (.astore_n 1, 1) := by decide +kernel
theorem dL_law_8 : decode cL_law 8 = .ok (.new 10, 3) := by decide +kernel
theorem dL_law_11 : decode cL_law 11 = .ok (.dup, 1) := by decide +kernel
theorem dL_law_12 : decode cL_law 12 = .ok (.invokespecial 12, 3) := by decide +kernel
theorem dL_law_15 : decode cL_law 15 = .ok (.astore_n 2, 1) := by decide +kernel
theorem dL_law_16 : decode cL_law 16 = .ok (.iconst 0, 1) := by decide +kernel
theorem dL_law_17 : decode cL_law 17 = .ok (.istore_n 3, 1) := by decide +kernel
theorem dL_law_18 : decode cL_law 18 = .ok (.iload_n 3, 1) := by decide +kernel
theorem dL_law_19 : decode cL_law 19 = .ok (.aload_n 0, 1) := by decide +kernel
theorem dL_law_20 : decode cL_law 20 = .ok (.arraylength, 1) := by decide +kernel
theorem dL_law_21 : decode cL_law 21 = .ok (.bipush 6, 2) := by decide +kernel
theorem dL_law_23 : decode cL_law 23 = .ok (.isub, 1) := by decide +kernel
theorem dL_law_24 : decode cL_law 24 = .ok (.if_icmp .gt 1086, 3) := by decide +kernel
theorem dL_law_27 : decode cL_law 27 = .ok (.aload_n 0, 1) := by decide +kernel
theorem dL_law_28 : decode cL_law 28 = .ok (.iload_n 3, 1) := by decide +kernel
theorem dL_law_29 : decode cL_law 29 = .ok (.iaload, 1) := by decide +kernel
theorem dL_law_30 : decode cL_law 30 = .ok (.bipush 31, 2) := by decide +kernel
theorem dL_law_32 : decode cL_law 32 = .ok (.iand, 1) := by decide +kernel
theorem dL_law_33 : decode cL_law 33 = .ok (.tableswitch 1071 0 27 #[127, 170, 203, 236, 279, 312, 345, 408, 421, 444, 477, 520, 563, 586, 619, 652, 695, 718, 741, 764, 787, 800, 813, 836, 879, 922, 985, 1038], 127) := by decide +kernel
theorem dL_law_160 : decode cL_law 160 = .ok (.aload_n 1, 1) := by decide +kernel
theorem dL_law_161 : decode cL_law 161 = .ok (.aload_n 0, 1) := by decide +kernel
theorem dL_law_162 : decode cL_law 162 = .ok (.iload_n 3, 1) := by decide +kernel
theorem dL_law_163 : decode cL_law 163 = .ok (.iconst 1, 1) := by decide +kernel
theorem dL_law_164 : decode cL_law 164 = .ok (.iadd, 1) := by decide +kernel
theorem dL_law_165 : decode cL_law 165 = .ok (.iaload, 1) := by decide +kernel
theorem dL_law_166 : decode cL_law 166 = .ok (.aload_n 0, 1) := by decide +kernel
theorem dL_law_167 : decode cL_law 167 = .ok (.iload_n 3, 1) := by decide +kernel
theorem dL_law_168 : decode cL_law 168 = .ok (.iconst 2, 1) := by decide +kernel
theorem dL_law_169 : decode cL_law 169 = .ok (.iadd, 1) := by decide +kernel
theorem dL_law_170 : decode cL_law 170 = .ok (.iaload, 1) := by decide +kernel
theorem dL_law_171 : decode cL_law 171 = .ok (.aload_n 0, 1) := by decide +kernel
theorem dL_law_172 : decode cL_law 172 = .ok (.iload_n 3, 1) := by decide +kernel
theorem dL_law_173 : decode cL_law 173 = .ok (.iconst 3, 1) := by decide +kernel
theorem dL_law_174 : decode cL_law 174 = .ok (.iadd, 1) := by decide +kernel
theorem dL_law_175 : decode cL_law 175 = .ok (.iaload, 1) := by decide +kernel
theorem dL_law_176 : decode cL_law 176 = .ok (.invokevirtual 13, 3) := by decide +kernel
theorem dL_law_179 : decode cL_law 179 = .ok (.aload_n 2, 1) := by decide +kernel
theorem dL_law_180 : decode cL_law 180 = .ok (.aload_n 0, 1) := by decide +kernel
theorem dL_law_181 : decode cL_law 181 = .ok (.iload_n 3, 1) := by decide +kernel
theorem dL_law_182 : decode cL_law 182 = .ok (.iconst 1, 1) := by decide +kernel
theorem dL_law_183 : decode cL_law 183 = .ok (.iadd, 1) := by decide +kernel
theorem dL_law_184 : decode cL_law 184 = .ok (.iaload, 1) := by decide +kernel
theorem dL_law_185 : decode cL_law 185 = .ok (.aload_n 0, 1) := by decide +kernel
theorem dL_law_186 : decode cL_law 186 = .ok (.iload_n 3, 1) := by decide +kernel
theorem dL_law_187 : decode cL_law 187 = .ok (.iconst 2, 1) := by decide +kernel
theorem dL_law_188 : decode cL_law 188 = .ok (.iadd, 1) := by decide +kernel
theorem dL_law_189 : decode cL_law 189 = .ok (.iaload, 1) := by decide +kernel
theorem dL_law_190 : decode cL_law 190 = .ok (.aload_n 0, 1) := by decide +kernel
theorem dL_law_191 : decode cL_law 191 = .ok (.iload_n 3, 1) := by decide +kernel
theorem dL_law_192 : decode cL_law 192 = .ok (.iconst 3, 1) := by decide +kernel
theorem dL_law_193 : decode cL_law 193 = .ok (.iadd, 1) := by decide +kernel
theorem dL_law_194 : decode cL_law 194 = .ok (.iaload, 1) := by decide +kernel
theorem dL_law_195 : decode cL_law 195 = .ok (.invokevirtual 17, 3) := by decide +kernel
theorem dL_law_198 : decode cL_law 198 = .ok (.if_icmp .eq 906, 3) := by decide +kernel
theorem dL_law_201 : decode cL_law 201 = .ok (.iconst 0, 1) := by decide +kernel
theorem dL_law_202 : decode cL_law 202 = .ok (.ireturn, 1) := by decide +kernel
theorem dL_law_203 : decode cL_law 203 = .ok (.aload_n 1, 1) := by decide +kernel
theorem dL_law_204 : decode cL_law 204 = .ok (.aload_n 0, 1) := by decide +kernel
theorem dL_law_205 : decode cL_law 205 = .ok (.iload_n 3, 1) := by decide +kernel
theorem dL_law_206 : decode cL_law 206 = .ok (.iconst 1, 1) := by decide +kernel
theorem dL_law_207 : decode cL_law 207 = .ok (.iadd, 1) := by decide +kernel
theorem dL_law_208 : decode cL_law 208 = .ok (.iaload, 1) := by decide +kernel
theorem dL_law_209 : decode cL_law 209 = .ok (.aload_n 0, 1) := by decide +kernel
theorem dL_law_210 : decode cL_law 210 = .ok (.iload_n 3, 1) := by decide +kernel
theorem dL_law_211 : decode cL_law 211 = .ok (.iconst 2, 1) := by decide +kernel
theorem dL_law_212 : decode cL_law 212 = .ok (.iadd, 1) := by decide +kernel
theorem dL_law_213 : decode cL_law 213 = .ok (.iaload, 1) := by decide +kernel
theorem dL_law_214 : decode cL_law 214 = .ok (.invokevirtual 18, 3) := by decide +kernel
theorem dL_law_217 : decode cL_law 217 = .ok (.aload_n 2, 1) := by decide +kernel
theorem dL_law_218 : decode cL_law 218 = .ok (.aload_n 0, 1) := by decide +kernel
theorem dL_law_219 : decode cL_law 219 = .ok (.iload_n 3, 1) := by decide +kernel
theorem dL_law_220 : decode cL_law 220 = .ok (.iconst 1, 1) := by decide +kernel
theorem dL_law_221 : decode cL_law 221 = .ok (.iadd, 1) := by decide +kernel
theorem dL_law_222 : decode cL_law 222 = .ok (.iaload, 1) := by decide +kernel
theorem dL_law_223 : decode cL_law 223 = .ok (.aload_n 0, 1) := by decide +kernel
theorem dL_law_224 : decode cL_law 224 = .ok (.iload_n 3, 1) := by decide +kernel
theorem dL_law_225 : decode cL_law 225 = .ok (.iconst 2, 1) := by decide +kernel
theorem dL_law_226 : decode cL_law 226 = .ok (.iadd, 1) := by decide +kernel
theorem dL_law_227 : decode cL_law 227 = .ok (.iaload, 1) := by decide +kernel
theorem dL_law_228 : decode cL_law 228 = .ok (.invokevirtual 22, 3) := by decide +kernel
theorem dL_law_231 : decode cL_law 231 = .ok (.if_icmp .eq 873, 3) := by decide +kernel
theorem dL_law_234 : decode cL_law 234 = .ok (.iconst 0, 1) := by decide +kernel
theorem dL_law_235 : decode cL_law 235 = .ok (.ireturn, 1) := by decide +kernel
theorem dL_law_236 : decode cL_law 236 = .ok (.aload_n 1, 1) := by decide +kernel
theorem dL_law_237 : decode cL_law 237 = .ok (.aload_n 0, 1) := by decide +kernel
theorem dL_law_238 : decode cL_law 238 = .ok (.iload_n 3, 1) := by decide +kernel
theorem dL_law_239 : decode cL_law 239 = .ok (.iconst 1, 1) := by decide +kernel
theorem dL_law_240 : decode cL_law 240 = .ok (.iadd, 1) := by decide +kernel
theorem dL_law_241 : decode cL_law 241 = .ok (.iaload, 1) := by decide +kernel
theorem dL_law_242 : decode cL_law 242 = .ok (.aload_n 0, 1) := by decide +kernel
theorem dL_law_243 : decode cL_law 243 = .ok (.iload_n 3, 1) := by decide +kernel
theorem dL_law_244 : decode cL_law 244 = .ok (.iconst 2, 1) := by decide +kernel
theorem dL_law_245 : decode cL_law 245 = .ok (.iadd, 1) := by decide +kernel
theorem dL_law_246 : decode cL_law 246 = .ok (.iaload, 1) := by decide +kernel
theorem dL_law_247 : decode cL_law 247 = .ok (.invokevirtual 23, 3) := by decide +kernel
theorem dL_law_250 : decode cL_law 250 = .ok (.aload_n 2, 1) := by decide +kernel
theorem dL_law_251 : decode cL_law 251 = .ok (.aload_n 0, 1) := by decide +kernel
theorem dL_law_252 : decode cL_law 252 = .ok (.iload_n 3, 1) := by decide +kernel
theorem dL_law_253 : decode cL_law 253 = .ok (.iconst 1, 1) := by decide +kernel
theorem dL_law_254 : decode cL_law 254 = .ok (.iadd, 1) := by decide +kernel
theorem dL_law_255 : decode cL_law 255 = .ok (.iaload, 1) := by decide +kernel
theorem dL_law_256 : decode cL_law 256 = .ok (.aload_n 0, 1) := by decide +kernel
theorem dL_law_257 : decode cL_law 257 = .ok (.iload_n 3, 1) := by decide +kernel
theorem dL_law_258 : decode cL_law 258 = .ok (.iconst 2, 1) := by decide +kernel
theorem dL_law_259 : decode cL_law 259 = .ok (.iadd, 1) := by decide +kernel
theorem dL_law_260 : decode cL_law 260 = .ok (.iaload, 1) := by decide +kernel
theorem dL_law_261 : decode cL_law 261 = .ok (.invokevirtual 26, 3) := by decide +kernel
theorem dL_law_264 : decode cL_law 264 = .ok (.if_icmp .eq 840, 3) := by decide +kernel
theorem dL_law_267 : decode cL_law 267 = .ok (.iconst 0, 1) := by decide +kernel
theorem dL_law_268 : decode cL_law 268 = .ok (.ireturn, 1) := by decide +kernel
theorem dL_law_269 : decode cL_law 269 = .ok (.aload_n 1, 1) := by decide +kernel
theorem dL_law_270 : decode cL_law 270 = .ok (.aload_n 0, 1) := by decide +kernel
theorem dL_law_271 : decode cL_law 271 = .ok (.iload_n 3, 1) := by decide +kernel
theorem dL_law_272 : decode cL_law 272 = .ok (.iconst 1, 1) := by decide +kernel
theorem dL_law_273 : decode cL_law 273 = .ok (.iadd, 1) := by decide +kernel
theorem dL_law_274 : decode cL_law 274 = .ok (.iaload, 1) := by decide +kernel
theorem dL_law_275 : decode cL_law 275 = .ok (.aload_n 0, 1) := by decide +kernel
theorem dL_law_276 : decode cL_law 276 = .ok (.iload_n 3, 1) := by decide +kernel
theorem dL_law_277 : decode cL_law 277 = .ok (.iconst 2, 1) := by decide +kernel
theorem dL_law_278 : decode cL_law 278 = .ok (.iadd, 1) := by decide +kernel
theorem dL_law_279 : decode cL_law 279 = .ok (.iaload, 1) := by decide +kernel
theorem dL_law_280 : decode cL_law 280 = .ok (.aload_n 0, 1) := by decide +kernel
theorem dL_law_281 : decode cL_law 281 = .ok (.iload_n 3, 1) := by decide +kernel
theorem dL_law_282 : decode cL_law 282 = .ok (.iconst 3, 1) := by decide +kernel
theorem dL_law_283 : decode cL_law 283 = .ok (.iadd, 1) := by decide +kernel
theorem dL_law_284 : decode cL_law 284 = .ok (.iaload, 1) := by decide +kernel
theorem dL_law_285 : decode cL_law 285 = .ok (.invokevirtual 27, 3) := by decide +kernel
theorem dL_law_288 : decode cL_law 288 = .ok (.aload_n 2, 1) := by decide +kernel
theorem dL_law_289 : decode cL_law 289 = .ok (.aload_n 0, 1) := by decide +kernel
theorem dL_law_290 : decode cL_law 290 = .ok (.iload_n 3, 1) := by decide +kernel
theorem dL_law_291 : decode cL_law 291 = .ok (.iconst 1, 1) := by decide +kernel
theorem dL_law_292 : decode cL_law 292 = .ok (.iadd, 1) := by decide +kernel
theorem dL_law_293 : decode cL_law 293 = .ok (.iaload, 1) := by decide +kernel
theorem dL_law_294 : decode cL_law 294 = .ok (.aload_n 0, 1) := by decide +kernel
theorem dL_law_295 : decode cL_law 295 = .ok (.iload_n 3, 1) := by decide +kernel
theorem dL_law_296 : decode cL_law 296 = .ok (.iconst 2, 1) := by decide +kernel
theorem dL_law_297 : decode cL_law 297 = .ok (.iadd, 1) := by decide +kernel
theorem dL_law_298 : decode cL_law 298 = .ok (.iaload, 1) := by decide +kernel
theorem dL_law_299 : decode cL_law 299 = .ok (.aload_n 0, 1) := by decide +kernel
theorem dL_law_300 : decode cL_law 300 = .ok (.iload_n 3, 1) := by decide +kernel
theorem dL_law_301 : decode cL_law 301 = .ok (.iconst 3, 1) := by decide +kernel
theorem dL_law_302 : decode cL_law 302 = .ok (.iadd, 1) := by decide +kernel
theorem dL_law_303 : decode cL_law 303 = .ok (.iaload, 1) := by decide +kernel
theorem dL_law_304 : decode cL_law 304 = .ok (.invokevirtual 30, 3) := by decide +kernel
theorem dL_law_307 : decode cL_law 307 = .ok (.if_icmp .eq 797, 3) := by decide +kernel
theorem dL_law_310 : decode cL_law 310 = .ok (.iconst 0, 1) := by decide +kernel
theorem dL_law_311 : decode cL_law 311 = .ok (.ireturn, 1) := by decide +kernel
theorem dL_law_312 : decode cL_law 312 = .ok (.aload_n 1, 1) := by decide +kernel
theorem dL_law_313 : decode cL_law 313 = .ok (.aload_n 0, 1) := by decide +kernel
theorem dL_law_314 : decode cL_law 314 = .ok (.iload_n 3, 1) := by decide +kernel
theorem dL_law_315 : decode cL_law 315 = .ok (.iconst 1, 1) := by decide +kernel
theorem dL_law_316 : decode cL_law 316 = .ok (.iadd, 1) := by decide +kernel
theorem dL_law_317 : decode cL_law 317 = .ok (.iaload, 1) := by decide +kernel
theorem dL_law_318 : decode cL_law 318 = .ok (.aload_n 0, 1) := by decide +kernel
theorem dL_law_319 : decode cL_law 319 = .ok (.iload_n 3, 1) := by decide +kernel
theorem dL_law_320 : decode cL_law 320 = .ok (.iconst 2, 1) := by decide +kernel
theorem dL_law_321 : decode cL_law 321 = .ok (.iadd, 1) := by decide +kernel
theorem dL_law_322 : decode cL_law 322 = .ok (.iaload, 1) := by decide +kernel
theorem dL_law_323 : decode cL_law 323 = .ok (.invokevirtual 31, 3) := by decide +kernel
theorem dL_law_326 : decode cL_law 326 = .ok (.aload_n 2, 1) := by decide +kernel
theorem dL_law_327 : decode cL_law 327 = .ok (.aload_n 0, 1) := by decide +kernel
theorem dL_law_328 : decode cL_law 328 = .ok (.iload_n 3, 1) := by decide +kernel
theorem dL_law_329 : decode cL_law 329 = .ok (.iconst 1, 1) := by decide +kernel
theorem dL_law_330 : decode cL_law 330 = .ok (.iadd, 1) := by decide +kernel
theorem dL_law_331 : decode cL_law 331 = .ok (.iaload, 1) := by decide +kernel
theorem dL_law_332 : decode cL_law 332 = .ok (.aload_n 0, 1) := by decide +kernel
theorem dL_law_333 : decode cL_law 333 = .ok (.iload_n 3, 1) := by decide +kernel
theorem dL_law_334 : decode cL_law 334 = .ok (.iconst 2, 1) := by decide +kernel
theorem dL_law_335 : decode cL_law 335 = .ok (.iadd, 1) := by decide +kernel
theorem dL_law_336 : decode cL_law 336 = .ok (.iaload, 1) := by decide +kernel
theorem dL_law_337 : decode cL_law 337 = .ok (.invokevirtual 34, 3) := by decide +kernel
theorem dL_law_340 : decode cL_law 340 = .ok (.if_icmp .eq 764, 3) := by decide +kernel
theorem dL_law_343 : decode cL_law 343 = .ok (.iconst 0, 1) := by decide +kernel
theorem dL_law_344 : decode cL_law 344 = .ok (.ireturn, 1) := by decide +kernel
theorem dL_law_345 : decode cL_law 345 = .ok (.aload_n 1, 1) := by decide +kernel
theorem dL_law_346 : decode cL_law 346 = .ok (.aload_n 0, 1) := by decide +kernel
theorem dL_law_347 : decode cL_law 347 = .ok (.iload_n 3, 1) := by decide +kernel
theorem dL_law_348 : decode cL_law 348 = .ok (.iconst 1, 1) := by decide +kernel
theorem dL_law_349 : decode cL_law 349 = .ok (.iadd, 1) := by decide +kernel
theorem dL_law_350 : decode cL_law 350 = .ok (.iaload, 1) := by decide +kernel
theorem dL_law_351 : decode cL_law 351 = .ok (.aload_n 0, 1) := by decide +kernel
theorem dL_law_352 : decode cL_law 352 = .ok (.iload_n 3, 1) := by decide +kernel
theorem dL_law_353 : decode cL_law 353 = .ok (.iconst 2, 1) := by decide +kernel
theorem dL_law_354 : decode cL_law 354 = .ok (.iadd, 1) := by decide +kernel
theorem dL_law_355 : decode cL_law 355 = .ok (.iaload, 1) := by decide +kernel
theorem dL_law_356 : decode cL_law 356 = .ok (.invokevirtual 35, 3) := by decide +kernel
theorem dL_law_359 : decode cL_law 359 = .ok (.aload_n 2, 1) := by decide +kernel
theorem dL_law_360 : decode cL_law 360 = .ok (.aload_n 0, 1) := by decide +kernel
theorem dL_law_361 : decode cL_law 361 = .ok (.iload_n 3, 1) := by decide +kernel
theorem dL_law_362 : decode cL_law 362 = .ok (.iconst 1, 1) := by decide +kernel
theorem dL_law_363 : decode cL_law 363 = .ok (.iadd, 1) := by decide +kernel
theorem dL_law_364 : decode cL_law 364 = .ok (.iaload, 1) := by decide +kernel
theorem dL_law_365 : decode cL_law 365 = .ok (.aload_n 0, 1) := by decide +kernel
theorem dL_law_366 : decode cL_law 366 = .ok (.iload_n 3, 1) := by decide +kernel
theorem dL_law_367 : decode cL_law 367 = .ok (.iconst 2, 1) := by decide +kernel
theorem dL_law_368 : decode cL_law 368 = .ok (.iadd, 1) := by decide +kernel
theorem dL_law_369 : decode cL_law 369 = .ok (.iaload, 1) := by decide +kernel
theorem dL_law_370 : decode cL_law 370 = .ok (.invokevirtual 38, 3) := by decide +kernel
theorem dL_law_373 : decode cL_law 373 = .ok (.if_icmp .eq 731, 3) := by decide +kernel
theorem dL_law_376 : decode cL_law 376 = .ok (.iconst 0, 1) := by decide +kernel
theorem dL_law_377 : decode cL_law 377 = .ok (.ireturn, 1) := by decide +kernel
theorem dL_law_378 : decode cL_law 378 = .ok (.aload_n 1, 1) := by decide +kernel
theorem dL_law_379 : decode cL_law 379 = .ok (.aload_n 0, 1) := by decide +kernel
theorem dL_law_380 : decode cL_law 380 = .ok (.iload_n 3, 1) := by decide +kernel
theorem dL_law_381 : decode cL_law 381 = .ok (.iconst 1, 1) := by decide +kernel
theorem dL_law_382 : decode cL_law 382 = .ok (.iadd, 1) := by decide +kernel
theorem dL_law_383 : decode cL_law 383 = .ok (.iaload, 1) := by decide +kernel
theorem dL_law_384 : decode cL_law 384 = .ok (.aload_n 0, 1) := by decide +kernel
theorem dL_law_385 : decode cL_law 385 = .ok (.iload_n 3, 1) := by decide +kernel
theorem dL_law_386 : decode cL_law 386 = .ok (.iconst 2, 1) := by decide +kernel
theorem dL_law_387 : decode cL_law 387 = .ok (.iadd, 1) := by decide +kernel
theorem dL_law_388 : decode cL_law 388 = .ok (.iaload, 1) := by decide +kernel
theorem dL_law_389 : decode cL_law 389 = .ok (.i2l, 1) := by decide +kernel
theorem dL_law_390 : decode cL_law 390 = .ok (.bipush 32, 2) := by decide +kernel
theorem dL_law_392 : decode cL_law 392 = .ok (.lshl, 1) := by decide +kernel
theorem dL_law_393 : decode cL_law 393 = .ok (.aload_n 0, 1) := by decide +kernel
theorem dL_law_394 : decode cL_law 394 = .ok (.iload_n 3, 1) := by decide +kernel
theorem dL_law_395 : decode cL_law 395 = .ok (.iconst 3, 1) := by decide +kernel
theorem dL_law_396 : decode cL_law 396 = .ok (.iadd, 1) := by decide +kernel
theorem dL_law_397 : decode cL_law 397 = .ok (.iaload, 1) := by decide +kernel
theorem dL_law_398 : decode cL_law 398 = .ok (.i2l, 1) := by decide +kernel
theorem dL_law_399 : decode cL_law 399 = .ok (.ldc2_w 39, 3) := by decide +kernel
theorem dL_law_402 : decode cL_law 402 = .ok (.land, 1) := by decide +kernel
theorem dL_law_403 : decode cL_law 403 = .ok (.lor, 1) := by decide +kernel
theorem dL_law_404 : decode cL_law 404 = .ok (.invokevirtual 41, 3) := by decide +kernel
theorem dL_law_407 : decode cL_law 407 = .ok (.aload_n 2, 1) := by decide +kernel
theorem dL_law_408 : decode cL_law 408 = .ok (.aload_n 0, 1) := by decide +kernel
theorem dL_law_409 : decode cL_law 409 = .ok (.iload_n 3, 1) := by decide +kernel
theorem dL_law_410 : decode cL_law 410 = .ok (.iconst 1, 1) := by decide +kernel
theorem dL_law_411 : decode cL_law 411 = .ok (.iadd, 1) := by decide +kernel
theorem dL_law_412 : decode cL_law 412 = .ok (.iaload, 1) := by decide +kernel
theorem dL_law_413 : decode cL_law 413 = .ok (.aload_n 0, 1) := by decide +kernel
theorem dL_law_414 : decode cL_law 414 = .ok (.iload_n 3, 1) := by decide +kernel
theorem dL_law_415 : decode cL_law 415 = .ok (.iconst 2, 1) := by decide +kernel
theorem dL_law_416 : decode cL_law 416 = .ok (.iadd, 1) := by decide +kernel
theorem dL_law_417 : decode cL_law 417 = .ok (.iaload, 1) := by decide +kernel
theorem dL_law_418 : decode cL_law 418 = .ok (.i2l, 1) := by decide +kernel
theorem dL_law_419 : decode cL_law 419 = .ok (.bipush 32, 2) := by decide +kernel
theorem dL_law_421 : decode cL_law 421 = .ok (.lshl, 1) := by decide +kernel
theorem dL_law_422 : decode cL_law 422 = .ok (.aload_n 0, 1) := by decide +kernel
theorem dL_law_423 : decode cL_law 423 = .ok (.iload_n 3, 1) := by decide +kernel
theorem dL_law_424 : decode cL_law 424 = .ok (.iconst 3, 1) := by decide +kernel
theorem dL_law_425 : decode cL_law 425 = .ok (.iadd, 1) := by decide +kernel
theorem dL_law_426 : decode cL_law 426 = .ok (.iaload, 1) := by decide +kernel
theorem dL_law_427 : decode cL_law 427 = .ok (.i2l, 1) := by decide +kernel
theorem dL_law_428 : decode cL_law 428 = .ok (.ldc2_w 39, 3) := by decide +kernel
theorem dL_law_431 : decode cL_law 431 = .ok (.land, 1) := by decide +kernel
theorem dL_law_432 : decode cL_law 432 = .ok (.lor, 1) := by decide +kernel
theorem dL_law_433 : decode cL_law 433 = .ok (.invokevirtual 45, 3) := by decide +kernel
theorem dL_law_436 : decode cL_law 436 = .ok (.if_icmp .eq 668, 3) := by decide +kernel
theorem dL_law_439 : decode cL_law 439 = .ok (.iconst 0, 1) := by decide +kernel
theorem dL_law_440 : decode cL_law 440 = .ok (.ireturn, 1) := by decide +kernel
theorem dL_law_441 : decode cL_law 441 = .ok (.aload_n 1, 1) := by decide +kernel
theorem dL_law_442 : decode cL_law 442 = .ok (.invokevirtual 46, 3) := by decide +kernel
theorem dL_law_445 : decode cL_law 445 = .ok (.aload_n 2, 1) := by decide +kernel
theorem dL_law_446 : decode cL_law 446 = .ok (.invokevirtual 50, 3) := by decide +kernel
theorem dL_law_449 : decode cL_law 449 = .ok (.if_icmp .eq 655, 3) := by decide +kernel
theorem dL_law_452 : decode cL_law 452 = .ok (.iconst 0, 1) := by decide +kernel
theorem dL_law_453 : decode cL_law 453 = .ok (.ireturn, 1) := by decide +kernel
theorem dL_law_454 : decode cL_law 454 = .ok (.aload_n 1, 1) := by decide +kernel
theorem dL_law_455 : decode cL_law 455 = .ok (.aload_n 0, 1) := by decide +kernel
theorem dL_law_456 : decode cL_law 456 = .ok (.iload_n 3, 1) := by decide +kernel
theorem dL_law_457 : decode cL_law 457 = .ok (.iconst 1, 1) := by decide +kernel
theorem dL_law_458 : decode cL_law 458 = .ok (.iadd, 1) := by decide +kernel
theorem dL_law_459 : decode cL_law 459 = .ok (.iaload, 1) := by decide +kernel
theorem dL_law_460 : decode cL_law 460 = .ok (.invokevirtual 51, 3) := by decide +kernel
theorem dL_law_463 : decode cL_law 463 = .ok (.aload_n 2, 1) := by decide +kernel
theorem dL_law_464 : decode cL_law 464 = .ok (.aload_n 0, 1) := by decide +kernel
theorem dL_law_465 : decode cL_law 465 = .ok (.iload_n 3, 1) := by decide +kernel
theorem dL_law_466 : decode cL_law 466 = .ok (.iconst 1, 1) := by decide +kernel
theorem dL_law_467 : decode cL_law 467 = .ok (.iadd, 1) := by decide +kernel
theorem dL_law_468 : decode cL_law 468 = .ok (.iaload, 1) := by decide +kernel
theorem dL_law_469 : decode cL_law 469 = .ok (.invokevirtual 55, 3) := by decide +kernel
theorem dL_law_472 : decode cL_law 472 = .ok (.if_icmp .eq 632, 3) := by decide +kernel
theorem dL_law_475 : decode cL_law 475 = .ok (.iconst 0, 1) := by decide +kernel
theorem dL_law_476 : decode cL_law 476 = .ok (.ireturn, 1) := by decide +kernel
theorem dL_law_477 : decode cL_law 477 = .ok (.aload_n 1, 1) := by decide +kernel
theorem dL_law_478 : decode cL_law 478 = .ok (.aload_n 0, 1) := by decide +kernel
theorem dL_law_479 : decode cL_law 479 = .ok (.iload_n 3, 1) := by decide +kernel
theorem dL_law_480 : decode cL_law 480 = .ok (.iconst 1, 1) := by decide +kernel
theorem dL_law_481 : decode cL_law 481 = .ok (.iadd, 1) := by decide +kernel
theorem dL_law_482 : decode cL_law 482 = .ok (.iaload, 1) := by decide +kernel
theorem dL_law_483 : decode cL_law 483 = .ok (.aload_n 0, 1) := by decide +kernel
theorem dL_law_484 : decode cL_law 484 = .ok (.iload_n 3, 1) := by decide +kernel
theorem dL_law_485 : decode cL_law 485 = .ok (.iconst 2, 1) := by decide +kernel
theorem dL_law_486 : decode cL_law 486 = .ok (.iadd, 1) := by decide +kernel
theorem dL_law_487 : decode cL_law 487 = .ok (.iaload, 1) := by decide +kernel
theorem dL_law_488 : decode cL_law 488 = .ok (.invokevirtual 56, 3) := by decide +kernel
theorem dL_law_491 : decode cL_law 491 = .ok (.aload_n 2, 1) := by decide +kernel
theorem dL_law_492 : decode cL_law 492 = .ok (.aload_n 0, 1) := by decide +kernel
theorem dL_law_493 : decode cL_law 493 = .ok (.iload_n 3, 1) := by decide +kernel
theorem dL_law_494 : decode cL_law 494 = .ok (.iconst 1, 1) := by decide +kernel
theorem dL_law_495 : decode cL_law 495 = .ok (.iadd, 1) := by decide +kernel
theorem dL_law_496 : decode cL_law 496 = .ok (.iaload, 1) := by decide +kernel
theorem dL_law_497 : decode cL_law 497 = .ok (.aload_n 0, 1) := by decide +kernel
theorem dL_law_498 : decode cL_law 498 = .ok (.iload_n 3, 1) := by decide +kernel
theorem dL_law_499 : decode cL_law 499 = .ok (.iconst 2, 1) := by decide +kernel
theorem dL_law_500 : decode cL_law 500 = .ok (.iadd, 1) := by decide +kernel
theorem dL_law_501 : decode cL_law 501 = .ok (.iaload, 1) := by decide +kernel
theorem dL_law_502 : decode cL_law 502 = .ok (.invokevirtual 59, 3) := by decide +kernel
theorem dL_law_505 : decode cL_law 505 = .ok (.if_icmp .eq 599, 3) := by decide +kernel
theorem dL_law_508 : decode cL_law 508 = .ok (.iconst 0, 1) := by decide +kernel
theorem dL_law_509 : decode cL_law 509 = .ok (.ireturn, 1) := by decide +kernel
theorem dL_law_510 : decode cL_law 510 = .ok (.aload_n 1, 1) := by decide +kernel
theorem dL_law_511 : decode cL_law 511 = .ok (.aload_n 0, 1) := by decide +kernel
theorem dL_law_512 : decode cL_law 512 = .ok (.iload_n 3, 1) := by decide +kernel
theorem dL_law_513 : decode cL_law 513 = .ok (.iconst 1, 1) := by decide +kernel
theorem dL_law_514 : decode cL_law 514 = .ok (.iadd, 1) := by decide +kernel
theorem dL_law_515 : decode cL_law 515 = .ok (.iaload, 1) := by decide +kernel
theorem dL_law_516 : decode cL_law 516 = .ok (.aload_n 0, 1) := by decide +kernel
theorem dL_law_517 : decode cL_law 517 = .ok (.iload_n 3, 1) := by decide +kernel
theorem dL_law_518 : decode cL_law 518 = .ok (.iconst 2, 1) := by decide +kernel
theorem dL_law_519 : decode cL_law 519 = .ok (.iadd, 1) := by decide +kernel
theorem dL_law_520 : decode cL_law 520 = .ok (.iaload, 1) := by decide +kernel
theorem dL_law_521 : decode cL_law 521 = .ok (.aload_n 0, 1) := by decide +kernel
theorem dL_law_522 : decode cL_law 522 = .ok (.iload_n 3, 1) := by decide +kernel
theorem dL_law_523 : decode cL_law 523 = .ok (.iconst 3, 1) := by decide +kernel
theorem dL_law_524 : decode cL_law 524 = .ok (.iadd, 1) := by decide +kernel
theorem dL_law_525 : decode cL_law 525 = .ok (.iaload, 1) := by decide +kernel
theorem dL_law_526 : decode cL_law 526 = .ok (.invokevirtual 60, 3) := by decide +kernel
theorem dL_law_529 : decode cL_law 529 = .ok (.aload_n 2, 1) := by decide +kernel
theorem dL_law_530 : decode cL_law 530 = .ok (.aload_n 0, 1) := by decide +kernel
theorem dL_law_531 : decode cL_law 531 = .ok (.iload_n 3, 1) := by decide +kernel
theorem dL_law_532 : decode cL_law 532 = .ok (.iconst 1, 1) := by decide +kernel
theorem dL_law_533 : decode cL_law 533 = .ok (.iadd, 1) := by decide +kernel
theorem dL_law_534 : decode cL_law 534 = .ok (.iaload, 1) := by decide +kernel
theorem dL_law_535 : decode cL_law 535 = .ok (.aload_n 0, 1) := by decide +kernel
theorem dL_law_536 : decode cL_law 536 = .ok (.iload_n 3, 1) := by decide +kernel
theorem dL_law_537 : decode cL_law 537 = .ok (.iconst 2, 1) := by decide +kernel
theorem dL_law_538 : decode cL_law 538 = .ok (.iadd, 1) := by decide +kernel
theorem dL_law_539 : decode cL_law 539 = .ok (.iaload, 1) := by decide +kernel
theorem dL_law_540 : decode cL_law 540 = .ok (.aload_n 0, 1) := by decide +kernel
theorem dL_law_541 : decode cL_law 541 = .ok (.iload_n 3, 1) := by decide +kernel
theorem dL_law_542 : decode cL_law 542 = .ok (.iconst 3, 1) := by decide +kernel
theorem dL_law_543 : decode cL_law 543 = .ok (.iadd, 1) := by decide +kernel
theorem dL_law_544 : decode cL_law 544 = .ok (.iaload, 1) := by decide +kernel
theorem dL_law_545 : decode cL_law 545 = .ok (.invokevirtual 63, 3) := by decide +kernel
theorem dL_law_548 : decode cL_law 548 = .ok (.if_icmp .eq 556, 3) := by decide +kernel
theorem dL_law_551 : decode cL_law 551 = .ok (.iconst 0, 1) := by decide +kernel
theorem dL_law_552 : decode cL_law 552 = .ok (.ireturn, 1) := by decide +kernel
theorem dL_law_553 : decode cL_law 553 = .ok (.aload_n 1, 1) := by decide +kernel
theorem dL_law_554 : decode cL_law 554 = .ok (.aload_n 0, 1) := by decide +kernel
theorem dL_law_555 : decode cL_law 555 = .ok (.iload_n 3, 1) := by decide +kernel
theorem dL_law_556 : decode cL_law 556 = .ok (.iconst 1, 1) := by decide +kernel
theorem dL_law_557 : decode cL_law 557 = .ok (.iadd, 1) := by decide +kernel
theorem dL_law_558 : decode cL_law 558 = .ok (.iaload, 1) := by decide +kernel
theorem dL_law_559 : decode cL_law 559 = .ok (.aload_n 0, 1) := by decide +kernel
theorem dL_law_560 : decode cL_law 560 = .ok (.iload_n 3, 1) := by decide +kernel
theorem dL_law_561 : decode cL_law 561 = .ok (.iconst 2, 1) := by decide +kernel
theorem dL_law_562 : decode cL_law 562 = .ok (.iadd, 1) := by decide +kernel
theorem dL_law_563 : decode cL_law 563 = .ok (.iaload, 1) := by decide +kernel
theorem dL_law_564 : decode cL_law 564 = .ok (.aload_n 0, 1) := by decide +kernel
theorem dL_law_565 : decode cL_law 565 = .ok (.iload_n 3, 1) := by decide +kernel
theorem dL_law_566 : decode cL_law 566 = .ok (.iconst 3, 1) := by decide +kernel
theorem dL_law_567 : decode cL_law 567 = .ok (.iadd, 1) := by decide +kernel
theorem dL_law_568 : decode cL_law 568 = .ok (.iaload, 1) := by decide +kernel
theorem dL_law_569 : decode cL_law 569 = .ok (.invokevirtual 64, 3) := by decide +kernel
theorem dL_law_572 : decode cL_law 572 = .ok (.aload_n 2, 1) := by decide +kernel
theorem dL_law_573 : decode cL_law 573 = .ok (.aload_n 0, 1) := by decide +kernel
theorem dL_law_574 : decode cL_law 574 = .ok (.iload_n 3, 1) := by decide +kernel
theorem dL_law_575 : decode cL_law 575 = .ok (.iconst 1, 1) := by decide +kernel
theorem dL_law_576 : decode cL_law 576 = .ok (.iadd, 1) := by decide +kernel
theorem dL_law_577 : decode cL_law 577 = .ok (.iaload, 1) := by decide +kernel
theorem dL_law_578 : decode cL_law 578 = .ok (.aload_n 0, 1) := by decide +kernel
theorem dL_law_579 : decode cL_law 579 = .ok (.iload_n 3, 1) := by decide +kernel
theorem dL_law_580 : decode cL_law 580 = .ok (.iconst 2, 1) := by decide +kernel
theorem dL_law_581 : decode cL_law 581 = .ok (.iadd, 1) := by decide +kernel
theorem dL_law_582 : decode cL_law 582 = .ok (.iaload, 1) := by decide +kernel
theorem dL_law_583 : decode cL_law 583 = .ok (.aload_n 0, 1) := by decide +kernel
theorem dL_law_584 : decode cL_law 584 = .ok (.iload_n 3, 1) := by decide +kernel
theorem dL_law_585 : decode cL_law 585 = .ok (.iconst 3, 1) := by decide +kernel
theorem dL_law_586 : decode cL_law 586 = .ok (.iadd, 1) := by decide +kernel
theorem dL_law_587 : decode cL_law 587 = .ok (.iaload, 1) := by decide +kernel
theorem dL_law_588 : decode cL_law 588 = .ok (.invokevirtual 67, 3) := by decide +kernel
theorem dL_law_591 : decode cL_law 591 = .ok (.if_icmp .eq 513, 3) := by decide +kernel
theorem dL_law_594 : decode cL_law 594 = .ok (.iconst 0, 1) := by decide +kernel
theorem dL_law_595 : decode cL_law 595 = .ok (.ireturn, 1) := by decide +kernel
theorem dL_law_596 : decode cL_law 596 = .ok (.aload_n 1, 1) := by decide +kernel
theorem dL_law_597 : decode cL_law 597 = .ok (.aload_n 0, 1) := by decide +kernel
theorem dL_law_598 : decode cL_law 598 = .ok (.iload_n 3, 1) := by decide +kernel
theorem dL_law_599 : decode cL_law 599 = .ok (.iconst 1, 1) := by decide +kernel
theorem dL_law_600 : decode cL_law 600 = .ok (.iadd, 1) := by decide +kernel
theorem dL_law_601 : decode cL_law 601 = .ok (.iaload, 1) := by decide +kernel
theorem dL_law_602 : decode cL_law 602 = .ok (.invokevirtual 68, 3) := by decide +kernel
theorem dL_law_605 : decode cL_law 605 = .ok (.aload_n 2, 1) := by decide +kernel
theorem dL_law_606 : decode cL_law 606 = .ok (.aload_n 0, 1) := by decide +kernel
theorem dL_law_607 : decode cL_law 607 = .ok (.iload_n 3, 1) := by decide +kernel
theorem dL_law_608 : decode cL_law 608 = .ok (.iconst 1, 1) := by decide +kernel
theorem dL_law_609 : decode cL_law 609 = .ok (.iadd, 1) := by decide +kernel
theorem dL_law_610 : decode cL_law 610 = .ok (.iaload, 1) := by decide +kernel
theorem dL_law_611 : decode cL_law 611 = .ok (.invokevirtual 71, 3) := by decide +kernel
theorem dL_law_614 : decode cL_law 614 = .ok (.if_icmp .eq 490, 3) := by decide +kernel
theorem dL_law_617 : decode cL_law 617 = .ok (.iconst 0, 1) := by decide +kernel
theorem dL_law_618 : decode cL_law 618 = .ok (.ireturn, 1) := by decide +kernel
theorem dL_law_619 : decode cL_law 619 = .ok (.aload_n 1, 1) := by decide +kernel
theorem dL_law_620 : decode cL_law 620 = .ok (.aload_n 0, 1) := by decide +kernel
theorem dL_law_621 : decode cL_law 621 = .ok (.iload_n 3, 1) := by decide +kernel
theorem dL_law_622 : decode cL_law 622 = .ok (.iconst 1, 1) := by decide +kernel
theorem dL_law_623 : decode cL_law 623 = .ok (.iadd, 1) := by decide +kernel
theorem dL_law_624 : decode cL_law 624 = .ok (.iaload, 1) := by decide +kernel
theorem dL_law_625 : decode cL_law 625 = .ok (.aload_n 0, 1) := by decide +kernel
theorem dL_law_626 : decode cL_law 626 = .ok (.iload_n 3, 1) := by decide +kernel
theorem dL_law_627 : decode cL_law 627 = .ok (.iconst 2, 1) := by decide +kernel
theorem dL_law_628 : decode cL_law 628 = .ok (.iadd, 1) := by decide +kernel
theorem dL_law_629 : decode cL_law 629 = .ok (.iaload, 1) := by decide +kernel
theorem dL_law_630 : decode cL_law 630 = .ok (.invokevirtual 72, 3) := by decide +kernel
theorem dL_law_633 : decode cL_law 633 = .ok (.aload_n 2, 1) := by decide +kernel
theorem dL_law_634 : decode cL_law 634 = .ok (.aload_n 0, 1) := by decide +kernel
theorem dL_law_635 : decode cL_law 635 = .ok (.iload_n 3, 1) := by decide +kernel
theorem dL_law_636 : decode cL_law 636 = .ok (.iconst 1, 1) := by decide +kernel
theorem dL_law_637 : decode cL_law 637 = .ok (.iadd, 1) := by decide +kernel
theorem dL_law_638 : decode cL_law 638 = .ok (.iaload, 1) := by decide +kernel
theorem dL_law_639 : decode cL_law 639 = .ok (.aload_n 0, 1) := by decide +kernel
theorem dL_law_640 : decode cL_law 640 = .ok (.iload_n 3, 1) := by decide +kernel
theorem dL_law_641 : decode cL_law 641 = .ok (.iconst 2, 1) := by decide +kernel
theorem dL_law_642 : decode cL_law 642 = .ok (.iadd, 1) := by decide +kernel
theorem dL_law_643 : decode cL_law 643 = .ok (.iaload, 1) := by decide +kernel
theorem dL_law_644 : decode cL_law 644 = .ok (.invokevirtual 75, 3) := by decide +kernel
theorem dL_law_647 : decode cL_law 647 = .ok (.if_icmp .eq 457, 3) := by decide +kernel
theorem dL_law_650 : decode cL_law 650 = .ok (.iconst 0, 1) := by decide +kernel
theorem dL_law_651 : decode cL_law 651 = .ok (.ireturn, 1) := by decide +kernel
theorem dL_law_652 : decode cL_law 652 = .ok (.aload_n 1, 1) := by decide +kernel
theorem dL_law_653 : decode cL_law 653 = .ok (.aload_n 0, 1) := by decide +kernel
theorem dL_law_654 : decode cL_law 654 = .ok (.iload_n 3, 1) := by decide +kernel
theorem dL_law_655 : decode cL_law 655 = .ok (.iconst 1, 1) := by decide +kernel
theorem dL_law_656 : decode cL_law 656 = .ok (.iadd, 1) := by decide +kernel
theorem dL_law_657 : decode cL_law 657 = .ok (.iaload, 1) := by decide +kernel
theorem dL_law_658 : decode cL_law 658 = .ok (.aload_n 0, 1) := by decide +kernel
theorem dL_law_659 : decode cL_law 659 = .ok (.iload_n 3, 1) := by decide +kernel
theorem dL_law_660 : decode cL_law 660 = .ok (.iconst 2, 1) := by decide +kernel
theorem dL_law_661 : decode cL_law 661 = .ok (.iadd, 1) := by decide +kernel
theorem dL_law_662 : decode cL_law 662 = .ok (.iaload, 1) := by decide +kernel
theorem dL_law_663 : decode cL_law 663 = .ok (.invokevirtual 76, 3) := by decide +kernel
theorem dL_law_666 : decode cL_law 666 = .ok (.aload_n 2, 1) := by decide +kernel
theorem dL_law_667 : decode cL_law 667 = .ok (.aload_n 0, 1) := by decide +kernel
theorem dL_law_668 : decode cL_law 668 = .ok (.iload_n 3, 1) := by decide +kernel
theorem dL_law_669 : decode cL_law 669 = .ok (.iconst 1, 1) := by decide +kernel
theorem dL_law_670 : decode cL_law 670 = .ok (.iadd, 1) := by decide +kernel
theorem dL_law_671 : decode cL_law 671 = .ok (.iaload, 1) := by decide +kernel
theorem dL_law_672 : decode cL_law 672 = .ok (.aload_n 0, 1) := by decide +kernel
theorem dL_law_673 : decode cL_law 673 = .ok (.iload_n 3, 1) := by decide +kernel
theorem dL_law_674 : decode cL_law 674 = .ok (.iconst 2, 1) := by decide +kernel
theorem dL_law_675 : decode cL_law 675 = .ok (.iadd, 1) := by decide +kernel
theorem dL_law_676 : decode cL_law 676 = .ok (.iaload, 1) := by decide +kernel
theorem dL_law_677 : decode cL_law 677 = .ok (.invokevirtual 79, 3) := by decide +kernel
theorem dL_law_680 : decode cL_law 680 = .ok (.if_icmp .eq 424, 3) := by decide +kernel
theorem dL_law_683 : decode cL_law 683 = .ok (.iconst 0, 1) := by decide +kernel
theorem dL_law_684 : decode cL_law 684 = .ok (.ireturn, 1) := by decide +kernel
theorem dL_law_685 : decode cL_law 685 = .ok (.aload_n 1, 1) := by decide +kernel
theorem dL_law_686 : decode cL_law 686 = .ok (.aload_n 0, 1) := by decide +kernel
theorem dL_law_687 : decode cL_law 687 = .ok (.iload_n 3, 1) := by decide +kernel
theorem dL_law_688 : decode cL_law 688 = .ok (.iconst 1, 1) := by decide +kernel
theorem dL_law_689 : decode cL_law 689 = .ok (.iadd, 1) := by decide +kernel
theorem dL_law_690 : decode cL_law 690 = .ok (.iaload, 1) := by decide +kernel
theorem dL_law_691 : decode cL_law 691 = .ok (.aload_n 0, 1) := by decide +kernel
theorem dL_law_692 : decode cL_law 692 = .ok (.iload_n 3, 1) := by decide +kernel
theorem dL_law_693 : decode cL_law 693 = .ok (.iconst 2, 1) := by decide +kernel
theorem dL_law_694 : decode cL_law 694 = .ok (.iadd, 1) := by decide +kernel
theorem dL_law_695 : decode cL_law 695 = .ok (.iaload, 1) := by decide +kernel
theorem dL_law_696 : decode cL_law 696 = .ok (.aload_n 0, 1) := by decide +kernel
theorem dL_law_697 : decode cL_law 697 = .ok (.iload_n 3, 1) := by decide +kernel
theorem dL_law_698 : decode cL_law 698 = .ok (.iconst 3, 1) := by decide +kernel
theorem dL_law_699 : decode cL_law 699 = .ok (.iadd, 1) := by decide +kernel
theorem dL_law_700 : decode cL_law 700 = .ok (.iaload, 1) := by decide +kernel
theorem dL_law_701 : decode cL_law 701 = .ok (.invokevirtual 80, 3) := by decide +kernel
theorem dL_law_704 : decode cL_law 704 = .ok (.aload_n 2, 1) := by decide +kernel
theorem dL_law_705 : decode cL_law 705 = .ok (.aload_n 0, 1) := by decide +kernel
theorem dL_law_706 : decode cL_law 706 = .ok (.iload_n 3, 1) := by decide +kernel
theorem dL_law_707 : decode cL_law 707 = .ok (.iconst 1, 1) := by decide +kernel
theorem dL_law_708 : decode cL_law 708 = .ok (.iadd, 1) := by decide +kernel
theorem dL_law_709 : decode cL_law 709 = .ok (.iaload, 1) := by decide +kernel
theorem dL_law_710 : decode cL_law 710 = .ok (.aload_n 0, 1) := by decide +kernel
theorem dL_law_711 : decode cL_law 711 = .ok (.iload_n 3, 1) := by decide +kernel
theorem dL_law_712 : decode cL_law 712 = .ok (.iconst 2, 1) := by decide +kernel
theorem dL_law_713 : decode cL_law 713 = .ok (.iadd, 1) := by decide +kernel
theorem dL_law_714 : decode cL_law 714 = .ok (.iaload, 1) := by decide +kernel
theorem dL_law_715 : decode cL_law 715 = .ok (.aload_n 0, 1) := by decide +kernel
theorem dL_law_716 : decode cL_law 716 = .ok (.iload_n 3, 1) := by decide +kernel
theorem dL_law_717 : decode cL_law 717 = .ok (.iconst 3, 1) := by decide +kernel
theorem dL_law_718 : decode cL_law 718 = .ok (.iadd, 1) := by decide +kernel
theorem dL_law_719 : decode cL_law 719 = .ok (.iaload, 1) := by decide +kernel
theorem dL_law_720 : decode cL_law 720 = .ok (.invokevirtual 83, 3) := by decide +kernel
theorem dL_law_723 : decode cL_law 723 = .ok (.if_icmp .eq 381, 3) := by decide +kernel
theorem dL_law_726 : decode cL_law 726 = .ok (.iconst 0, 1) := by decide +kernel
theorem dL_law_727 : decode cL_law 727 = .ok (.ireturn, 1) := by decide +kernel
theorem dL_law_728 : decode cL_law 728 = .ok (.aload_n 1, 1) := by decide +kernel
theorem dL_law_729 : decode cL_law 729 = .ok (.aload_n 0, 1) := by decide +kernel
theorem dL_law_730 : decode cL_law 730 = .ok (.iload_n 3, 1) := by decide +kernel
theorem dL_law_731 : decode cL_law 731 = .ok (.iconst 1, 1) := by decide +kernel
theorem dL_law_732 : decode cL_law 732 = .ok (.iadd, 1) := by decide +kernel
theorem dL_law_733 : decode cL_law 733 = .ok (.iaload, 1) := by decide +kernel
theorem dL_law_734 : decode cL_law 734 = .ok (.invokevirtual 84, 3) := by decide +kernel
theorem dL_law_737 : decode cL_law 737 = .ok (.aload_n 2, 1) := by decide +kernel
theorem dL_law_738 : decode cL_law 738 = .ok (.aload_n 0, 1) := by decide +kernel
theorem dL_law_739 : decode cL_law 739 = .ok (.iload_n 3, 1) := by decide +kernel
theorem dL_law_740 : decode cL_law 740 = .ok (.iconst 1, 1) := by decide +kernel
theorem dL_law_741 : decode cL_law 741 = .ok (.iadd, 1) := by decide +kernel
theorem dL_law_742 : decode cL_law 742 = .ok (.iaload, 1) := by decide +kernel
theorem dL_law_743 : decode cL_law 743 = .ok (.invokevirtual 87, 3) := by decide +kernel
theorem dL_law_746 : decode cL_law 746 = .ok (.if_icmp .eq 358, 3) := by decide +kernel
theorem dL_law_749 : decode cL_law 749 = .ok (.iconst 0, 1) := by decide +kernel
theorem dL_law_750 : decode cL_law 750 = .ok (.ireturn, 1) := by decide +kernel
theorem dL_law_751 : decode cL_law 751 = .ok (.aload_n 1, 1) := by decide +kernel
theorem dL_law_752 : decode cL_law 752 = .ok (.aload_n 0, 1) := by decide +kernel
theorem dL_law_753 : decode cL_law 753 = .ok (.iload_n 3, 1) := by decide +kernel
theorem dL_law_754 : decode cL_law 754 = .ok (.iconst 1, 1) := by decide +kernel
theorem dL_law_755 : decode cL_law 755 = .ok (.iadd, 1) := by decide +kernel
theorem dL_law_756 : decode cL_law 756 = .ok (.iaload, 1) := by decide +kernel
theorem dL_law_757 : decode cL_law 757 = .ok (.invokevirtual 88, 3) := by decide +kernel
theorem dL_law_760 : decode cL_law 760 = .ok (.aload_n 2, 1) := by decide +kernel
theorem dL_law_761 : decode cL_law 761 = .ok (.aload_n 0, 1) := by decide +kernel
theorem dL_law_762 : decode cL_law 762 = .ok (.iload_n 3, 1) := by decide +kernel
theorem dL_law_763 : decode cL_law 763 = .ok (.iconst 1, 1) := by decide +kernel
theorem dL_law_764 : decode cL_law 764 = .ok (.iadd, 1) := by decide +kernel
theorem dL_law_765 : decode cL_law 765 = .ok (.iaload, 1) := by decide +kernel
theorem dL_law_766 : decode cL_law 766 = .ok (.invokevirtual 91, 3) := by decide +kernel
theorem dL_law_769 : decode cL_law 769 = .ok (.if_icmp .eq 335, 3) := by decide +kernel
theorem dL_law_772 : decode cL_law 772 = .ok (.iconst 0, 1) := by decide +kernel
theorem dL_law_773 : decode cL_law 773 = .ok (.ireturn, 1) := by decide +kernel
theorem dL_law_774 : decode cL_law 774 = .ok (.aload_n 1, 1) := by decide +kernel
theorem dL_law_775 : decode cL_law 775 = .ok (.aload_n 0, 1) := by decide +kernel
theorem dL_law_776 : decode cL_law 776 = .ok (.iload_n 3, 1) := by decide +kernel
theorem dL_law_777 : decode cL_law 777 = .ok (.iconst 1, 1) := by decide +kernel
theorem dL_law_778 : decode cL_law 778 = .ok (.iadd, 1) := by decide +kernel
theorem dL_law_779 : decode cL_law 779 = .ok (.iaload, 1) := by decide +kernel
theorem dL_law_780 : decode cL_law 780 = .ok (.invokevirtual 92, 3) := by decide +kernel
theorem dL_law_783 : decode cL_law 783 = .ok (.aload_n 2, 1) := by decide +kernel
theorem dL_law_784 : decode cL_law 784 = .ok (.aload_n 0, 1) := by decide +kernel
theorem dL_law_785 : decode cL_law 785 = .ok (.iload_n 3, 1) := by decide +kernel
theorem dL_law_786 : decode cL_law 786 = .ok (.iconst 1, 1) := by decide +kernel
theorem dL_law_787 : decode cL_law 787 = .ok (.iadd, 1) := by decide +kernel
theorem dL_law_788 : decode cL_law 788 = .ok (.iaload, 1) := by decide +kernel
theorem dL_law_789 : decode cL_law 789 = .ok (.invokevirtual 95, 3) := by decide +kernel
theorem dL_law_792 : decode cL_law 792 = .ok (.if_icmp .eq 312, 3) := by decide +kernel
theorem dL_law_795 : decode cL_law 795 = .ok (.iconst 0, 1) := by decide +kernel
theorem dL_law_796 : decode cL_law 796 = .ok (.ireturn, 1) := by decide +kernel
theorem dL_law_797 : decode cL_law 797 = .ok (.aload_n 1, 1) := by decide +kernel
theorem dL_law_798 : decode cL_law 798 = .ok (.aload_n 0, 1) := by decide +kernel
theorem dL_law_799 : decode cL_law 799 = .ok (.iload_n 3, 1) := by decide +kernel
theorem dL_law_800 : decode cL_law 800 = .ok (.iconst 1, 1) := by decide +kernel
theorem dL_law_801 : decode cL_law 801 = .ok (.iadd, 1) := by decide +kernel
theorem dL_law_802 : decode cL_law 802 = .ok (.iaload, 1) := by decide +kernel
theorem dL_law_803 : decode cL_law 803 = .ok (.invokevirtual 96, 3) := by decide +kernel
theorem dL_law_806 : decode cL_law 806 = .ok (.aload_n 2, 1) := by decide +kernel
theorem dL_law_807 : decode cL_law 807 = .ok (.aload_n 0, 1) := by decide +kernel
theorem dL_law_808 : decode cL_law 808 = .ok (.iload_n 3, 1) := by decide +kernel
theorem dL_law_809 : decode cL_law 809 = .ok (.iconst 1, 1) := by decide +kernel
theorem dL_law_810 : decode cL_law 810 = .ok (.iadd, 1) := by decide +kernel
theorem dL_law_811 : decode cL_law 811 = .ok (.iaload, 1) := by decide +kernel
theorem dL_law_812 : decode cL_law 812 = .ok (.invokevirtual 99, 3) := by decide +kernel
theorem dL_law_815 : decode cL_law 815 = .ok (.if_icmp .eq 289, 3) := by decide +kernel
theorem dL_law_818 : decode cL_law 818 = .ok (.iconst 0, 1) := by decide +kernel
theorem dL_law_819 : decode cL_law 819 = .ok (.ireturn, 1) := by decide +kernel
theorem dL_law_820 : decode cL_law 820 = .ok (.aload_n 1, 1) := by decide +kernel
theorem dL_law_821 : decode cL_law 821 = .ok (.invokevirtual 100, 3) := by decide +kernel
theorem dL_law_824 : decode cL_law 824 = .ok (.aload_n 2, 1) := by decide +kernel
theorem dL_law_825 : decode cL_law 825 = .ok (.invokevirtual 103, 3) := by decide +kernel
theorem dL_law_828 : decode cL_law 828 = .ok (.if_icmp .eq 276, 3) := by decide +kernel
theorem dL_law_831 : decode cL_law 831 = .ok (.iconst 0, 1) := by decide +kernel
theorem dL_law_832 : decode cL_law 832 = .ok (.ireturn, 1) := by decide +kernel
theorem dL_law_833 : decode cL_law 833 = .ok (.aload_n 1, 1) := by decide +kernel
theorem dL_law_834 : decode cL_law 834 = .ok (.invokevirtual 104, 3) := by decide +kernel
theorem dL_law_837 : decode cL_law 837 = .ok (.aload_n 2, 1) := by decide +kernel
theorem dL_law_838 : decode cL_law 838 = .ok (.invokevirtual 107, 3) := by decide +kernel
theorem dL_law_841 : decode cL_law 841 = .ok (.if_icmp .eq 263, 3) := by decide +kernel
theorem dL_law_844 : decode cL_law 844 = .ok (.iconst 0, 1) := by decide +kernel
theorem dL_law_845 : decode cL_law 845 = .ok (.ireturn, 1) := by decide +kernel
theorem dL_law_846 : decode cL_law 846 = .ok (.aload_n 1, 1) := by decide +kernel
theorem dL_law_847 : decode cL_law 847 = .ok (.aload_n 0, 1) := by decide +kernel
theorem dL_law_848 : decode cL_law 848 = .ok (.iload_n 3, 1) := by decide +kernel
theorem dL_law_849 : decode cL_law 849 = .ok (.iconst 1, 1) := by decide +kernel
theorem dL_law_850 : decode cL_law 850 = .ok (.iadd, 1) := by decide +kernel
theorem dL_law_851 : decode cL_law 851 = .ok (.iaload, 1) := by decide +kernel
theorem dL_law_852 : decode cL_law 852 = .ok (.invokevirtual 108, 3) := by decide +kernel
theorem dL_law_855 : decode cL_law 855 = .ok (.aload_n 2, 1) := by decide +kernel
theorem dL_law_856 : decode cL_law 856 = .ok (.aload_n 0, 1) := by decide +kernel
theorem dL_law_857 : decode cL_law 857 = .ok (.iload_n 3, 1) := by decide +kernel
theorem dL_law_858 : decode cL_law 858 = .ok (.iconst 1, 1) := by decide +kernel
theorem dL_law_859 : decode cL_law 859 = .ok (.iadd, 1) := by decide +kernel
theorem dL_law_860 : decode cL_law 860 = .ok (.iaload, 1) := by decide +kernel
theorem dL_law_861 : decode cL_law 861 = .ok (.invokevirtual 111, 3) := by decide +kernel
theorem dL_law_864 : decode cL_law 864 = .ok (.if_icmp .eq 240, 3) := by decide +kernel
theorem dL_law_867 : decode cL_law 867 = .ok (.iconst 0, 1) := by decide +kernel
theorem dL_law_868 : decode cL_law 868 = .ok (.ireturn, 1) := by decide +kernel
theorem dL_law_869 : decode cL_law 869 = .ok (.aload_n 1, 1) := by decide +kernel
theorem dL_law_870 : decode cL_law 870 = .ok (.aload_n 0, 1) := by decide +kernel
theorem dL_law_871 : decode cL_law 871 = .ok (.iload_n 3, 1) := by decide +kernel
theorem dL_law_872 : decode cL_law 872 = .ok (.iconst 1, 1) := by decide +kernel
theorem dL_law_873 : decode cL_law 873 = .ok (.iadd, 1) := by decide +kernel
theorem dL_law_874 : decode cL_law 874 = .ok (.iaload, 1) := by decide +kernel
theorem dL_law_875 : decode cL_law 875 = .ok (.aload_n 0, 1) := by decide +kernel
theorem dL_law_876 : decode cL_law 876 = .ok (.iload_n 3, 1) := by decide +kernel
theorem dL_law_877 : decode cL_law 877 = .ok (.iconst 2, 1) := by decide +kernel
theorem dL_law_878 : decode cL_law 878 = .ok (.iadd, 1) := by decide +kernel
theorem dL_law_879 : decode cL_law 879 = .ok (.iaload, 1) := by decide +kernel
theorem dL_law_880 : decode cL_law 880 = .ok (.aload_n 0, 1) := by decide +kernel
theorem dL_law_881 : decode cL_law 881 = .ok (.iload_n 3, 1) := by decide +kernel
theorem dL_law_882 : decode cL_law 882 = .ok (.iconst 3, 1) := by decide +kernel
theorem dL_law_883 : decode cL_law 883 = .ok (.iadd, 1) := by decide +kernel
theorem dL_law_884 : decode cL_law 884 = .ok (.iaload, 1) := by decide +kernel
theorem dL_law_885 : decode cL_law 885 = .ok (.invokevirtual 112, 3) := by decide +kernel
theorem dL_law_888 : decode cL_law 888 = .ok (.aload_n 2, 1) := by decide +kernel
theorem dL_law_889 : decode cL_law 889 = .ok (.aload_n 0, 1) := by decide +kernel
theorem dL_law_890 : decode cL_law 890 = .ok (.iload_n 3, 1) := by decide +kernel
theorem dL_law_891 : decode cL_law 891 = .ok (.iconst 1, 1) := by decide +kernel
theorem dL_law_892 : decode cL_law 892 = .ok (.iadd, 1) := by decide +kernel
theorem dL_law_893 : decode cL_law 893 = .ok (.iaload, 1) := by decide +kernel
theorem dL_law_894 : decode cL_law 894 = .ok (.aload_n 0, 1) := by decide +kernel
theorem dL_law_895 : decode cL_law 895 = .ok (.iload_n 3, 1) := by decide +kernel
theorem dL_law_896 : decode cL_law 896 = .ok (.iconst 2, 1) := by decide +kernel
theorem dL_law_897 : decode cL_law 897 = .ok (.iadd, 1) := by decide +kernel
theorem dL_law_898 : decode cL_law 898 = .ok (.iaload, 1) := by decide +kernel
theorem dL_law_899 : decode cL_law 899 = .ok (.aload_n 0, 1) := by decide +kernel
theorem dL_law_900 : decode cL_law 900 = .ok (.iload_n 3, 1) := by decide +kernel
theorem dL_law_901 : decode cL_law 901 = .ok (.iconst 3, 1) := by decide +kernel
theorem dL_law_902 : decode cL_law 902 = .ok (.iadd, 1) := by decide +kernel
theorem dL_law_903 : decode cL_law 903 = .ok (.iaload, 1) := by decide +kernel
theorem dL_law_904 : decode cL_law 904 = .ok (.invokevirtual 115, 3) := by decide +kernel
theorem dL_law_907 : decode cL_law 907 = .ok (.if_icmp .eq 197, 3) := by decide +kernel
theorem dL_law_910 : decode cL_law 910 = .ok (.iconst 0, 1) := by decide +kernel
theorem dL_law_911 : decode cL_law 911 = .ok (.ireturn, 1) := by decide +kernel
theorem dL_law_912 : decode cL_law 912 = .ok (.aload_n 1, 1) := by decide +kernel
theorem dL_law_913 : decode cL_law 913 = .ok (.aload_n 0, 1) := by decide +kernel
theorem dL_law_914 : decode cL_law 914 = .ok (.iload_n 3, 1) := by decide +kernel
theorem dL_law_915 : decode cL_law 915 = .ok (.iconst 1, 1) := by decide +kernel
theorem dL_law_916 : decode cL_law 916 = .ok (.iadd, 1) := by decide +kernel
theorem dL_law_917 : decode cL_law 917 = .ok (.iaload, 1) := by decide +kernel
theorem dL_law_918 : decode cL_law 918 = .ok (.aload_n 0, 1) := by decide +kernel
theorem dL_law_919 : decode cL_law 919 = .ok (.iload_n 3, 1) := by decide +kernel
theorem dL_law_920 : decode cL_law 920 = .ok (.iconst 2, 1) := by decide +kernel
theorem dL_law_921 : decode cL_law 921 = .ok (.iadd, 1) := by decide +kernel
theorem dL_law_922 : decode cL_law 922 = .ok (.iaload, 1) := by decide +kernel
theorem dL_law_923 : decode cL_law 923 = .ok (.aload_n 0, 1) := by decide +kernel
theorem dL_law_924 : decode cL_law 924 = .ok (.iload_n 3, 1) := by decide +kernel
theorem dL_law_925 : decode cL_law 925 = .ok (.iconst 3, 1) := by decide +kernel
theorem dL_law_926 : decode cL_law 926 = .ok (.iadd, 1) := by decide +kernel
theorem dL_law_927 : decode cL_law 927 = .ok (.iaload, 1) := by decide +kernel
theorem dL_law_928 : decode cL_law 928 = .ok (.invokevirtual 116, 3) := by decide +kernel
theorem dL_law_931 : decode cL_law 931 = .ok (.aload_n 2, 1) := by decide +kernel
theorem dL_law_932 : decode cL_law 932 = .ok (.aload_n 0, 1) := by decide +kernel
theorem dL_law_933 : decode cL_law 933 = .ok (.iload_n 3, 1) := by decide +kernel
theorem dL_law_934 : decode cL_law 934 = .ok (.iconst 1, 1) := by decide +kernel
theorem dL_law_935 : decode cL_law 935 = .ok (.iadd, 1) := by decide +kernel
theorem dL_law_936 : decode cL_law 936 = .ok (.iaload, 1) := by decide +kernel
theorem dL_law_937 : decode cL_law 937 = .ok (.aload_n 0, 1) := by decide +kernel
theorem dL_law_938 : decode cL_law 938 = .ok (.iload_n 3, 1) := by decide +kernel
theorem dL_law_939 : decode cL_law 939 = .ok (.iconst 2, 1) := by decide +kernel
theorem dL_law_940 : decode cL_law 940 = .ok (.iadd, 1) := by decide +kernel
theorem dL_law_941 : decode cL_law 941 = .ok (.iaload, 1) := by decide +kernel
theorem dL_law_942 : decode cL_law 942 = .ok (.aload_n 0, 1) := by decide +kernel
theorem dL_law_943 : decode cL_law 943 = .ok (.iload_n 3, 1) := by decide +kernel
theorem dL_law_944 : decode cL_law 944 = .ok (.iconst 3, 1) := by decide +kernel
theorem dL_law_945 : decode cL_law 945 = .ok (.iadd, 1) := by decide +kernel
theorem dL_law_946 : decode cL_law 946 = .ok (.iaload, 1) := by decide +kernel
theorem dL_law_947 : decode cL_law 947 = .ok (.invokevirtual 119, 3) := by decide +kernel
theorem dL_law_950 : decode cL_law 950 = .ok (.if_icmp .eq 154, 3) := by decide +kernel
theorem dL_law_953 : decode cL_law 953 = .ok (.iconst 0, 1) := by decide +kernel
theorem dL_law_954 : decode cL_law 954 = .ok (.ireturn, 1) := by decide +kernel
theorem dL_law_955 : decode cL_law 955 = .ok (.aload_n 1, 1) := by decide +kernel
theorem dL_law_956 : decode cL_law 956 = .ok (.aload_n 0, 1) := by decide +kernel
theorem dL_law_957 : decode cL_law 957 = .ok (.iload_n 3, 1) := by decide +kernel
theorem dL_law_958 : decode cL_law 958 = .ok (.iconst 1, 1) := by decide +kernel
theorem dL_law_959 : decode cL_law 959 = .ok (.iadd, 1) := by decide +kernel
theorem dL_law_960 : decode cL_law 960 = .ok (.iaload, 1) := by decide +kernel
theorem dL_law_961 : decode cL_law 961 = .ok (.aload_n 0, 1) := by decide +kernel
theorem dL_law_962 : decode cL_law 962 = .ok (.iload_n 3, 1) := by decide +kernel
theorem dL_law_963 : decode cL_law 963 = .ok (.iconst 2, 1) := by decide +kernel
theorem dL_law_964 : decode cL_law 964 = .ok (.iadd, 1) := by decide +kernel
theorem dL_law_965 : decode cL_law 965 = .ok (.iaload, 1) := by decide +kernel
theorem dL_law_966 : decode cL_law 966 = .ok (.aload_n 0, 1) := by decide +kernel
theorem dL_law_967 : decode cL_law 967 = .ok (.iload_n 3, 1) := by decide +kernel
theorem dL_law_968 : decode cL_law 968 = .ok (.iconst 3, 1) := by decide +kernel
theorem dL_law_969 : decode cL_law 969 = .ok (.iadd, 1) := by decide +kernel
theorem dL_law_970 : decode cL_law 970 = .ok (.iaload, 1) := by decide +kernel
theorem dL_law_971 : decode cL_law 971 = .ok (.aload_n 0, 1) := by decide +kernel
theorem dL_law_972 : decode cL_law 972 = .ok (.iload_n 3, 1) := by decide +kernel
theorem dL_law_973 : decode cL_law 973 = .ok (.iconst 4, 1) := by decide +kernel
theorem dL_law_974 : decode cL_law 974 = .ok (.iadd, 1) := by decide +kernel
theorem dL_law_975 : decode cL_law 975 = .ok (.iaload, 1) := by decide +kernel
theorem dL_law_976 : decode cL_law 976 = .ok (.aload_n 0, 1) := by decide +kernel
theorem dL_law_977 : decode cL_law 977 = .ok (.iload_n 3, 1) := by decide +kernel
theorem dL_law_978 : decode cL_law 978 = .ok (.iconst 5, 1) := by decide +kernel
theorem dL_law_979 : decode cL_law 979 = .ok (.iadd, 1) := by decide +kernel
theorem dL_law_980 : decode cL_law 980 = .ok (.iaload, 1) := by decide +kernel
theorem dL_law_981 : decode cL_law 981 = .ok (.invokevirtual 120, 3) := by decide +kernel
theorem dL_law_984 : decode cL_law 984 = .ok (.aload_n 2, 1) := by decide +kernel
theorem dL_law_985 : decode cL_law 985 = .ok (.aload_n 0, 1) := by decide +kernel
theorem dL_law_986 : decode cL_law 986 = .ok (.iload_n 3, 1) := by decide +kernel
theorem dL_law_987 : decode cL_law 987 = .ok (.iconst 1, 1) := by decide +kernel
theorem dL_law_988 : decode cL_law 988 = .ok (.iadd, 1) := by decide +kernel
theorem dL_law_989 : decode cL_law 989 = .ok (.iaload, 1) := by decide +kernel
theorem dL_law_990 : decode cL_law 990 = .ok (.aload_n 0, 1) := by decide +kernel
theorem dL_law_991 : decode cL_law 991 = .ok (.iload_n 3, 1) := by decide +kernel
theorem dL_law_992 : decode cL_law 992 = .ok (.iconst 2, 1) := by decide +kernel
theorem dL_law_993 : decode cL_law 993 = .ok (.iadd, 1) := by decide +kernel
theorem dL_law_994 : decode cL_law 994 = .ok (.iaload, 1) := by decide +kernel
theorem dL_law_995 : decode cL_law 995 = .ok (.aload_n 0, 1) := by decide +kernel
theorem dL_law_996 : decode cL_law 996 = .ok (.iload_n 3, 1) := by decide +kernel
theorem dL_law_997 : decode cL_law 997 = .ok (.iconst 3, 1) := by decide +kernel
theorem dL_law_998 : decode cL_law 998 = .ok (.iadd, 1) := by decide +kernel
theorem dL_law_999 : decode cL_law 999 = .ok (.iaload, 1) := by decide +kernel
theorem dL_law_1000 : decode cL_law 1000 = .ok (.aload_n 0, 1) := by decide +kernel
theorem dL_law_1001 : decode cL_law 1001 = .ok (.iload_n 3, 1) := by decide +kernel
theorem dL_law_1002 : decode cL_law 1002 = .ok (.iconst 4, 1) := by decide +kernel
theorem dL_law_1003 : decode cL_law 1003 = .ok (.iadd, 1) := by decide +kernel
theorem dL_law_1004 : decode cL_law 1004 = .ok (.iaload, 1) := by decide +kernel
theorem dL_law_1005 : decode cL_law 1005 = .ok (.aload_n 0, 1) := by decide +kernel
theorem dL_law_1006 : decode cL_law 1006 = .ok (.iload_n 3, 1) := by decide +kernel
theorem dL_law_1007 : decode cL_law 1007 = .ok (.iconst 5, 1) := by decide +kernel
theorem dL_law_1008 : decode cL_law 1008 = .ok (.iadd, 1) := by decide +kernel
theorem dL_law_1009 : decode cL_law 1009 = .ok (.iaload, 1) := by decide +kernel
theorem dL_law_1010 : decode cL_law 1010 = .ok (.invokevirtual 124, 3) := by decide +kernel
theorem dL_law_1013 : decode cL_law 1013 = .ok (.if_icmp .eq 91, 3) := by decide +kernel
theorem dL_law_1016 : decode cL_law 1016 = .ok (.iconst 0, 1) := by decide +kernel
theorem dL_law_1017 : decode cL_law 1017 = .ok (.ireturn, 1) := by decide +kernel
theorem dL_law_1018 : decode cL_law 1018 = .ok (.aload_n 1, 1) := by decide +kernel
theorem dL_law_1019 : decode cL_law 1019 = .ok (.aload_n 0, 1) := by decide +kernel
theorem dL_law_1020 : decode cL_law 1020 = .ok (.iload_n 3, 1) := by decide +kernel
theorem dL_law_1021 : decode cL_law 1021 = .ok (.iconst 1, 1) := by decide +kernel
theorem dL_law_1022 : decode cL_law 1022 = .ok (.iadd, 1) := by decide +kernel
theorem dL_law_1023 : decode cL_law 1023 = .ok (.iaload, 1) := by decide +kernel
theorem dL_law_1024 : decode cL_law 1024 = .ok (.aload_n 0, 1) := by decide +kernel
theorem dL_law_1025 : decode cL_law 1025 = .ok (.iload_n 3, 1) := by decide +kernel
theorem dL_law_1026 : decode cL_law 1026 = .ok (.iconst 2, 1) := by decide +kernel
theorem dL_law_1027 : decode cL_law 1027 = .ok (.iadd, 1) := by decide +kernel
theorem dL_law_1028 : decode cL_law 1028 = .ok (.iaload, 1) := by decide +kernel
theorem dL_law_1029 : decode cL_law 1029 = .ok (.aload_n 0, 1) := by decide +kernel
theorem dL_law_1030 : decode cL_law 1030 = .ok (.iload_n 3, 1) := by decide +kernel
theorem dL_law_1031 : decode cL_law 1031 = .ok (.iconst 3, 1) := by decide +kernel
theorem dL_law_1032 : decode cL_law 1032 = .ok (.iadd, 1) := by decide +kernel
theorem dL_law_1033 : decode cL_law 1033 = .ok (.iaload, 1) := by decide +kernel
theorem dL_law_1034 : decode cL_law 1034 = .ok (.aload_n 0, 1) := by decide +kernel
theorem dL_law_1035 : decode cL_law 1035 = .ok (.iload_n 3, 1) := by decide +kernel
theorem dL_law_1036 : decode cL_law 1036 = .ok (.iconst 4, 1) := by decide +kernel
theorem dL_law_1037 : decode cL_law 1037 = .ok (.iadd, 1) := by decide +kernel
theorem dL_law_1038 : decode cL_law 1038 = .ok (.iaload, 1) := by decide +kernel
theorem dL_law_1039 : decode cL_law 1039 = .ok (.invokevirtual 125, 3) := by decide +kernel
theorem dL_law_1042 : decode cL_law 1042 = .ok (.aload_n 2, 1) := by decide +kernel
theorem dL_law_1043 : decode cL_law 1043 = .ok (.aload_n 0, 1) := by decide +kernel
theorem dL_law_1044 : decode cL_law 1044 = .ok (.iload_n 3, 1) := by decide +kernel
theorem dL_law_1045 : decode cL_law 1045 = .ok (.iconst 1, 1) := by decide +kernel
theorem dL_law_1046 : decode cL_law 1046 = .ok (.iadd, 1) := by decide +kernel
theorem dL_law_1047 : decode cL_law 1047 = .ok (.iaload, 1) := by decide +kernel
theorem dL_law_1048 : decode cL_law 1048 = .ok (.aload_n 0, 1) := by decide +kernel
theorem dL_law_1049 : decode cL_law 1049 = .ok (.iload_n 3, 1) := by decide +kernel
theorem dL_law_1050 : decode cL_law 1050 = .ok (.iconst 2, 1) := by decide +kernel
theorem dL_law_1051 : decode cL_law 1051 = .ok (.iadd, 1) := by decide +kernel
theorem dL_law_1052 : decode cL_law 1052 = .ok (.iaload, 1) := by decide +kernel
theorem dL_law_1053 : decode cL_law 1053 = .ok (.aload_n 0, 1) := by decide +kernel
theorem dL_law_1054 : decode cL_law 1054 = .ok (.iload_n 3, 1) := by decide +kernel
theorem dL_law_1055 : decode cL_law 1055 = .ok (.iconst 3, 1) := by decide +kernel
theorem dL_law_1056 : decode cL_law 1056 = .ok (.iadd, 1) := by decide +kernel
theorem dL_law_1057 : decode cL_law 1057 = .ok (.iaload, 1) := by decide +kernel
theorem dL_law_1058 : decode cL_law 1058 = .ok (.aload_n 0, 1) := by decide +kernel
theorem dL_law_1059 : decode cL_law 1059 = .ok (.iload_n 3, 1) := by decide +kernel
theorem dL_law_1060 : decode cL_law 1060 = .ok (.iconst 4, 1) := by decide +kernel
theorem dL_law_1061 : decode cL_law 1061 = .ok (.iadd, 1) := by decide +kernel
theorem dL_law_1062 : decode cL_law 1062 = .ok (.iaload, 1) := by decide +kernel
theorem dL_law_1063 : decode cL_law 1063 = .ok (.invokevirtual 129, 3) := by decide +kernel
theorem dL_law_1066 : decode cL_law 1066 = .ok (.if_icmp .eq 38, 3) := by decide +kernel
theorem dL_law_1069 : decode cL_law 1069 = .ok (.iconst 0, 1) := by decide +kernel
theorem dL_law_1070 : decode cL_law 1070 = .ok (.ireturn, 1) := by decide +kernel
theorem dL_law_1071 : decode cL_law 1071 = .ok (.aload_n 1, 1) := by decide +kernel
theorem dL_law_1072 : decode cL_law 1072 = .ok (.aload_n 0, 1) := by decide +kernel
theorem dL_law_1073 : decode cL_law 1073 = .ok (.iload_n 3, 1) := by decide +kernel
theorem dL_law_1074 : decode cL_law 1074 = .ok (.iconst 1, 1) := by decide +kernel
theorem dL_law_1075 : decode cL_law 1075 = .ok (.iadd, 1) := by decide +kernel
theorem dL_law_1076 : decode cL_law 1076 = .ok (.iaload, 1) := by decide +kernel
theorem dL_law_1077 : decode cL_law 1077 = .ok (.aload_n 0, 1) := by decide +kernel
theorem dL_law_1078 : decode cL_law 1078 = .ok (.iload_n 3, 1) := by decide +kernel
theorem dL_law_1079 : decode cL_law 1079 = .ok (.iconst 2, 1) := by decide +kernel
theorem dL_law_1080 : decode cL_law 1080 = .ok (.iadd, 1) := by decide +kernel
theorem dL_law_1081 : decode cL_law 1081 = .ok (.iaload, 1) := by decide +kernel
theorem dL_law_1082 : decode cL_law 1082 = .ok (.invokevirtual 130, 3) := by decide +kernel
theorem dL_law_1085 : decode cL_law 1085 = .ok (.aload_n 2, 1) := by decide +kernel
theorem dL_law_1086 : decode cL_law 1086 = .ok (.aload_n 0, 1) := by decide +kernel
theorem dL_law_1087 : decode cL_law 1087 = .ok (.iload_n 3, 1) := by decide +kernel
theorem dL_law_1088 : decode cL_law 1088 = .ok (.iconst 1, 1) := by decide +kernel
theorem dL_law_1089 : decode cL_law 1089 = .ok (.iadd, 1) := by decide +kernel
theorem dL_law_1090 : decode cL_law 1090 = .ok (.iaload, 1) := by decide +kernel
theorem dL_law_1091 : decode cL_law 1091 = .ok (.aload_n 0, 1) := by decide +kernel
theorem dL_law_1092 : decode cL_law 1092 = .ok (.iload_n 3, 1) := by decide +kernel
theorem dL_law_1093 : decode cL_law 1093 = .ok (.iconst 2, 1) := by decide +kernel
theorem dL_law_1094 : decode cL_law 1094 = .ok (.iadd, 1) := by decide +kernel
theorem dL_law_1095 : decode cL_law 1095 = .ok (.iaload, 1) := by decide +kernel
theorem dL_law_1096 : decode cL_law 1096 = .ok (.invokevirtual 133, 3) := by decide +kernel
theorem dL_law_1099 : decode cL_law 1099 = .ok (.if_icmp .eq 5, 3) := by decide +kernel
theorem dL_law_1102 : decode cL_law 1102 = .ok (.iconst 0, 1) := by decide +kernel
theorem dL_law_1103 : decode cL_law 1103 = .ok (.ireturn, 1) := by decide +kernel
theorem dL_law_1104 : decode cL_law 1104 = .ok (.iinc 3 6, 3) := by decide +kernel
theorem dL_law_1107 : decode cL_law 1107 = .ok (.goto (-1089), 3) := by decide +kernel
theorem dL_law_1110 : decode cL_law 1110 = .ok (.iconst 1, 1) := by decide +kernel
theorem dL_law_1111 : decode cL_law 1111 = .ok (.ireturn, 1) := by decide +kernel
end
section
/-! THE CALCULUS: a walk of one method over a pure heap. G: what stays the same over the whole law (launch, classes' numbers, arrays' classes, the first own address, the constants' addresses). h: how many cells there are, and what each own cell holds. -/
abbrev Gt : Type := Launch × va_G × (Nat → ClassId) × Nat × (Nat → Nat)
abbrev gL (G : Gt) : Launch := G.1
abbrev gD (G : Gt) : va_G := G.2.1
abbrev gC (G : Gt) : Nat → ClassId := G.2.2.1
abbrev gB (G : Gt) : Nat := G.2.2.2.1
abbrev gA (G : Gt) : Nat → Nat := G.2.2.2.2
abbrev gO (G : Gt) : Nat → Prop := fun q => gB G ≤ q
abbrev Ht : Type := Nat × (Nat → va_E)
abbrev Yt : Type := MethodName × ByteArray × Nat × Option FieldType
def gT (G : Gt) : List (ClassId × FieldType) := [(gC G 0, .int), (gC G 1, .byte), (gC G 2, .boolean), (gC G 3, .object RX2), (gC G 4, .object RX9), (gC G 5, .array .int)]
def tb : List Cond := lw_tbl.filter goodWord
theorem tb_of {w : Cond} (i : Nat) (h : lw_tbl[i]? = some w) (hg : goodWord w = true) : w ∈ tb := List.mem_filter.mpr ⟨List.mem_of_getElem? h, hg⟩
theorem tb_good {w : Cond} (h : w ∈ tb) : goodWord w = true := (List.mem_filter.mp h).2
def yW (Y : Yt) : List Cond := .code Y.1 Y.2.1 Y.2.2.1 Y.2.2.2 :: tb
theorem yW_good {Y : Yt} (h : Cond.code Y.1 Y.2.1 Y.2.2.1 Y.2.2.2 ∈ tb) : GoodIn tb (yW Y) := by
  intro w hw
  rcases List.mem_cons.mp hw with rfl | hw
  · exact ⟨h, good_of_word (tb_good h)⟩
  · exact ⟨hw, good_of_word (tb_good hw)⟩
def nestM : List Cond := [.methodLinkNest RX11 9 yX10_init RX11, .methodLinkNest RX11 24 yX7_init RX11, .methodLinkNest RX11 37 yX3_init RX11, .methodLinkNest RX11 44 yX5_init RX11, .methodLinkNest RX5 11 yX3_init RX11, .methodLinkNest RX10 34 yX11_isWithin RX11, .methodLinkNest RX0 13 yX11_hasBit RX11, .methodLinkNest RX9 54 yX11_clamp RX11, .methodLinkNest RX7 91 yX11_isWithin RX11, .methodLinkNest RX3 60 yX11_hankOf RX11, .methodLinkNest RX5 77 yX11_hasBit RX11]
def nestF : List Cond := [.fieldLinkNest RX9 57 RX11 "LOWER_PART" "[I" RX11, .fieldLinkNest RX9 65 RX11 "HIGHER_PART" "[I" RX11, .fieldLinkNest RX3 64 RX11 "LOWER_PART" "[I" RX11, .fieldLinkNest RX3 67 RX11 "HIGHER_PART" "[I" RX11]
def castW : List Cond := [.castable RX6 RX8, .castable RX4 RX1, .castable RX8 RX2, .castable RX1 RX2, .castable RX0 RX2, .castable RX6 RX2, .castable RX4 RX2]
def declW : List Cond := [.declares yX2_takes, .declares yX2_brings]
/-- instanceof that answers no: a coat's class, a class that it isn't of -/
def ncW : List (String × String) := [(RX2, RX8), (RX1, RX8), (RX0, RX8), (RX4, RX8), (RX2, RX1), (RX8, RX1), (RX0, RX1), (RX6, RX1), (RX2, RX0), (RX8, RX0), (RX1, RX0), (RX6, RX0), (RX4, RX0), (RX2, RX6), (RX8, RX6), (RX1, RX6), (RX0, RX6), (RX4, RX6), (RX2, RX4), (RX8, RX4), (RX1, RX4), (RX0, RX4), (RX6, RX4)]
def overW : List FieldType := [.object RX2, .object RX9, .array .int]
def cLow : List Int32 := [0, 0, 1, 2, 2, 3]
def cHigh : List Int32 := [1, 2, 2, 3, 4, 4]
def cWeight : List Int32 := [1296, 216, 36, 6, 1]
def txWords : String := "ounces apart size worn faded vat bear seen keep or and not "
def txSigns : String := "();+-*<="
def btWords : List Int32 := [111, 117, 110, 99, 101, 115, 32, 97, 112, 97, 114, 116, 32, 115, 105, 122, 101, 32, 119, 111, 114, 110, 32, 102, 97, 100, 101, 100, 32, 118, 97, 116, 32, 98, 101, 97, 114, 32, 115, 101, 101, 110, 32, 107, 101, 101, 112, 32, 111, 114, 32, 97, 110, 100, 32, 110, 111, 116, 32]
def btSigns : List Int32 := [40, 41, 59, 43, 45, 42, 60, 61]
/-- the constants: three rows, a switch, two texts -/
def GSc (G : Gt) (U : State) : Prop :=
  (va_Z RX11 "LOWER_PART" "[I" (.ref (gA G 0)) (gO G) U U.heap ∧ va_T .int (gA G 0) 6 (fun j => .int (cLow.getD j 0)) (gO G) U U.heap) ∧
  (va_Z RX11 "HIGHER_PART" "[I" (.ref (gA G 1)) (gO G) U U.heap ∧ va_T .int (gA G 1) 6 (fun j => .int (cHigh.getD j 0)) (gO G) U U.heap) ∧
  (va_Z RX11 "DIGIT_WEIGHT" "[I" (.ref (gA G 2)) (gO G) U U.heap ∧ va_T .int (gA G 2) 5 (fun j => .int (cWeight.getD j 0)) (gO G) U U.heap) ∧
  va_Z "java/lang/String" "COMPACT_STRINGS" "Z" (.int 1) (gO G) U U.heap ∧
  vk_R RX7 121 txWords (gA G 3) U ∧ vk_R RX7 113 txSigns (gA G 4) U ∧
  vk_S 2 [59, 8] [btWords, btSigns] (fun i => gA G (3 + i)) (fun i => gA G (5 + i)) (gO G) U U.heap
def GS (G : Gt) (U : State) : Prop :=
  va_K (gD G) vwCl (gT G) U ∧ (∀ w ∈ nestM, va_Nw w U) ∧ (∀ w ∈ nestF, va_Nw w U) ∧ (∀ w ∈ castW, va_Nw w U) ∧ (∀ w ∈ declW, va_Nw w U) ∧ (∀ q ∈ ncW, va_Nc q.1 q.2 U) ∧ gB G ≤ U.heap.size ∧ (∀ t ∈ overW, (Cond.arrayOver t).before #[] U = true) ∧ GSc G U
theorem nestM_form : ∀ w ∈ nestM, ∃ a i x h, w = .methodLinkNest a i x h := by
  intro w hw
  simp only [nestM, List.mem_cons, List.not_mem_nil, or_false] at hw
  rcases hw with rfl | rfl | rfl | rfl | rfl | rfl | rfl | rfl | rfl | rfl | rfl <;> exact ⟨_, _, _, _, rfl⟩
theorem nestF_form : ∀ w ∈ nestF, ∃ a i b n d h, w = .fieldLinkNest a i b n d h := by
  intro w hw
  simp only [nestF, List.mem_cons, List.not_mem_nil, or_false] at hw
  rcases hw with rfl | rfl | rfl | rfl <;> exact ⟨_, _, _, _, _, _, rfl⟩
theorem castW_form : ∀ w ∈ castW, ∃ a b, w = .castable a b := by
  intro w hw
  simp only [castW, List.mem_cons, List.not_mem_nil, or_false] at hw
  rcases hw with rfl | rfl | rfl | rfl | rfl | rfl | rfl <;> exact ⟨_, _, rfl⟩
theorem declW_form : ∀ w ∈ declW, ∃ a, w = .declares a := by
  intro w hw
  simp only [declW, List.mem_cons, List.not_mem_nil, or_false] at hw
  rcases hw with rfl | rfl <;> exact ⟨_, rfl⟩
theorem GSc.go {G : Gt} {s U : State} {H : Heap} (hW : s.WarmedH U.vm) (hU : U.heap = H) (hk : ∀ q : Nat, q < s.heap.size → ¬ gO G q → H[q]? = s.heap[q]?) (h : GSc G s) : GSc G U := by
  obtain ⟨⟨a1, a2⟩, ⟨b1, b2⟩, ⟨c1, c2⟩, d1, e1, e2, f1⟩ := h
  have al := hW.alike
  rw [← hU] at hk
  exact ⟨⟨va_Z.moved al (a1.kept hk), va_T.moved al (a2.kept hk)⟩, ⟨va_Z.moved al (b1.kept hk), va_T.moved al (b2.kept hk)⟩, ⟨va_Z.moved al (c1.kept hk), va_T.moved al (c2.kept hk)⟩, va_Z.moved al (d1.kept hk), e1.warm hW, e2.warm hW, vk_S.moved al (f1.kept hk)⟩
theorem GS.go {G : Gt} {s U : State} {H : Heap} {locs : List Loc} (h : GS G s) (hW : s.WarmedH U.vm) (hU : U.heap = H) (hS : va_S (gO G) s.heap H locs) : GS G U := by
  obtain ⟨h1, h2, h3, h4, h5, h6, h7, h9, h8⟩ := h
  refine ⟨va_K.moved hW.alike h1, fun w hw => ?_, fun w hw => ?_, fun w hw => ?_, fun w hw => ?_, fun q hq => va_Nc.moved hW.alike (h6 q hq), ?_, fun t ht => ?_, GSc.go hW hU hS.2.1 h8⟩
  · obtain ⟨a, i, x, y, rfl⟩ := nestM_form w hw
    exact va_Nw.warmM hW (h2 _ hw)
  · obtain ⟨a, i, b, n, d, y, rfl⟩ := nestF_form w hw
    exact va_Nw.warmF hW (h3 _ hw)
  · obtain ⟨a, b, rfl⟩ := castW_form w hw
    exact va_Nw.warmC hW (h4 _ hw)
  · obtain ⟨a, rfl⟩ := declW_form w hw
    exact va_Nw.warmD hW (h5 _ hw)
  · rw [hU]
    exact Nat.le_trans h7 hS.1
  · have h := h9 t ht
    rw [← Cond.arrayOver_setVmC hW.alike] at h
    exact h
theorem GS.calling {G : Gt} {U : State} {g : JFrame} {mk : MethodId} {a : Array Value} (h : GS G U) : GS G (U.calling g mk a) := by
  have hW : U.WarmedH (U.calling g mk a).vm := State.WarmedH.refl U
  exact h.go (H := U.heap) (locs := []) hW rfl va_S.rf
/-- the heap holds h -/
def HP (G : Gt) (h : Ht) (H : Heap) : Prop := H.size = h.1 ∧ gB G ≤ h.1 ∧ ∀ a : Nat, gB G ≤ a → a < h.1 → va_at (gD G) vwCl (a, h.2 a) H
theorem HP.one {G : Gt} {h : Ht} {H : Heap} (hp : HP G h H) {a : Nat} {e : va_E} (hB : gB G ≤ a) (hn : a < h.1) (he : h.2 a = e) : va_P (gD G) vwCl [(a, e)] H := by
  intro k q hq
  have hz : k < 1 := (List.getElem?_eq_some_iff.mp hq).1
  rw [show k = 0 by omega] at hq
  cases hq
  rw [← he]
  exact hp.2.2 a hB hn
theorem HP.set {G : Gt} {h : Ht} {H H1 : Heap} {a : Nat} {e : va_E} (hp : HP G h H) (he : va_at (gD G) vwCl (a, e) H1) (hz : H1.size = H.size) (oq : ∀ q : Nat, q ≠ a → H1[q]? = H[q]?) : HP G (h.1, va_up h.2 a e) H1 := by
  refine ⟨hz.trans hp.1, hp.2.1, fun b hb hn => ?_⟩
  by_cases hab : b = a
  · subst hab
    show va_at (gD G) vwCl (b, va_up h.2 b e b) H1
    rw [va_up_self]
    exact he
  · show va_at (gD G) vwCl (b, va_up h.2 a e b) H1
    rw [va_up_ne _ _ hab]
    exact (hp.2.2 b hb hn).kept (oq b hab)
theorem HP.push {G : Gt} {h : Ht} {H H1 : Heap} {e : va_E} (hp : HP G h H) (he : va_at (gD G) vwCl (h.1, e) H1) (hz : H1.size = H.size + 1) (oq : ∀ q : Nat, q < H.size → H1[q]? = H[q]?) : HP G (h.1 + 1, va_up h.2 h.1 e) H1 := by
  refine ⟨by rw [hz, hp.1], Nat.le_succ_of_le hp.2.1, fun b hb hn => ?_⟩
  by_cases hab : b = h.1
  · subst hab
    show va_at (gD G) vwCl (h.1, va_up h.2 h.1 e h.1) H1
    rw [va_up_self]
    exact he
  · show va_at (gD G) vwCl (b, va_up h.2 h.1 e b) H1
    rw [va_up_ne _ _ hab]
    have hlt : b < h.1 := by
      have : b < h.1 + 1 := hn
      omega
    exact (hp.2.2 b hb hlt).kept (oq b (by rw [hp.1]; exact hlt))
theorem va_S.own {G : Gt} {H0 H H1 : Heap} {locs : List Loc} {a i : Nat} (h : va_S (gO G) H0 H locs) (hz : H1.size = H.size) (oq : ∀ q : Nat, q ≠ a → H1[q]? = H[q]?) (ha : gB G ≤ a) : va_S (gO G) H0 H1 (locs ++ [⟨a, i⟩]) := by
  refine ⟨by rw [hz]; exact h.1, fun q h1 h2 => ?_, fun q hq => ?_⟩
  · rw [oq q (fun e => h2 (by rw [e]; exact ha))]
    exact h.2.1 q h1 h2
  · rcases List.mem_append.mp hq with hq | hq
    · exact h.2.2 q hq
    · rw [List.mem_singleton] at hq
      subst hq
      exact ha
theorem va_S.more {G : Gt} {H0 H H1 : Heap} {locs : List Loc} (h : va_S (gO G) H0 H locs) (hz : H.size ≤ H1.size) (oq : ∀ q : Nat, q < H.size → H1[q]? = H[q]?) : va_S (gO G) H0 H1 locs :=
  ⟨Nat.le_trans h.1 hz, fun q h1 h2 => (oq q (Nat.lt_of_lt_of_le h1 h.1)).trans (h.2.1 q h1 h2), h.2.2⟩
/-- the locals: those of the list that aren't none are held -/
def LR (nL : Nat) (ls : List (Option Value)) (jl : Array Slot) : Prop := jl.size = nL ∧ lv_wf jl ∧ ∀ (i : Nat) (v : Value), ls[i]? = some (some v) → jl[i]? = some (.val v)
def lrPairs (ls : List (Option Value)) : List (Nat × Value) := (List.range ls.length).filterMap fun i => match ls[i]? with | some (some v) => some (i, v) | _ => none
theorem lrPairs_mem {ls : List (Option Value)} {i : Nat} {v : Value} : (i, v) ∈ lrPairs ls ↔ ls[i]? = some (some v) := by
  unfold lrPairs
  rw [List.mem_filterMap]
  constructor
  · rintro ⟨j, -, hj⟩
    split at hj
    · next w hw =>
      cases hj
      exact hw
    · cases hj
  · intro h
    refine ⟨i, List.mem_range.mpr (List.getElem?_eq_some_iff.mp h).1, ?_⟩
    rw [h]
theorem LR.has {nL : Nat} {ls : List (Option Value)} {jl : Array Slot} (h : LR nL ls jl) : lv_has jl nL (lrPairs ls) := ⟨h.1, h.2.1, fun q hq => h.2.2 q.1 q.2 (lrPairs_mem.mp hq)⟩
/-- not a value of two words -/
def nc1 (o : Option Value) : Bool := match o with | some v => v.category == 1 | none => true
theorem LR.of_has1 {nL i : Nat} {ls : List (Option Value)} {jl : Array Slot} {v : Value} (hi : i < nL) (hc : ∀ j o, j + 1 = i → ls[j]? = some o → nc1 o = true) (h : lv_has jl nL ((i, v) :: (lrPairs ls).filter (fun q => !(q.1 == i) && !(q.1 + 1 == i && q.2.category == 2)))) : LR nL (ls.set i (some v)) jl := by
  refine ⟨h.1, h.2.1, fun j w hj => ?_⟩
  by_cases hji : j = i
  · subst hji
    have hlt : j < ls.length := by
      have := (List.getElem?_eq_some_iff.mp hj).1
      rwa [List.length_set] at this
    rw [List.getElem?_set_self hlt] at hj
    cases hj
    exact h.2.2 (j, v) List.mem_cons_self
  · rw [List.getElem?_set_ne (fun e => hji e.symm)] at hj
    refine h.2.2 (j, w) (List.mem_cons_of_mem _ (List.mem_filter.mpr ⟨lrPairs_mem.mpr hj, ?_⟩))
    by_cases h1 : j + 1 = i
    · have h2 := hc j _ h1 hj
      simp only [nc1, beq_iff_eq] at h2
      simp [hji, h1, h2]
    · simp [hji, h1]
end
section
/-- what a walk rests on -/
def AC (G : Gt) (d : Nat) (Y : Yt) (p : Program) (R : Room) (s : State) (m : MethodId) (args : Array Value) (meth : Method) (c : Code) : Prop :=
  p.tables.exec = Jvm.exec ∧ c.code = Y.2.1 ∧ meth.sig.returnType = Y.2.2.2 ∧ c.maxLocals = Y.2.2.1 ∧ s.vm.findClass Y.1.cls = some m.cls ∧ (∀ w ∈ tb, w.before args s = true) ∧ meth.locks = false ∧ meth.name = Y.1.name ∧ GS G s ∧ d ≤ R.frames ∧ 64 * d ≤ R.locals
/-- the walk stands at its return -/
def RI (Y : Yt) (pc : Nat) (r : Option Value) : Prop :=
  (Y.2.2.2 = none ∧ r = none ∧ decode Y.2.1 pc = .ok (.return_, 1)) ∨
  (∃ ty v, Y.2.2.2 = some ty ∧ r = some (.int v) ∧ narrow ty (.int v) = .int v ∧ decode Y.2.1 pc = .ok (.ireturn, 1)) ∨
  (∃ rt v, Y.2.2.2 = some rt ∧ ((∃ n, rt = .object n) ∨ ∃ t, rt = .array t) ∧ (v = .null ∨ ∃ a, v = .ref a) ∧ r = some v ∧ decode Y.2.1 pc = .ok (.areturn, 1))
/-- from here the method comes to its return with Post; it makes at most mc cells of ms slots -/
def AX (G : Gt) (d : Nat) (Y : Yt) (pc : Nat) (ls : List (Option Value)) (st : List Value) (h : Ht) (mc ms : Nat) (Post : Option Value → Ht → Prop) : Prop :=
  ∀ (p : Program) (e : Env) (R : Room) (s : State) (m : MethodId) (args : Array Value) (below : List Frame) (meth : Method) (c : Code) (Q : State → Prop) (H : Heap) (locs : List Loc) (cells slots : Nat) (jl : Array Slot),
    AC G d Y p R s m args meth c → HP G h H → va_S (gO G) s.heap H locs → LR Y.2.2.1 ls jl → cells + mc ≤ R.cells → slots + ms ≤ R.slots →
    (∀ (r : Option Value) (h' : Ht) (H' : Heap) (locs' : List Loc) (cells' slots' pc' : Nat) (jl' : Array Slot), Post r h' → HP G h' H' → va_S (gO G) s.heap H' locs' → cells' ≤ cells + mc → slots' ≤ slots + ms → RI Y pc' r → W p (gL G) e R s m args below meth c H' locs' cells' slots' Q (F0 m pc' jl' r.toList)) →
    W p (gL G) e R s m args below meth c H locs cells slots Q (F0 m pc jl st)
section AXr
variable {G : Gt} {d : Nat} {Y : Yt} {pc : Nat} {ls : List (Option Value)} {st : List Value} {h : Ht} {mc ms : Nat} {Post : Option Value → Ht → Prop}
theorem nc_at {ls : List (Option Value)} {i : Nat} {a : Option Value} (ha : ls[i]? = some a) (hq : nc1 a = true) : ∀ j o, j + 1 = i + 1 → ls[j]? = some o → nc1 o = true := by
  intro j o h1 h2
  have e1 : j = i := by omega
  subst e1
  rw [ha] at h2
  cases h2
  exact hq
theorem ax_post {Post' : Option Value → Ht → Prop} (hi : ∀ r h', Post' r h' → Post r h') (k : AX G d Y pc ls st h mc ms Post') : AX G d Y pc ls st h mc ms Post :=
  fun p e R s m args below meth c Q H locs cells slots jl ac hp hS hl hc hs kr => k p e R s m args below meth c Q H locs cells slots jl ac hp hS hl hc hs (fun r h' H' locs' cells' slots' pc' jl' hpo => kr r h' H' locs' cells' slots' pc' jl' (hi r h' hpo))
theorem ax_budget {mc' ms' : Nat} (h1 : mc' ≤ mc) (h2 : ms' ≤ ms) (k : AX G d Y pc ls st h mc' ms' Post) : AX G d Y pc ls st h mc ms Post :=
  fun p e R s m args below meth c Q H locs cells slots jl ac hp hS hl hc hs kr => k p e R s m args below meth c Q H locs cells slots jl ac hp hS hl (by omega) (by omega) (fun r h' H' locs' cells' slots' pc' jl' hpo hp' hS' c1 c2 => kr r h' H' locs' cells' slots' pc' jl' hpo hp' hS' (by omega) (by omega))
theorem ax_top {x y : Int32} (e : x = y) (k : AX G d Y pc ls (.int y :: st) h mc ms Post) : AX G d Y pc ls (.int x :: st) h mc ms Post := by subst e; exact k
theorem ax_topl {x y : Int64} (e : x = y) (k : AX G d Y pc ls (.long y :: st) h mc ms Post) : AX G d Y pc ls (.long x :: st) h mc ms Post := by subst e; exact k
theorem ax_iconst {n : Int} {v : Int32} (hd : decode Y.2.1 pc = .ok (.iconst n, 1)) (hv : Int32.ofInt n = v) (k : AX G d Y (pc + 1) ls (.int v :: st) h mc ms Post) : AX G d Y pc ls (st) h mc ms Post :=
  fun p e R s m args below meth c Q H locs cells slots jl ac hp hS hl hc hs kr => lv_iconst ac.1 ac.2.1 hd hv (k p e R s m args below meth c Q H locs cells slots jl ac hp hS hl hc hs kr)
theorem ax_bipush {n : Int} {v : Int32} (hd : decode Y.2.1 pc = .ok (.bipush n, 2)) (hv : (Int8.ofInt n).toInt32 = v) (k : AX G d Y (pc + 2) ls (.int v :: st) h mc ms Post) : AX G d Y pc ls (st) h mc ms Post :=
  fun p e R s m args below meth c Q H locs cells slots jl ac hp hS hl hc hs kr => lv_bipush ac.1 ac.2.1 hd hv (k p e R s m args below meth c Q H locs cells slots jl ac hp hS hl hc hs kr)
theorem ax_sipush {n : Int} {v : Int32} (hd : decode Y.2.1 pc = .ok (.sipush n, 3)) (hv : (Int16.ofInt n).toInt32 = v) (k : AX G d Y (pc + 3) ls (.int v :: st) h mc ms Post) : AX G d Y pc ls (st) h mc ms Post :=
  fun p e R s m args below meth c Q H locs cells slots jl ac hp hS hl hc hs kr => lv_sipush ac.1 ac.2.1 hd hv (k p e R s m args below meth c Q H locs cells slots jl ac hp hS hl hc hs kr)
theorem ax_lconst {n : Fin 2} {v : Int64} (hd : decode Y.2.1 pc = .ok (.lconst n, 1)) (hv : Int64.ofNat (n : Nat) = v) (k : AX G d Y (pc + 1) ls (.long v :: st) h mc ms Post) : AX G d Y pc ls (st) h mc ms Post :=
  fun p e R s m args below meth c Q H locs cells slots jl ac hp hS hl hc hs kr => lv_lconst ac.1 ac.2.1 hd hv (k p e R s m args below meth c Q H locs cells slots jl ac hp hS hl hc hs kr)
theorem ax_ldc {index : Nat} {v : Int32} (hd : decode Y.2.1 pc = .ok (.ldc index, 2)) (hw : Cond.constant Y.1.cls index v ∈ tb) (k : AX G d Y (pc + 2) ls (.int v :: st) h mc ms Post) : AX G d Y pc ls (st) h mc ms Post :=
  fun p e R s m args below meth c Q H locs cells slots jl ac hp hS hl hc hs kr => lv_ldc ac.1 ac.2.1 ac.2.2.2.2.1 (ac.2.2.2.2.2.1 _ hw) hd (k p e R s m args below meth c Q H locs cells slots jl ac hp hS hl hc hs kr)
theorem ax_ldc2 {index : Nat} {v : Int64} (hd : decode Y.2.1 pc = .ok (.ldc2_w index, 3)) (hw : Cond.constantLong Y.1.cls index v ∈ tb) (k : AX G d Y (pc + 3) ls (.long v :: st) h mc ms Post) : AX G d Y pc ls (st) h mc ms Post :=
  fun p e R s m args below meth c Q H locs cells slots jl ac hp hS hl hc hs kr => lv_ldc2 ac.1 ac.2.1 ac.2.2.2.2.1 (ac.2.2.2.2.2.1 _ hw) hd (k p e R s m args below meth c Q H locs cells slots jl ac hp hS hl hc hs kr)
theorem ax_iload_n {k : Fin 4} {i : Nat} {x : Int32} (hd : decode Y.2.1 pc = .ok (.iload_n k, 1)) (hi : (k : Nat) = i) (hv : ls[i]? = some (some (.int x))) (kk : AX G d Y (pc + 1) ls (.int x :: st) h mc ms Post) : AX G d Y pc ls (st) h mc ms Post :=
  fun p e R s m args below meth c Q H locs cells slots jl ac hp hS hl hc hs kr => lv_iload_n ac.1 ac.2.1 hd hi (hl.2.2 i _ hv) (kk p e R s m args below meth c Q H locs cells slots jl ac hp hS hl hc hs kr)
theorem ax_iload {i : Nat} {x : Int32} (hd : decode Y.2.1 pc = .ok (.iload i, 2)) (hv : ls[i]? = some (some (.int x))) (kk : AX G d Y (pc + 2) ls (.int x :: st) h mc ms Post) : AX G d Y pc ls (st) h mc ms Post :=
  fun p e R s m args below meth c Q H locs cells slots jl ac hp hS hl hc hs kr => lv_iload ac.1 ac.2.1 hd (hl.2.2 i _ hv) (kk p e R s m args below meth c Q H locs cells slots jl ac hp hS hl hc hs kr)
theorem ax_aload_n {k : Fin 4} {i : Nat} {x : Nat} (hd : decode Y.2.1 pc = .ok (.aload_n k, 1)) (hi : (k : Nat) = i) (hv : ls[i]? = some (some (.ref x))) (kk : AX G d Y (pc + 1) ls (.ref x :: st) h mc ms Post) : AX G d Y pc ls (st) h mc ms Post :=
  fun p e R s m args below meth c Q H locs cells slots jl ac hp hS hl hc hs kr => lv_aload_n ac.1 ac.2.1 hd hi (hl.2.2 i _ hv) (kk p e R s m args below meth c Q H locs cells slots jl ac hp hS hl hc hs kr)
theorem ax_aload {i : Nat} {x : Nat} (hd : decode Y.2.1 pc = .ok (.aload i, 2)) (hv : ls[i]? = some (some (.ref x))) (kk : AX G d Y (pc + 2) ls (.ref x :: st) h mc ms Post) : AX G d Y pc ls (st) h mc ms Post :=
  fun p e R s m args below meth c Q H locs cells slots jl ac hp hS hl hc hs kr => lv_aload ac.1 ac.2.1 hd (hl.2.2 i _ hv) (kk p e R s m args below meth c Q H locs cells slots jl ac hp hS hl hc hs kr)
theorem ax_lload_n {k : Fin 4} {i : Nat} {x : Int64} (hd : decode Y.2.1 pc = .ok (.lload_n k, 1)) (hi : (k : Nat) = i) (hv : ls[i]? = some (some (.long x))) (kk : AX G d Y (pc + 1) ls (.long x :: st) h mc ms Post) : AX G d Y pc ls (st) h mc ms Post :=
  fun p e R s m args below meth c Q H locs cells slots jl ac hp hS hl hc hs kr => lv_lload_n ac.1 ac.2.1 hd hi (hl.2.2 i _ hv) (kk p e R s m args below meth c Q H locs cells slots jl ac hp hS hl hc hs kr)
theorem ax_lload {i : Nat} {x : Int64} (hd : decode Y.2.1 pc = .ok (.lload i, 2)) (hv : ls[i]? = some (some (.long x))) (kk : AX G d Y (pc + 2) ls (.long x :: st) h mc ms Post) : AX G d Y pc ls (st) h mc ms Post :=
  fun p e R s m args below meth c Q H locs cells slots jl ac hp hS hl hc hs kr => lv_lload ac.1 ac.2.1 hd (hl.2.2 i _ hv) (kk p e R s m args below meth c Q H locs cells slots jl ac hp hS hl hc hs kr)
theorem ax_aload_nN {k : Fin 4} {i : Nat} (hd : decode Y.2.1 pc = .ok (.aload_n k, 1)) (hi : (k : Nat) = i) (hv : ls[i]? = some (some .null)) (kk : AX G d Y (pc + 1) ls (.null :: st) h mc ms Post) : AX G d Y pc ls (st) h mc ms Post :=
  fun p e R s m args below meth c Q H locs cells slots jl ac hp hS hl hc hs kr => lv_aload_nN ac.1 ac.2.1 hd hi (hl.2.2 i _ hv) (kk p e R s m args below meth c Q H locs cells slots jl ac hp hS hl hc hs kr)
theorem ax_aloadN {i : Nat} (hd : decode Y.2.1 pc = .ok (.aload i, 2)) (hv : ls[i]? = some (some .null)) (kk : AX G d Y (pc + 2) ls (.null :: st) h mc ms Post) : AX G d Y pc ls (st) h mc ms Post :=
  fun p e R s m args below meth c Q H locs cells slots jl ac hp hS hl hc hs kr => lv_aloadN ac.1 ac.2.1 hd (hl.2.2 i _ hv) (kk p e R s m args below meth c Q H locs cells slots jl ac hp hS hl hc hs kr)
theorem ax_istore_n0 {k : Fin 4} {i : Nat} {x : Int32} (hd : decode Y.2.1 pc = .ok (.istore_n k, 1)) (hi : (k : Nat) = i) (hn : i < Y.2.2.1) (hq : ∀ j o, j + 1 = i → ls[j]? = some o → nc1 o = true) (kk : AX G d Y (pc + 1) (ls.set i (some (.int x))) (st) h mc ms Post) : AX G d Y pc ls ((.int x) :: st) h mc ms Post :=
  fun p e R s m args below meth c Q H locs cells slots jl ac hp hS hl hc hs kr => lv_istore_n ac.1 ac.2.1 hd hi hl.has hn rfl (fun jl hl' => kk p e R s m args below meth c Q H locs cells slots jl ac hp hS (LR.of_has1 hn hq hl') hc hs kr)
theorem ax_istore_0 {i : Nat} {x : Int32} (hd : decode Y.2.1 pc = .ok (.istore i, 2)) (hn : i < Y.2.2.1) (hq : ∀ j o, j + 1 = i → ls[j]? = some o → nc1 o = true) (kk : AX G d Y (pc + 2) (ls.set i (some (.int x))) (st) h mc ms Post) : AX G d Y pc ls ((.int x) :: st) h mc ms Post :=
  fun p e R s m args below meth c Q H locs cells slots jl ac hp hS hl hc hs kr => lv_istore ac.1 ac.2.1 hd hl.has hn rfl (fun jl hl' => kk p e R s m args below meth c Q H locs cells slots jl ac hp hS (LR.of_has1 hn hq hl') hc hs kr)
theorem ax_astore_n0 {k : Fin 4} {i : Nat} {x : Nat} (hd : decode Y.2.1 pc = .ok (.astore_n k, 1)) (hi : (k : Nat) = i) (hn : i < Y.2.2.1) (hq : ∀ j o, j + 1 = i → ls[j]? = some o → nc1 o = true) (kk : AX G d Y (pc + 1) (ls.set i (some (.ref x))) (st) h mc ms Post) : AX G d Y pc ls ((.ref x) :: st) h mc ms Post :=
  fun p e R s m args below meth c Q H locs cells slots jl ac hp hS hl hc hs kr => lv_astore_n ac.1 ac.2.1 hd hi hl.has hn rfl (fun jl hl' => kk p e R s m args below meth c Q H locs cells slots jl ac hp hS (LR.of_has1 hn hq hl') hc hs kr)
theorem ax_astore_0 {i : Nat} {x : Nat} (hd : decode Y.2.1 pc = .ok (.astore i, 2)) (hn : i < Y.2.2.1) (hq : ∀ j o, j + 1 = i → ls[j]? = some o → nc1 o = true) (kk : AX G d Y (pc + 2) (ls.set i (some (.ref x))) (st) h mc ms Post) : AX G d Y pc ls ((.ref x) :: st) h mc ms Post :=
  fun p e R s m args below meth c Q H locs cells slots jl ac hp hS hl hc hs kr => lv_astore ac.1 ac.2.1 hd hl.has hn rfl (fun jl hl' => kk p e R s m args below meth c Q H locs cells slots jl ac hp hS (LR.of_has1 hn hq hl') hc hs kr)
theorem ax_astoreN_n0 {k : Fin 4} {i : Nat} (hd : decode Y.2.1 pc = .ok (.astore_n k, 1)) (hi : (k : Nat) = i) (hn : i < Y.2.2.1) (hq : ∀ j o, j + 1 = i → ls[j]? = some o → nc1 o = true) (kk : AX G d Y (pc + 1) (ls.set i (some .null)) (st) h mc ms Post) : AX G d Y pc ls (.null :: st) h mc ms Post :=
  fun p e R s m args below meth c Q H locs cells slots jl ac hp hS hl hc hs kr => lv_astore_nN ac.1 ac.2.1 hd hi hl.has hn rfl (fun jl hl' => kk p e R s m args below meth c Q H locs cells slots jl ac hp hS (LR.of_has1 hn hq hl') hc hs kr)
theorem ax_astoreN_0 {i : Nat} (hd : decode Y.2.1 pc = .ok (.astore i, 2)) (hn : i < Y.2.2.1) (hq : ∀ j o, j + 1 = i → ls[j]? = some o → nc1 o = true) (kk : AX G d Y (pc + 2) (ls.set i (some .null)) (st) h mc ms Post) : AX G d Y pc ls (.null :: st) h mc ms Post :=
  fun p e R s m args below meth c Q H locs cells slots jl ac hp hS hl hc hs kr => lv_astoreN ac.1 ac.2.1 hd hl.has hn rfl (fun jl hl' => kk p e R s m args below meth c Q H locs cells slots jl ac hp hS (LR.of_has1 hn hq hl') hc hs kr)
theorem ax_iinc_0 {i : Nat} {n : Int} {x v : Int32} (hd : decode Y.2.1 pc = .ok (.iinc i n, 3)) (hx : ls[i]? = some (some (.int x))) (hv : Int32.ofInt n = v) (hn : i < Y.2.2.1) (hq : ∀ j o, j + 1 = i → ls[j]? = some o → nc1 o = true) (kk : AX G d Y (pc + 3) (ls.set i (some (.int (x + v)))) (st) h mc ms Post) : AX G d Y pc ls (st) h mc ms Post := by
  subst hv
  refine fun p e R s m args below meth c Q H locs cells slots jl ac hp hS hl hc hs kr => ?_
  obtain ⟨k, hk⟩ := List.getElem?_of_mem (lrPairs_mem.mpr hx)
  exact lv_iinc ac.1 ac.2.1 hd hl.has hk rfl hn rfl (fun jl hl' => kk p e R s m args below meth c Q H locs cells slots jl ac hp hS (LR.of_has1 hn hq hl') hc hs kr)
theorem ax_istore_n0' {z : Option Value} {x : Int32} (hd : decode Y.2.1 pc = .ok (.istore_n 0, 1)) (hn : 0 < Y.2.2.1) (kk : AX G d Y (pc + 1) (some (.int x) :: ls) (st) h mc ms Post) : AX G d Y pc (z :: ls) ((.int x) :: st) h mc ms Post :=
  ax_istore_n0 (ls := z :: ls) (i := 0) hd rfl hn (fun j o h1 _ => absurd h1 (by omega)) kk
theorem ax_astore_n0' {z : Option Value} {x : Nat} (hd : decode Y.2.1 pc = .ok (.astore_n 0, 1)) (hn : 0 < Y.2.2.1) (kk : AX G d Y (pc + 1) (some (.ref x) :: ls) (st) h mc ms Post) : AX G d Y pc (z :: ls) ((.ref x) :: st) h mc ms Post :=
  ax_astore_n0 (ls := z :: ls) (i := 0) hd rfl hn (fun j o h1 _ => absurd h1 (by omega)) kk
theorem ax_astoreN_n0' {z : Option Value} (hd : decode Y.2.1 pc = .ok (.astore_n 0, 1)) (hn : 0 < Y.2.2.1) (kk : AX G d Y (pc + 1) (some .null :: ls) (st) h mc ms Post) : AX G d Y pc (z :: ls) (.null :: st) h mc ms Post :=
  ax_astoreN_n0 (ls := z :: ls) (i := 0) hd rfl hn (fun j o h1 _ => absurd h1 (by omega)) kk
theorem ax_iinc_0' {n : Int} {x v : Int32} (hd : decode Y.2.1 pc = .ok (.iinc 0 n, 3)) (hv : Int32.ofInt n = v) (hn : 0 < Y.2.2.1) (kk : AX G d Y (pc + 3) (some (.int (x + v)) :: ls) (st) h mc ms Post) : AX G d Y pc (some (.int x) :: ls) (st) h mc ms Post :=
  ax_iinc_0 (ls := some (.int x) :: ls) (i := 0) hd rfl hv hn (fun j o h1 _ => absurd h1 (by omega)) kk
theorem ax_istore_n1' {a0 z : Option Value} {x : Int32} (hd : decode Y.2.1 pc = .ok (.istore_n 1, 1)) (hn : 1 < Y.2.2.1) (hq : nc1 a0 = true) (kk : AX G d Y (pc + 1) (a0 :: some (.int x) :: ls) (st) h mc ms Post) : AX G d Y pc (a0 :: z :: ls) ((.int x) :: st) h mc ms Post :=
  ax_istore_n0 (ls := a0 :: z :: ls) (i := 1) hd rfl hn (nc_at (i := 0) (a := a0) rfl hq) kk
theorem ax_astore_n1' {a0 z : Option Value} {x : Nat} (hd : decode Y.2.1 pc = .ok (.astore_n 1, 1)) (hn : 1 < Y.2.2.1) (hq : nc1 a0 = true) (kk : AX G d Y (pc + 1) (a0 :: some (.ref x) :: ls) (st) h mc ms Post) : AX G d Y pc (a0 :: z :: ls) ((.ref x) :: st) h mc ms Post :=
  ax_astore_n0 (ls := a0 :: z :: ls) (i := 1) hd rfl hn (nc_at (i := 0) (a := a0) rfl hq) kk
theorem ax_astoreN_n1' {a0 z : Option Value} (hd : decode Y.2.1 pc = .ok (.astore_n 1, 1)) (hn : 1 < Y.2.2.1) (hq : nc1 a0 = true) (kk : AX G d Y (pc + 1) (a0 :: some .null :: ls) (st) h mc ms Post) : AX G d Y pc (a0 :: z :: ls) (.null :: st) h mc ms Post :=
  ax_astoreN_n0 (ls := a0 :: z :: ls) (i := 1) hd rfl hn (nc_at (i := 0) (a := a0) rfl hq) kk
theorem ax_iinc_1' {a0 : Option Value} {n : Int} {x v : Int32} (hd : decode Y.2.1 pc = .ok (.iinc 1 n, 3)) (hv : Int32.ofInt n = v) (hn : 1 < Y.2.2.1) (hq : nc1 a0 = true) (kk : AX G d Y (pc + 3) (a0 :: some (.int (x + v)) :: ls) (st) h mc ms Post) : AX G d Y pc (a0 :: some (.int x) :: ls) (st) h mc ms Post :=
  ax_iinc_0 (ls := a0 :: some (.int x) :: ls) (i := 1) hd rfl hv hn (nc_at (i := 0) (a := a0) rfl hq) kk
theorem ax_istore_n2' {a0 a1 z : Option Value} {x : Int32} (hd : decode Y.2.1 pc = .ok (.istore_n 2, 1)) (hn : 2 < Y.2.2.1) (hq : nc1 a1 = true) (kk : AX G d Y (pc + 1) (a0 :: a1 :: some (.int x) :: ls) (st) h mc ms Post) : AX G d Y pc (a0 :: a1 :: z :: ls) ((.int x) :: st) h mc ms Post :=
  ax_istore_n0 (ls := a0 :: a1 :: z :: ls) (i := 2) hd rfl hn (nc_at (i := 1) (a := a1) rfl hq) kk
theorem ax_astore_n2' {a0 a1 z : Option Value} {x : Nat} (hd : decode Y.2.1 pc = .ok (.astore_n 2, 1)) (hn : 2 < Y.2.2.1) (hq : nc1 a1 = true) (kk : AX G d Y (pc + 1) (a0 :: a1 :: some (.ref x) :: ls) (st) h mc ms Post) : AX G d Y pc (a0 :: a1 :: z :: ls) ((.ref x) :: st) h mc ms Post :=
  ax_astore_n0 (ls := a0 :: a1 :: z :: ls) (i := 2) hd rfl hn (nc_at (i := 1) (a := a1) rfl hq) kk
theorem ax_astoreN_n2' {a0 a1 z : Option Value} (hd : decode Y.2.1 pc = .ok (.astore_n 2, 1)) (hn : 2 < Y.2.2.1) (hq : nc1 a1 = true) (kk : AX G d Y (pc + 1) (a0 :: a1 :: some .null :: ls) (st) h mc ms Post) : AX G d Y pc (a0 :: a1 :: z :: ls) (.null :: st) h mc ms Post :=
  ax_astoreN_n0 (ls := a0 :: a1 :: z :: ls) (i := 2) hd rfl hn (nc_at (i := 1) (a := a1) rfl hq) kk
theorem ax_iinc_2' {a0 a1 : Option Value} {n : Int} {x v : Int32} (hd : decode Y.2.1 pc = .ok (.iinc 2 n, 3)) (hv : Int32.ofInt n = v) (hn : 2 < Y.2.2.1) (hq : nc1 a1 = true) (kk : AX G d Y (pc + 3) (a0 :: a1 :: some (.int (x + v)) :: ls) (st) h mc ms Post) : AX G d Y pc (a0 :: a1 :: some (.int x) :: ls) (st) h mc ms Post :=
  ax_iinc_0 (ls := a0 :: a1 :: some (.int x) :: ls) (i := 2) hd rfl hv hn (nc_at (i := 1) (a := a1) rfl hq) kk
theorem ax_istore_n3' {a0 a1 a2 z : Option Value} {x : Int32} (hd : decode Y.2.1 pc = .ok (.istore_n 3, 1)) (hn : 3 < Y.2.2.1) (hq : nc1 a2 = true) (kk : AX G d Y (pc + 1) (a0 :: a1 :: a2 :: some (.int x) :: ls) (st) h mc ms Post) : AX G d Y pc (a0 :: a1 :: a2 :: z :: ls) ((.int x) :: st) h mc ms Post :=
  ax_istore_n0 (ls := a0 :: a1 :: a2 :: z :: ls) (i := 3) hd rfl hn (nc_at (i := 2) (a := a2) rfl hq) kk
theorem ax_astore_n3' {a0 a1 a2 z : Option Value} {x : Nat} (hd : decode Y.2.1 pc = .ok (.astore_n 3, 1)) (hn : 3 < Y.2.2.1) (hq : nc1 a2 = true) (kk : AX G d Y (pc + 1) (a0 :: a1 :: a2 :: some (.ref x) :: ls) (st) h mc ms Post) : AX G d Y pc (a0 :: a1 :: a2 :: z :: ls) ((.ref x) :: st) h mc ms Post :=
  ax_astore_n0 (ls := a0 :: a1 :: a2 :: z :: ls) (i := 3) hd rfl hn (nc_at (i := 2) (a := a2) rfl hq) kk
theorem ax_astoreN_n3' {a0 a1 a2 z : Option Value} (hd : decode Y.2.1 pc = .ok (.astore_n 3, 1)) (hn : 3 < Y.2.2.1) (hq : nc1 a2 = true) (kk : AX G d Y (pc + 1) (a0 :: a1 :: a2 :: some .null :: ls) (st) h mc ms Post) : AX G d Y pc (a0 :: a1 :: a2 :: z :: ls) (.null :: st) h mc ms Post :=
  ax_astoreN_n0 (ls := a0 :: a1 :: a2 :: z :: ls) (i := 3) hd rfl hn (nc_at (i := 2) (a := a2) rfl hq) kk
theorem ax_iinc_3' {a0 a1 a2 : Option Value} {n : Int} {x v : Int32} (hd : decode Y.2.1 pc = .ok (.iinc 3 n, 3)) (hv : Int32.ofInt n = v) (hn : 3 < Y.2.2.1) (hq : nc1 a2 = true) (kk : AX G d Y (pc + 3) (a0 :: a1 :: a2 :: some (.int (x + v)) :: ls) (st) h mc ms Post) : AX G d Y pc (a0 :: a1 :: a2 :: some (.int x) :: ls) (st) h mc ms Post :=
  ax_iinc_0 (ls := a0 :: a1 :: a2 :: some (.int x) :: ls) (i := 3) hd rfl hv hn (nc_at (i := 2) (a := a2) rfl hq) kk
theorem ax_istore_4' {a0 a1 a2 a3 z : Option Value} {x : Int32} (hd : decode Y.2.1 pc = .ok (.istore 4, 2)) (hn : 4 < Y.2.2.1) (hq : nc1 a3 = true) (kk : AX G d Y (pc + 2) (a0 :: a1 :: a2 :: a3 :: some (.int x) :: ls) (st) h mc ms Post) : AX G d Y pc (a0 :: a1 :: a2 :: a3 :: z :: ls) ((.int x) :: st) h mc ms Post :=
  ax_istore_0 (ls := a0 :: a1 :: a2 :: a3 :: z :: ls) (i := 4) hd hn (nc_at (i := 3) (a := a3) rfl hq) kk
theorem ax_astore_4' {a0 a1 a2 a3 z : Option Value} {x : Nat} (hd : decode Y.2.1 pc = .ok (.astore 4, 2)) (hn : 4 < Y.2.2.1) (hq : nc1 a3 = true) (kk : AX G d Y (pc + 2) (a0 :: a1 :: a2 :: a3 :: some (.ref x) :: ls) (st) h mc ms Post) : AX G d Y pc (a0 :: a1 :: a2 :: a3 :: z :: ls) ((.ref x) :: st) h mc ms Post :=
  ax_astore_0 (ls := a0 :: a1 :: a2 :: a3 :: z :: ls) (i := 4) hd hn (nc_at (i := 3) (a := a3) rfl hq) kk
theorem ax_astoreN_4' {a0 a1 a2 a3 z : Option Value} (hd : decode Y.2.1 pc = .ok (.astore 4, 2)) (hn : 4 < Y.2.2.1) (hq : nc1 a3 = true) (kk : AX G d Y (pc + 2) (a0 :: a1 :: a2 :: a3 :: some .null :: ls) (st) h mc ms Post) : AX G d Y pc (a0 :: a1 :: a2 :: a3 :: z :: ls) (.null :: st) h mc ms Post :=
  ax_astoreN_0 (ls := a0 :: a1 :: a2 :: a3 :: z :: ls) (i := 4) hd hn (nc_at (i := 3) (a := a3) rfl hq) kk
theorem ax_iinc_4' {a0 a1 a2 a3 : Option Value} {n : Int} {x v : Int32} (hd : decode Y.2.1 pc = .ok (.iinc 4 n, 3)) (hv : Int32.ofInt n = v) (hn : 4 < Y.2.2.1) (hq : nc1 a3 = true) (kk : AX G d Y (pc + 3) (a0 :: a1 :: a2 :: a3 :: some (.int (x + v)) :: ls) (st) h mc ms Post) : AX G d Y pc (a0 :: a1 :: a2 :: a3 :: some (.int x) :: ls) (st) h mc ms Post :=
  ax_iinc_0 (ls := a0 :: a1 :: a2 :: a3 :: some (.int x) :: ls) (i := 4) hd rfl hv hn (nc_at (i := 3) (a := a3) rfl hq) kk
theorem ax_istore_5' {a0 a1 a2 a3 a4 z : Option Value} {x : Int32} (hd : decode Y.2.1 pc = .ok (.istore 5, 2)) (hn : 5 < Y.2.2.1) (hq : nc1 a4 = true) (kk : AX G d Y (pc + 2) (a0 :: a1 :: a2 :: a3 :: a4 :: some (.int x) :: ls) (st) h mc ms Post) : AX G d Y pc (a0 :: a1 :: a2 :: a3 :: a4 :: z :: ls) ((.int x) :: st) h mc ms Post :=
  ax_istore_0 (ls := a0 :: a1 :: a2 :: a3 :: a4 :: z :: ls) (i := 5) hd hn (nc_at (i := 4) (a := a4) rfl hq) kk
theorem ax_astore_5' {a0 a1 a2 a3 a4 z : Option Value} {x : Nat} (hd : decode Y.2.1 pc = .ok (.astore 5, 2)) (hn : 5 < Y.2.2.1) (hq : nc1 a4 = true) (kk : AX G d Y (pc + 2) (a0 :: a1 :: a2 :: a3 :: a4 :: some (.ref x) :: ls) (st) h mc ms Post) : AX G d Y pc (a0 :: a1 :: a2 :: a3 :: a4 :: z :: ls) ((.ref x) :: st) h mc ms Post :=
  ax_astore_0 (ls := a0 :: a1 :: a2 :: a3 :: a4 :: z :: ls) (i := 5) hd hn (nc_at (i := 4) (a := a4) rfl hq) kk
theorem ax_astoreN_5' {a0 a1 a2 a3 a4 z : Option Value} (hd : decode Y.2.1 pc = .ok (.astore 5, 2)) (hn : 5 < Y.2.2.1) (hq : nc1 a4 = true) (kk : AX G d Y (pc + 2) (a0 :: a1 :: a2 :: a3 :: a4 :: some .null :: ls) (st) h mc ms Post) : AX G d Y pc (a0 :: a1 :: a2 :: a3 :: a4 :: z :: ls) (.null :: st) h mc ms Post :=
  ax_astoreN_0 (ls := a0 :: a1 :: a2 :: a3 :: a4 :: z :: ls) (i := 5) hd hn (nc_at (i := 4) (a := a4) rfl hq) kk
theorem ax_iinc_5' {a0 a1 a2 a3 a4 : Option Value} {n : Int} {x v : Int32} (hd : decode Y.2.1 pc = .ok (.iinc 5 n, 3)) (hv : Int32.ofInt n = v) (hn : 5 < Y.2.2.1) (hq : nc1 a4 = true) (kk : AX G d Y (pc + 3) (a0 :: a1 :: a2 :: a3 :: a4 :: some (.int (x + v)) :: ls) (st) h mc ms Post) : AX G d Y pc (a0 :: a1 :: a2 :: a3 :: a4 :: some (.int x) :: ls) (st) h mc ms Post :=
  ax_iinc_0 (ls := a0 :: a1 :: a2 :: a3 :: a4 :: some (.int x) :: ls) (i := 5) hd rfl hv hn (nc_at (i := 4) (a := a4) rfl hq) kk
theorem ax_istore_6' {a0 a1 a2 a3 a4 a5 z : Option Value} {x : Int32} (hd : decode Y.2.1 pc = .ok (.istore 6, 2)) (hn : 6 < Y.2.2.1) (hq : nc1 a5 = true) (kk : AX G d Y (pc + 2) (a0 :: a1 :: a2 :: a3 :: a4 :: a5 :: some (.int x) :: ls) (st) h mc ms Post) : AX G d Y pc (a0 :: a1 :: a2 :: a3 :: a4 :: a5 :: z :: ls) ((.int x) :: st) h mc ms Post :=
  ax_istore_0 (ls := a0 :: a1 :: a2 :: a3 :: a4 :: a5 :: z :: ls) (i := 6) hd hn (nc_at (i := 5) (a := a5) rfl hq) kk
theorem ax_astore_6' {a0 a1 a2 a3 a4 a5 z : Option Value} {x : Nat} (hd : decode Y.2.1 pc = .ok (.astore 6, 2)) (hn : 6 < Y.2.2.1) (hq : nc1 a5 = true) (kk : AX G d Y (pc + 2) (a0 :: a1 :: a2 :: a3 :: a4 :: a5 :: some (.ref x) :: ls) (st) h mc ms Post) : AX G d Y pc (a0 :: a1 :: a2 :: a3 :: a4 :: a5 :: z :: ls) ((.ref x) :: st) h mc ms Post :=
  ax_astore_0 (ls := a0 :: a1 :: a2 :: a3 :: a4 :: a5 :: z :: ls) (i := 6) hd hn (nc_at (i := 5) (a := a5) rfl hq) kk
theorem ax_astoreN_6' {a0 a1 a2 a3 a4 a5 z : Option Value} (hd : decode Y.2.1 pc = .ok (.astore 6, 2)) (hn : 6 < Y.2.2.1) (hq : nc1 a5 = true) (kk : AX G d Y (pc + 2) (a0 :: a1 :: a2 :: a3 :: a4 :: a5 :: some .null :: ls) (st) h mc ms Post) : AX G d Y pc (a0 :: a1 :: a2 :: a3 :: a4 :: a5 :: z :: ls) (.null :: st) h mc ms Post :=
  ax_astoreN_0 (ls := a0 :: a1 :: a2 :: a3 :: a4 :: a5 :: z :: ls) (i := 6) hd hn (nc_at (i := 5) (a := a5) rfl hq) kk
theorem ax_iinc_6' {a0 a1 a2 a3 a4 a5 : Option Value} {n : Int} {x v : Int32} (hd : decode Y.2.1 pc = .ok (.iinc 6 n, 3)) (hv : Int32.ofInt n = v) (hn : 6 < Y.2.2.1) (hq : nc1 a5 = true) (kk : AX G d Y (pc + 3) (a0 :: a1 :: a2 :: a3 :: a4 :: a5 :: some (.int (x + v)) :: ls) (st) h mc ms Post) : AX G d Y pc (a0 :: a1 :: a2 :: a3 :: a4 :: a5 :: some (.int x) :: ls) (st) h mc ms Post :=
  ax_iinc_0 (ls := a0 :: a1 :: a2 :: a3 :: a4 :: a5 :: some (.int x) :: ls) (i := 6) hd rfl hv hn (nc_at (i := 5) (a := a5) rfl hq) kk
theorem ax_istore_7' {a0 a1 a2 a3 a4 a5 a6 z : Option Value} {x : Int32} (hd : decode Y.2.1 pc = .ok (.istore 7, 2)) (hn : 7 < Y.2.2.1) (hq : nc1 a6 = true) (kk : AX G d Y (pc + 2) (a0 :: a1 :: a2 :: a3 :: a4 :: a5 :: a6 :: some (.int x) :: ls) (st) h mc ms Post) : AX G d Y pc (a0 :: a1 :: a2 :: a3 :: a4 :: a5 :: a6 :: z :: ls) ((.int x) :: st) h mc ms Post :=
  ax_istore_0 (ls := a0 :: a1 :: a2 :: a3 :: a4 :: a5 :: a6 :: z :: ls) (i := 7) hd hn (nc_at (i := 6) (a := a6) rfl hq) kk
theorem ax_astore_7' {a0 a1 a2 a3 a4 a5 a6 z : Option Value} {x : Nat} (hd : decode Y.2.1 pc = .ok (.astore 7, 2)) (hn : 7 < Y.2.2.1) (hq : nc1 a6 = true) (kk : AX G d Y (pc + 2) (a0 :: a1 :: a2 :: a3 :: a4 :: a5 :: a6 :: some (.ref x) :: ls) (st) h mc ms Post) : AX G d Y pc (a0 :: a1 :: a2 :: a3 :: a4 :: a5 :: a6 :: z :: ls) ((.ref x) :: st) h mc ms Post :=
  ax_astore_0 (ls := a0 :: a1 :: a2 :: a3 :: a4 :: a5 :: a6 :: z :: ls) (i := 7) hd hn (nc_at (i := 6) (a := a6) rfl hq) kk
theorem ax_astoreN_7' {a0 a1 a2 a3 a4 a5 a6 z : Option Value} (hd : decode Y.2.1 pc = .ok (.astore 7, 2)) (hn : 7 < Y.2.2.1) (hq : nc1 a6 = true) (kk : AX G d Y (pc + 2) (a0 :: a1 :: a2 :: a3 :: a4 :: a5 :: a6 :: some .null :: ls) (st) h mc ms Post) : AX G d Y pc (a0 :: a1 :: a2 :: a3 :: a4 :: a5 :: a6 :: z :: ls) (.null :: st) h mc ms Post :=
  ax_astoreN_0 (ls := a0 :: a1 :: a2 :: a3 :: a4 :: a5 :: a6 :: z :: ls) (i := 7) hd hn (nc_at (i := 6) (a := a6) rfl hq) kk
theorem ax_iinc_7' {a0 a1 a2 a3 a4 a5 a6 : Option Value} {n : Int} {x v : Int32} (hd : decode Y.2.1 pc = .ok (.iinc 7 n, 3)) (hv : Int32.ofInt n = v) (hn : 7 < Y.2.2.1) (hq : nc1 a6 = true) (kk : AX G d Y (pc + 3) (a0 :: a1 :: a2 :: a3 :: a4 :: a5 :: a6 :: some (.int (x + v)) :: ls) (st) h mc ms Post) : AX G d Y pc (a0 :: a1 :: a2 :: a3 :: a4 :: a5 :: a6 :: some (.int x) :: ls) (st) h mc ms Post :=
  ax_iinc_0 (ls := a0 :: a1 :: a2 :: a3 :: a4 :: a5 :: a6 :: some (.int x) :: ls) (i := 7) hd rfl hv hn (nc_at (i := 6) (a := a6) rfl hq) kk
theorem ax_istore_8' {a0 a1 a2 a3 a4 a5 a6 a7 z : Option Value} {x : Int32} (hd : decode Y.2.1 pc = .ok (.istore 8, 2)) (hn : 8 < Y.2.2.1) (hq : nc1 a7 = true) (kk : AX G d Y (pc + 2) (a0 :: a1 :: a2 :: a3 :: a4 :: a5 :: a6 :: a7 :: some (.int x) :: ls) (st) h mc ms Post) : AX G d Y pc (a0 :: a1 :: a2 :: a3 :: a4 :: a5 :: a6 :: a7 :: z :: ls) ((.int x) :: st) h mc ms Post :=
  ax_istore_0 (ls := a0 :: a1 :: a2 :: a3 :: a4 :: a5 :: a6 :: a7 :: z :: ls) (i := 8) hd hn (nc_at (i := 7) (a := a7) rfl hq) kk
theorem ax_astore_8' {a0 a1 a2 a3 a4 a5 a6 a7 z : Option Value} {x : Nat} (hd : decode Y.2.1 pc = .ok (.astore 8, 2)) (hn : 8 < Y.2.2.1) (hq : nc1 a7 = true) (kk : AX G d Y (pc + 2) (a0 :: a1 :: a2 :: a3 :: a4 :: a5 :: a6 :: a7 :: some (.ref x) :: ls) (st) h mc ms Post) : AX G d Y pc (a0 :: a1 :: a2 :: a3 :: a4 :: a5 :: a6 :: a7 :: z :: ls) ((.ref x) :: st) h mc ms Post :=
  ax_astore_0 (ls := a0 :: a1 :: a2 :: a3 :: a4 :: a5 :: a6 :: a7 :: z :: ls) (i := 8) hd hn (nc_at (i := 7) (a := a7) rfl hq) kk
theorem ax_astoreN_8' {a0 a1 a2 a3 a4 a5 a6 a7 z : Option Value} (hd : decode Y.2.1 pc = .ok (.astore 8, 2)) (hn : 8 < Y.2.2.1) (hq : nc1 a7 = true) (kk : AX G d Y (pc + 2) (a0 :: a1 :: a2 :: a3 :: a4 :: a5 :: a6 :: a7 :: some .null :: ls) (st) h mc ms Post) : AX G d Y pc (a0 :: a1 :: a2 :: a3 :: a4 :: a5 :: a6 :: a7 :: z :: ls) (.null :: st) h mc ms Post :=
  ax_astoreN_0 (ls := a0 :: a1 :: a2 :: a3 :: a4 :: a5 :: a6 :: a7 :: z :: ls) (i := 8) hd hn (nc_at (i := 7) (a := a7) rfl hq) kk
theorem ax_iinc_8' {a0 a1 a2 a3 a4 a5 a6 a7 : Option Value} {n : Int} {x v : Int32} (hd : decode Y.2.1 pc = .ok (.iinc 8 n, 3)) (hv : Int32.ofInt n = v) (hn : 8 < Y.2.2.1) (hq : nc1 a7 = true) (kk : AX G d Y (pc + 3) (a0 :: a1 :: a2 :: a3 :: a4 :: a5 :: a6 :: a7 :: some (.int (x + v)) :: ls) (st) h mc ms Post) : AX G d Y pc (a0 :: a1 :: a2 :: a3 :: a4 :: a5 :: a6 :: a7 :: some (.int x) :: ls) (st) h mc ms Post :=
  ax_iinc_0 (ls := a0 :: a1 :: a2 :: a3 :: a4 :: a5 :: a6 :: a7 :: some (.int x) :: ls) (i := 8) hd rfl hv hn (nc_at (i := 7) (a := a7) rfl hq) kk
theorem ax_istore_9' {a0 a1 a2 a3 a4 a5 a6 a7 a8 z : Option Value} {x : Int32} (hd : decode Y.2.1 pc = .ok (.istore 9, 2)) (hn : 9 < Y.2.2.1) (hq : nc1 a8 = true) (kk : AX G d Y (pc + 2) (a0 :: a1 :: a2 :: a3 :: a4 :: a5 :: a6 :: a7 :: a8 :: some (.int x) :: ls) (st) h mc ms Post) : AX G d Y pc (a0 :: a1 :: a2 :: a3 :: a4 :: a5 :: a6 :: a7 :: a8 :: z :: ls) ((.int x) :: st) h mc ms Post :=
  ax_istore_0 (ls := a0 :: a1 :: a2 :: a3 :: a4 :: a5 :: a6 :: a7 :: a8 :: z :: ls) (i := 9) hd hn (nc_at (i := 8) (a := a8) rfl hq) kk
theorem ax_astore_9' {a0 a1 a2 a3 a4 a5 a6 a7 a8 z : Option Value} {x : Nat} (hd : decode Y.2.1 pc = .ok (.astore 9, 2)) (hn : 9 < Y.2.2.1) (hq : nc1 a8 = true) (kk : AX G d Y (pc + 2) (a0 :: a1 :: a2 :: a3 :: a4 :: a5 :: a6 :: a7 :: a8 :: some (.ref x) :: ls) (st) h mc ms Post) : AX G d Y pc (a0 :: a1 :: a2 :: a3 :: a4 :: a5 :: a6 :: a7 :: a8 :: z :: ls) ((.ref x) :: st) h mc ms Post :=
  ax_astore_0 (ls := a0 :: a1 :: a2 :: a3 :: a4 :: a5 :: a6 :: a7 :: a8 :: z :: ls) (i := 9) hd hn (nc_at (i := 8) (a := a8) rfl hq) kk
theorem ax_astoreN_9' {a0 a1 a2 a3 a4 a5 a6 a7 a8 z : Option Value} (hd : decode Y.2.1 pc = .ok (.astore 9, 2)) (hn : 9 < Y.2.2.1) (hq : nc1 a8 = true) (kk : AX G d Y (pc + 2) (a0 :: a1 :: a2 :: a3 :: a4 :: a5 :: a6 :: a7 :: a8 :: some .null :: ls) (st) h mc ms Post) : AX G d Y pc (a0 :: a1 :: a2 :: a3 :: a4 :: a5 :: a6 :: a7 :: a8 :: z :: ls) (.null :: st) h mc ms Post :=
  ax_astoreN_0 (ls := a0 :: a1 :: a2 :: a3 :: a4 :: a5 :: a6 :: a7 :: a8 :: z :: ls) (i := 9) hd hn (nc_at (i := 8) (a := a8) rfl hq) kk
theorem ax_iinc_9' {a0 a1 a2 a3 a4 a5 a6 a7 a8 : Option Value} {n : Int} {x v : Int32} (hd : decode Y.2.1 pc = .ok (.iinc 9 n, 3)) (hv : Int32.ofInt n = v) (hn : 9 < Y.2.2.1) (hq : nc1 a8 = true) (kk : AX G d Y (pc + 3) (a0 :: a1 :: a2 :: a3 :: a4 :: a5 :: a6 :: a7 :: a8 :: some (.int (x + v)) :: ls) (st) h mc ms Post) : AX G d Y pc (a0 :: a1 :: a2 :: a3 :: a4 :: a5 :: a6 :: a7 :: a8 :: some (.int x) :: ls) (st) h mc ms Post :=
  ax_iinc_0 (ls := a0 :: a1 :: a2 :: a3 :: a4 :: a5 :: a6 :: a7 :: a8 :: some (.int x) :: ls) (i := 9) hd rfl hv hn (nc_at (i := 8) (a := a8) rfl hq) kk
theorem ax_istore_10' {a0 a1 a2 a3 a4 a5 a6 a7 a8 a9 z : Option Value} {x : Int32} (hd : decode Y.2.1 pc = .ok (.istore 10, 2)) (hn : 10 < Y.2.2.1) (hq : nc1 a9 = true) (kk : AX G d Y (pc + 2) (a0 :: a1 :: a2 :: a3 :: a4 :: a5 :: a6 :: a7 :: a8 :: a9 :: some (.int x) :: ls) (st) h mc ms Post) : AX G d Y pc (a0 :: a1 :: a2 :: a3 :: a4 :: a5 :: a6 :: a7 :: a8 :: a9 :: z :: ls) ((.int x) :: st) h mc ms Post :=
  ax_istore_0 (ls := a0 :: a1 :: a2 :: a3 :: a4 :: a5 :: a6 :: a7 :: a8 :: a9 :: z :: ls) (i := 10) hd hn (nc_at (i := 9) (a := a9) rfl hq) kk
theorem ax_astore_10' {a0 a1 a2 a3 a4 a5 a6 a7 a8 a9 z : Option Value} {x : Nat} (hd : decode Y.2.1 pc = .ok (.astore 10, 2)) (hn : 10 < Y.2.2.1) (hq : nc1 a9 = true) (kk : AX G d Y (pc + 2) (a0 :: a1 :: a2 :: a3 :: a4 :: a5 :: a6 :: a7 :: a8 :: a9 :: some (.ref x) :: ls) (st) h mc ms Post) : AX G d Y pc (a0 :: a1 :: a2 :: a3 :: a4 :: a5 :: a6 :: a7 :: a8 :: a9 :: z :: ls) ((.ref x) :: st) h mc ms Post :=
  ax_astore_0 (ls := a0 :: a1 :: a2 :: a3 :: a4 :: a5 :: a6 :: a7 :: a8 :: a9 :: z :: ls) (i := 10) hd hn (nc_at (i := 9) (a := a9) rfl hq) kk
theorem ax_astoreN_10' {a0 a1 a2 a3 a4 a5 a6 a7 a8 a9 z : Option Value} (hd : decode Y.2.1 pc = .ok (.astore 10, 2)) (hn : 10 < Y.2.2.1) (hq : nc1 a9 = true) (kk : AX G d Y (pc + 2) (a0 :: a1 :: a2 :: a3 :: a4 :: a5 :: a6 :: a7 :: a8 :: a9 :: some .null :: ls) (st) h mc ms Post) : AX G d Y pc (a0 :: a1 :: a2 :: a3 :: a4 :: a5 :: a6 :: a7 :: a8 :: a9 :: z :: ls) (.null :: st) h mc ms Post :=
  ax_astoreN_0 (ls := a0 :: a1 :: a2 :: a3 :: a4 :: a5 :: a6 :: a7 :: a8 :: a9 :: z :: ls) (i := 10) hd hn (nc_at (i := 9) (a := a9) rfl hq) kk
theorem ax_iinc_10' {a0 a1 a2 a3 a4 a5 a6 a7 a8 a9 : Option Value} {n : Int} {x v : Int32} (hd : decode Y.2.1 pc = .ok (.iinc 10 n, 3)) (hv : Int32.ofInt n = v) (hn : 10 < Y.2.2.1) (hq : nc1 a9 = true) (kk : AX G d Y (pc + 3) (a0 :: a1 :: a2 :: a3 :: a4 :: a5 :: a6 :: a7 :: a8 :: a9 :: some (.int (x + v)) :: ls) (st) h mc ms Post) : AX G d Y pc (a0 :: a1 :: a2 :: a3 :: a4 :: a5 :: a6 :: a7 :: a8 :: a9 :: some (.int x) :: ls) (st) h mc ms Post :=
  ax_iinc_0 (ls := a0 :: a1 :: a2 :: a3 :: a4 :: a5 :: a6 :: a7 :: a8 :: a9 :: some (.int x) :: ls) (i := 10) hd rfl hv hn (nc_at (i := 9) (a := a9) rfl hq) kk
theorem ax_istore_11' {a0 a1 a2 a3 a4 a5 a6 a7 a8 a9 a10 z : Option Value} {x : Int32} (hd : decode Y.2.1 pc = .ok (.istore 11, 2)) (hn : 11 < Y.2.2.1) (hq : nc1 a10 = true) (kk : AX G d Y (pc + 2) (a0 :: a1 :: a2 :: a3 :: a4 :: a5 :: a6 :: a7 :: a8 :: a9 :: a10 :: some (.int x) :: ls) (st) h mc ms Post) : AX G d Y pc (a0 :: a1 :: a2 :: a3 :: a4 :: a5 :: a6 :: a7 :: a8 :: a9 :: a10 :: z :: ls) ((.int x) :: st) h mc ms Post :=
  ax_istore_0 (ls := a0 :: a1 :: a2 :: a3 :: a4 :: a5 :: a6 :: a7 :: a8 :: a9 :: a10 :: z :: ls) (i := 11) hd hn (nc_at (i := 10) (a := a10) rfl hq) kk
theorem ax_astore_11' {a0 a1 a2 a3 a4 a5 a6 a7 a8 a9 a10 z : Option Value} {x : Nat} (hd : decode Y.2.1 pc = .ok (.astore 11, 2)) (hn : 11 < Y.2.2.1) (hq : nc1 a10 = true) (kk : AX G d Y (pc + 2) (a0 :: a1 :: a2 :: a3 :: a4 :: a5 :: a6 :: a7 :: a8 :: a9 :: a10 :: some (.ref x) :: ls) (st) h mc ms Post) : AX G d Y pc (a0 :: a1 :: a2 :: a3 :: a4 :: a5 :: a6 :: a7 :: a8 :: a9 :: a10 :: z :: ls) ((.ref x) :: st) h mc ms Post :=
  ax_astore_0 (ls := a0 :: a1 :: a2 :: a3 :: a4 :: a5 :: a6 :: a7 :: a8 :: a9 :: a10 :: z :: ls) (i := 11) hd hn (nc_at (i := 10) (a := a10) rfl hq) kk
theorem ax_astoreN_11' {a0 a1 a2 a3 a4 a5 a6 a7 a8 a9 a10 z : Option Value} (hd : decode Y.2.1 pc = .ok (.astore 11, 2)) (hn : 11 < Y.2.2.1) (hq : nc1 a10 = true) (kk : AX G d Y (pc + 2) (a0 :: a1 :: a2 :: a3 :: a4 :: a5 :: a6 :: a7 :: a8 :: a9 :: a10 :: some .null :: ls) (st) h mc ms Post) : AX G d Y pc (a0 :: a1 :: a2 :: a3 :: a4 :: a5 :: a6 :: a7 :: a8 :: a9 :: a10 :: z :: ls) (.null :: st) h mc ms Post :=
  ax_astoreN_0 (ls := a0 :: a1 :: a2 :: a3 :: a4 :: a5 :: a6 :: a7 :: a8 :: a9 :: a10 :: z :: ls) (i := 11) hd hn (nc_at (i := 10) (a := a10) rfl hq) kk
theorem ax_iinc_11' {a0 a1 a2 a3 a4 a5 a6 a7 a8 a9 a10 : Option Value} {n : Int} {x v : Int32} (hd : decode Y.2.1 pc = .ok (.iinc 11 n, 3)) (hv : Int32.ofInt n = v) (hn : 11 < Y.2.2.1) (hq : nc1 a10 = true) (kk : AX G d Y (pc + 3) (a0 :: a1 :: a2 :: a3 :: a4 :: a5 :: a6 :: a7 :: a8 :: a9 :: a10 :: some (.int (x + v)) :: ls) (st) h mc ms Post) : AX G d Y pc (a0 :: a1 :: a2 :: a3 :: a4 :: a5 :: a6 :: a7 :: a8 :: a9 :: a10 :: some (.int x) :: ls) (st) h mc ms Post :=
  ax_iinc_0 (ls := a0 :: a1 :: a2 :: a3 :: a4 :: a5 :: a6 :: a7 :: a8 :: a9 :: a10 :: some (.int x) :: ls) (i := 11) hd rfl hv hn (nc_at (i := 10) (a := a10) rfl hq) kk
theorem ax_iadd {x y : Int32} (hd : decode Y.2.1 pc = .ok (.iadd, 1)) (k : AX G d Y (pc + 1) ls (.int (x + y) :: st) h mc ms Post) : AX G d Y pc ls (.int y :: .int x :: st) h mc ms Post :=
  fun p e R s m args below meth c Q H locs cells slots jl ac hp hS hl hc hs kr => lv_iadd ac.1 ac.2.1 hd (k p e R s m args below meth c Q H locs cells slots jl ac hp hS hl hc hs kr)
theorem ax_isub {x y : Int32} (hd : decode Y.2.1 pc = .ok (.isub, 1)) (k : AX G d Y (pc + 1) ls (.int (x - y) :: st) h mc ms Post) : AX G d Y pc ls (.int y :: .int x :: st) h mc ms Post :=
  fun p e R s m args below meth c Q H locs cells slots jl ac hp hS hl hc hs kr => lv_isub ac.1 ac.2.1 hd (k p e R s m args below meth c Q H locs cells slots jl ac hp hS hl hc hs kr)
theorem ax_imul {x y : Int32} (hd : decode Y.2.1 pc = .ok (.imul, 1)) (k : AX G d Y (pc + 1) ls (.int (x * y) :: st) h mc ms Post) : AX G d Y pc ls (.int y :: .int x :: st) h mc ms Post :=
  fun p e R s m args below meth c Q H locs cells slots jl ac hp hS hl hc hs kr => lv_imul ac.1 ac.2.1 hd (k p e R s m args below meth c Q H locs cells slots jl ac hp hS hl hc hs kr)
theorem ax_iand {x y : Int32} (hd : decode Y.2.1 pc = .ok (.iand, 1)) (k : AX G d Y (pc + 1) ls (.int (x &&& y) :: st) h mc ms Post) : AX G d Y pc ls (.int y :: .int x :: st) h mc ms Post :=
  fun p e R s m args below meth c Q H locs cells slots jl ac hp hS hl hc hs kr => lv_iand ac.1 ac.2.1 hd (k p e R s m args below meth c Q H locs cells slots jl ac hp hS hl hc hs kr)
theorem ax_ior {x y : Int32} (hd : decode Y.2.1 pc = .ok (.ior, 1)) (k : AX G d Y (pc + 1) ls (.int (x ||| y) :: st) h mc ms Post) : AX G d Y pc ls (.int y :: .int x :: st) h mc ms Post :=
  fun p e R s m args below meth c Q H locs cells slots jl ac hp hS hl hc hs kr => lv_ior ac.1 ac.2.1 hd (k p e R s m args below meth c Q H locs cells slots jl ac hp hS hl hc hs kr)
theorem ax_ishl {x y : Int32} (hd : decode Y.2.1 pc = .ok (.ishl, 1)) (k : AX G d Y (pc + 1) ls (.int (x <<< (y &&& 31)) :: st) h mc ms Post) : AX G d Y pc ls (.int y :: .int x :: st) h mc ms Post :=
  fun p e R s m args below meth c Q H locs cells slots jl ac hp hS hl hc hs kr => lv_ishl ac.1 ac.2.1 hd (k p e R s m args below meth c Q H locs cells slots jl ac hp hS hl hc hs kr)
theorem ax_ishr {x y : Int32} (hd : decode Y.2.1 pc = .ok (.ishr, 1)) (k : AX G d Y (pc + 1) ls (.int (x >>> (y &&& 31)) :: st) h mc ms Post) : AX G d Y pc ls (.int y :: .int x :: st) h mc ms Post :=
  fun p e R s m args below meth c Q H locs cells slots jl ac hp hS hl hc hs kr => lv_ishr ac.1 ac.2.1 hd (k p e R s m args below meth c Q H locs cells slots jl ac hp hS hl hc hs kr)
theorem ax_idiv {x y : Int32} (hd : decode Y.2.1 pc = .ok (.idiv, 1)) (hne : ¬ y = 0) (k : AX G d Y (pc + 1) ls (.int (x / y) :: st) h mc ms Post) : AX G d Y pc ls (.int y :: .int x :: st) h mc ms Post :=
  fun p e R s m args below meth c Q H locs cells slots jl ac hp hS hl hc hs kr => lv_idiv ac.1 ac.2.1 hd hne (k p e R s m args below meth c Q H locs cells slots jl ac hp hS hl hc hs kr)
theorem ax_irem {x y : Int32} (hd : decode Y.2.1 pc = .ok (.irem, 1)) (hne : ¬ y = 0) (k : AX G d Y (pc + 1) ls (.int (x - x / y * y) :: st) h mc ms Post) : AX G d Y pc ls (.int y :: .int x :: st) h mc ms Post :=
  fun p e R s m args below meth c Q H locs cells slots jl ac hp hS hl hc hs kr => lv_irem ac.1 ac.2.1 hd hne (k p e R s m args below meth c Q H locs cells slots jl ac hp hS hl hc hs kr)
theorem ax_ineg {x : Int32} (hd : decode Y.2.1 pc = .ok (.ineg, 1)) (k : AX G d Y (pc + 1) ls (.int (-x) :: st) h mc ms Post) : AX G d Y pc ls (.int x :: st) h mc ms Post :=
  fun p e R s m args below meth c Q H locs cells slots jl ac hp hS hl hc hs kr => lv_ineg ac.1 ac.2.1 hd (k p e R s m args below meth c Q H locs cells slots jl ac hp hS hl hc hs kr)
theorem ax_ladd {x y : Int64} (hd : decode Y.2.1 pc = .ok (.ladd, 1)) (k : AX G d Y (pc + 1) ls (.long (x + y) :: st) h mc ms Post) : AX G d Y pc ls (.long y :: .long x :: st) h mc ms Post :=
  fun p e R s m args below meth c Q H locs cells slots jl ac hp hS hl hc hs kr => lv_ladd ac.1 ac.2.1 hd (k p e R s m args below meth c Q H locs cells slots jl ac hp hS hl hc hs kr)
theorem ax_land {x y : Int64} (hd : decode Y.2.1 pc = .ok (.land, 1)) (k : AX G d Y (pc + 1) ls (.long (x &&& y) :: st) h mc ms Post) : AX G d Y pc ls (.long y :: .long x :: st) h mc ms Post :=
  fun p e R s m args below meth c Q H locs cells slots jl ac hp hS hl hc hs kr => lv_land ac.1 ac.2.1 hd (k p e R s m args below meth c Q H locs cells slots jl ac hp hS hl hc hs kr)
theorem ax_lor {x y : Int64} (hd : decode Y.2.1 pc = .ok (.lor, 1)) (k : AX G d Y (pc + 1) ls (.long (x ||| y) :: st) h mc ms Post) : AX G d Y pc ls (.long y :: .long x :: st) h mc ms Post :=
  fun p e R s m args below meth c Q H locs cells slots jl ac hp hS hl hc hs kr => lv_lor ac.1 ac.2.1 hd (k p e R s m args below meth c Q H locs cells slots jl ac hp hS hl hc hs kr)
theorem ax_i2l {x : Int32} (hd : decode Y.2.1 pc = .ok (.i2l, 1)) (k : AX G d Y (pc + 1) ls (.long (x.toInt64) :: st) h mc ms Post) : AX G d Y pc ls (.int x :: st) h mc ms Post :=
  fun p e R s m args below meth c Q H locs cells slots jl ac hp hS hl hc hs kr => lv_i2l ac.1 ac.2.1 hd rfl (k p e R s m args below meth c Q H locs cells slots jl ac hp hS hl hc hs kr)
theorem ax_l2i {x : Int64} (hd : decode Y.2.1 pc = .ok (.l2i, 1)) (k : AX G d Y (pc + 1) ls (.int (x.toInt32) :: st) h mc ms Post) : AX G d Y pc ls (.long x :: st) h mc ms Post :=
  fun p e R s m args below meth c Q H locs cells slots jl ac hp hS hl hc hs kr => lv_l2i ac.1 ac.2.1 hd rfl (k p e R s m args below meth c Q H locs cells slots jl ac hp hS hl hc hs kr)
theorem ax_i2b {x : Int32} (hd : decode Y.2.1 pc = .ok (.i2b, 1)) (k : AX G d Y (pc + 1) ls (.int (x.toInt8.toInt32) :: st) h mc ms Post) : AX G d Y pc ls (.int x :: st) h mc ms Post :=
  fun p e R s m args below meth c Q H locs cells slots jl ac hp hS hl hc hs kr => lv_i2b ac.1 ac.2.1 hd rfl (k p e R s m args below meth c Q H locs cells slots jl ac hp hS hl hc hs kr)
theorem ax_i2s {x : Int32} (hd : decode Y.2.1 pc = .ok (.i2s, 1)) (k : AX G d Y (pc + 1) ls (.int (x.toInt16.toInt32) :: st) h mc ms Post) : AX G d Y pc ls (.int x :: st) h mc ms Post :=
  fun p e R s m args below meth c Q H locs cells slots jl ac hp hS hl hc hs kr => lv_i2s ac.1 ac.2.1 hd rfl (k p e R s m args below meth c Q H locs cells slots jl ac hp hS hl hc hs kr)
theorem ax_i2c {x : Int32} (hd : decode Y.2.1 pc = .ok (.i2c, 1)) (k : AX G d Y (pc + 1) ls (.int ((x.toUInt32 % 65536).toInt32) :: st) h mc ms Post) : AX G d Y pc ls (.int x :: st) h mc ms Post :=
  fun p e R s m args below meth c Q H locs cells slots jl ac hp hS hl hc hs kr => lv_i2c ac.1 ac.2.1 hd rfl (k p e R s m args below meth c Q H locs cells slots jl ac hp hS hl hc hs kr)
theorem ax_lushr {x : Int64} {y : Int32} (hd : decode Y.2.1 pc = .ok (.lushr, 1)) (k : AX G d Y (pc + 1) ls (.long ((x.toUInt64 >>> (y.toInt64.toUInt64 &&& Int64.toUInt64 63)).toInt64) :: st) h mc ms Post) : AX G d Y pc ls (.int y :: .long x :: st) h mc ms Post :=
  fun p e R s m args below meth c Q H locs cells slots jl ac hp hS hl hc hs kr => lv_lushr ac.1 ac.2.1 hd rfl (k p e R s m args below meth c Q H locs cells slots jl ac hp hS hl hc hs kr)
theorem ax_lshl {x : Int64} {y : Int32} (hd : decode Y.2.1 pc = .ok (.lshl, 1)) (k : AX G d Y (pc + 1) ls (.long (x <<< (y.toInt64 &&& 63)) :: st) h mc ms Post) : AX G d Y pc ls (.int y :: .long x :: st) h mc ms Post :=
  fun p e R s m args below meth c Q H locs cells slots jl ac hp hS hl hc hs kr => lv_lshl ac.1 ac.2.1 hd rfl (k p e R s m args below meth c Q H locs cells slots jl ac hp hS hl hc hs kr)
theorem ax_lshr {x : Int64} {y : Int32} (hd : decode Y.2.1 pc = .ok (.lshr, 1)) (k : AX G d Y (pc + 1) ls (.long (x >>> (y.toInt64 &&& 63)) :: st) h mc ms Post) : AX G d Y pc ls (.int y :: .long x :: st) h mc ms Post :=
  fun p e R s m args below meth c Q H locs cells slots jl ac hp hS hl hc hs kr => lv_lshr ac.1 ac.2.1 hd rfl (k p e R s m args below meth c Q H locs cells slots jl ac hp hS hl hc hs kr)
theorem ax_lcmp {x y : Int64} (hd : decode Y.2.1 pc = .ok (.lcmp, 1)) (k : AX G d Y (pc + 1) ls (.int (lg_cmp x y) :: st) h mc ms Post) : AX G d Y pc ls (.long y :: .long x :: st) h mc ms Post :=
  fun p e R s m args below meth c Q H locs cells slots jl ac hp hS hl hc hs kr => W.lcmp ac.1 ac.2.1 hd (k p e R s m args below meth c Q H locs cells slots jl ac hp hS hl hc hs kr)
theorem ax_dup {v : Value} (hd : decode Y.2.1 pc = .ok (.dup, 1)) (hv : v.category = 1) (k : AX G d Y (pc + 1) ls (v :: v :: st) h mc ms Post) : AX G d Y pc ls (v :: st) h mc ms Post :=
  fun p e R s m args below meth c Q H locs cells slots jl ac hp hS hl hc hs kr => lv_dup ac.1 ac.2.1 hd hv (k p e R s m args below meth c Q H locs cells slots jl ac hp hS hl hc hs kr)
theorem ax_pop {v : Value} (hd : decode Y.2.1 pc = .ok (.pop, 1)) (hv : v.category = 1) (k : AX G d Y (pc + 1) ls (st) h mc ms Post) : AX G d Y pc ls (v :: st) h mc ms Post :=
  fun p e R s m args below meth c Q H locs cells slots jl ac hp hS hl hc hs kr => lv_pop ac.1 ac.2.1 hd hv (k p e R s m args below meth c Q H locs cells slots jl ac hp hS hl hc hs kr)
theorem ax_dup2 {v w : Value} (hd : decode Y.2.1 pc = .ok (.dup2, 1)) (hv : v.category = 1) (hw : w.category = 1) (k : AX G d Y (pc + 1) ls (v :: w :: v :: w :: st) h mc ms Post) : AX G d Y pc ls (v :: w :: st) h mc ms Post :=
  fun p e R s m args below meth c Q H locs cells slots jl ac hp hS hl hc hs kr => lv_dup2_11 ac.1 ac.2.1 hd hv hw (k p e R s m args below meth c Q H locs cells slots jl ac hp hS hl hc hs kr)
theorem ax_goto {off : Int} {tgt : Nat} (hd : decode Y.2.1 pc = .ok (.goto off, 3)) (ht : (pc : Int) + off = (tgt : Int)) (k : AX G d Y tgt ls (st) h mc ms Post) : AX G d Y pc ls (st) h mc ms Post :=
  fun p e R s m args below meth c Q H locs cells slots jl ac hp hS hl hc hs kr => lv_goto ac.1 ac.2.1 hd ht (k p e R s m args below meth c Q H locs cells slots jl ac hp hS hl hc hs kr)
theorem ax_null (hd : decode Y.2.1 pc = .ok (.aconst_null, 1)) (k : AX G d Y (pc + 1) ls (.null :: st) h mc ms Post) : AX G d Y pc ls (st) h mc ms Post :=
  fun p e R s m args below meth c Q H locs cells slots jl ac hp hS hl hc hs kr => lv_null ac.1 ac.2.1 hd (k p e R s m args below meth c Q H locs cells slots jl ac hp hS hl hc hs kr)
theorem ax_ifnull {x : Nat} {off : Int} (hd : decode Y.2.1 pc = .ok (.ifnull off, 3)) (k : AX G d Y (pc + 3) ls (st) h mc ms Post) : AX G d Y pc ls (.ref x :: st) h mc ms Post :=
  fun p e R s m args below meth c Q H locs cells slots jl ac hp hS hl hc hs kr => lv_ifnull ac.1 ac.2.1 hd (k p e R s m args below meth c Q H locs cells slots jl ac hp hS hl hc hs kr)
theorem ax_ifnullN {off : Int} {tgt : Nat} (hd : decode Y.2.1 pc = .ok (.ifnull off, 3)) (ht : (pc : Int) + off = (tgt : Int)) (k : AX G d Y tgt ls (st) h mc ms Post) : AX G d Y pc ls (.null :: st) h mc ms Post :=
  fun p e R s m args below meth c Q H locs cells slots jl ac hp hS hl hc hs kr => lv_ifnullN ac.1 ac.2.1 hd ht (k p e R s m args below meth c Q H locs cells slots jl ac hp hS hl hc hs kr)
theorem ax_ifnonnull {x : Nat} {off : Int} {tgt : Nat} (hd : decode Y.2.1 pc = .ok (.ifnonnull off, 3)) (ht : (pc : Int) + off = (tgt : Int)) (k : AX G d Y tgt ls (st) h mc ms Post) : AX G d Y pc ls (.ref x :: st) h mc ms Post :=
  fun p e R s m args below meth c Q H locs cells slots jl ac hp hS hl hc hs kr => lv_ifnonnull ac.1 ac.2.1 hd ht (k p e R s m args below meth c Q H locs cells slots jl ac hp hS hl hc hs kr)
theorem ax_ifnonnullN {off : Int} (hd : decode Y.2.1 pc = .ok (.ifnonnull off, 3)) (k : AX G d Y (pc + 3) ls (st) h mc ms Post) : AX G d Y pc ls (.null :: st) h mc ms Post :=
  fun p e R s m args below meth c Q H locs cells slots jl ac hp hS hl hc hs kr => lv_ifnonnullN ac.1 ac.2.1 hd (k p e R s m args below meth c Q H locs cells slots jl ac hp hS hl hc hs kr)
theorem ax_if_eq {x : Int32} {off : Int} {tgt : Nat} (hd : decode Y.2.1 pc = .ok (.ifCond .eq off, 3)) (ht : (pc : Int) + off = (tgt : Int)) (kt : x = 0 → AX G d Y tgt ls (st) h mc ms Post) (kf : ¬ x = 0 → AX G d Y (pc + 3) ls (st) h mc ms Post) : AX G d Y pc ls (.int x :: st) h mc ms Post :=
  fun p e R s m args below meth c Q H locs cells slots jl ac hp hS hl hc hs kr => lv_if_eq ac.1 ac.2.1 hd ht (fun q => kt q p e R s m args below meth c Q H locs cells slots jl ac hp hS hl hc hs kr) (fun q => kf q p e R s m args below meth c Q H locs cells slots jl ac hp hS hl hc hs kr)
theorem ax_if_ne {x : Int32} {off : Int} {tgt : Nat} (hd : decode Y.2.1 pc = .ok (.ifCond .ne off, 3)) (ht : (pc : Int) + off = (tgt : Int)) (kt : ¬ x = 0 → AX G d Y tgt ls (st) h mc ms Post) (kf : x = 0 → AX G d Y (pc + 3) ls (st) h mc ms Post) : AX G d Y pc ls (.int x :: st) h mc ms Post :=
  fun p e R s m args below meth c Q H locs cells slots jl ac hp hS hl hc hs kr => lv_if_ne ac.1 ac.2.1 hd ht (fun q => kt q p e R s m args below meth c Q H locs cells slots jl ac hp hS hl hc hs kr) (fun q => kf q p e R s m args below meth c Q H locs cells slots jl ac hp hS hl hc hs kr)
theorem ax_if_lt {x : Int32} {off : Int} {tgt : Nat} (hd : decode Y.2.1 pc = .ok (.ifCond .lt off, 3)) (ht : (pc : Int) + off = (tgt : Int)) (kt : x < 0 → AX G d Y tgt ls (st) h mc ms Post) (kf : ¬ x < 0 → AX G d Y (pc + 3) ls (st) h mc ms Post) : AX G d Y pc ls (.int x :: st) h mc ms Post :=
  fun p e R s m args below meth c Q H locs cells slots jl ac hp hS hl hc hs kr => lv_if_lt ac.1 ac.2.1 hd ht (fun q => kt q p e R s m args below meth c Q H locs cells slots jl ac hp hS hl hc hs kr) (fun q => kf q p e R s m args below meth c Q H locs cells slots jl ac hp hS hl hc hs kr)
theorem ax_if_ge {x : Int32} {off : Int} {tgt : Nat} (hd : decode Y.2.1 pc = .ok (.ifCond .ge off, 3)) (ht : (pc : Int) + off = (tgt : Int)) (kt : 0 ≤ x → AX G d Y tgt ls (st) h mc ms Post) (kf : ¬ 0 ≤ x → AX G d Y (pc + 3) ls (st) h mc ms Post) : AX G d Y pc ls (.int x :: st) h mc ms Post :=
  fun p e R s m args below meth c Q H locs cells slots jl ac hp hS hl hc hs kr => lv_if_ge ac.1 ac.2.1 hd ht (fun q => kt q p e R s m args below meth c Q H locs cells slots jl ac hp hS hl hc hs kr) (fun q => kf q p e R s m args below meth c Q H locs cells slots jl ac hp hS hl hc hs kr)
theorem ax_if_gt {x : Int32} {off : Int} {tgt : Nat} (hd : decode Y.2.1 pc = .ok (.ifCond .gt off, 3)) (ht : (pc : Int) + off = (tgt : Int)) (kt : 0 < x → AX G d Y tgt ls (st) h mc ms Post) (kf : ¬ 0 < x → AX G d Y (pc + 3) ls (st) h mc ms Post) : AX G d Y pc ls (.int x :: st) h mc ms Post :=
  fun p e R s m args below meth c Q H locs cells slots jl ac hp hS hl hc hs kr => lv_if_gt ac.1 ac.2.1 hd ht (fun q => kt q p e R s m args below meth c Q H locs cells slots jl ac hp hS hl hc hs kr) (fun q => kf q p e R s m args below meth c Q H locs cells slots jl ac hp hS hl hc hs kr)
theorem ax_if_le {x : Int32} {off : Int} {tgt : Nat} (hd : decode Y.2.1 pc = .ok (.ifCond .le off, 3)) (ht : (pc : Int) + off = (tgt : Int)) (kt : x ≤ 0 → AX G d Y tgt ls (st) h mc ms Post) (kf : ¬ x ≤ 0 → AX G d Y (pc + 3) ls (st) h mc ms Post) : AX G d Y pc ls (.int x :: st) h mc ms Post :=
  fun p e R s m args below meth c Q H locs cells slots jl ac hp hS hl hc hs kr => lv_if_le ac.1 ac.2.1 hd ht (fun q => kt q p e R s m args below meth c Q H locs cells slots jl ac hp hS hl hc hs kr) (fun q => kf q p e R s m args below meth c Q H locs cells slots jl ac hp hS hl hc hs kr)
theorem ax_icmp_eq {x y : Int32} {off : Int} {tgt : Nat} (hd : decode Y.2.1 pc = .ok (.if_icmp .eq off, 3)) (ht : (pc : Int) + off = (tgt : Int)) (kt : x = y → AX G d Y tgt ls (st) h mc ms Post) (kf : ¬ x = y → AX G d Y (pc + 3) ls (st) h mc ms Post) : AX G d Y pc ls (.int y :: .int x :: st) h mc ms Post :=
  fun p e R s m args below meth c Q H locs cells slots jl ac hp hS hl hc hs kr => lv_icmp_eq ac.1 ac.2.1 hd ht (fun q => kt q p e R s m args below meth c Q H locs cells slots jl ac hp hS hl hc hs kr) (fun q => kf q p e R s m args below meth c Q H locs cells slots jl ac hp hS hl hc hs kr)
theorem ax_icmp_ne {x y : Int32} {off : Int} {tgt : Nat} (hd : decode Y.2.1 pc = .ok (.if_icmp .ne off, 3)) (ht : (pc : Int) + off = (tgt : Int)) (kt : ¬ x = y → AX G d Y tgt ls (st) h mc ms Post) (kf : x = y → AX G d Y (pc + 3) ls (st) h mc ms Post) : AX G d Y pc ls (.int y :: .int x :: st) h mc ms Post :=
  fun p e R s m args below meth c Q H locs cells slots jl ac hp hS hl hc hs kr => lv_icmp_ne ac.1 ac.2.1 hd ht (fun q => kt q p e R s m args below meth c Q H locs cells slots jl ac hp hS hl hc hs kr) (fun q => kf q p e R s m args below meth c Q H locs cells slots jl ac hp hS hl hc hs kr)
theorem ax_icmp_lt {x y : Int32} {off : Int} {tgt : Nat} (hd : decode Y.2.1 pc = .ok (.if_icmp .lt off, 3)) (ht : (pc : Int) + off = (tgt : Int)) (kt : x < y → AX G d Y tgt ls (st) h mc ms Post) (kf : ¬ x < y → AX G d Y (pc + 3) ls (st) h mc ms Post) : AX G d Y pc ls (.int y :: .int x :: st) h mc ms Post :=
  fun p e R s m args below meth c Q H locs cells slots jl ac hp hS hl hc hs kr => lv_icmp_lt ac.1 ac.2.1 hd ht (fun q => kt q p e R s m args below meth c Q H locs cells slots jl ac hp hS hl hc hs kr) (fun q => kf q p e R s m args below meth c Q H locs cells slots jl ac hp hS hl hc hs kr)
theorem ax_icmp_ge {x y : Int32} {off : Int} {tgt : Nat} (hd : decode Y.2.1 pc = .ok (.if_icmp .ge off, 3)) (ht : (pc : Int) + off = (tgt : Int)) (kt : y ≤ x → AX G d Y tgt ls (st) h mc ms Post) (kf : ¬ y ≤ x → AX G d Y (pc + 3) ls (st) h mc ms Post) : AX G d Y pc ls (.int y :: .int x :: st) h mc ms Post :=
  fun p e R s m args below meth c Q H locs cells slots jl ac hp hS hl hc hs kr => lv_icmp_ge ac.1 ac.2.1 hd ht (fun q => kt q p e R s m args below meth c Q H locs cells slots jl ac hp hS hl hc hs kr) (fun q => kf q p e R s m args below meth c Q H locs cells slots jl ac hp hS hl hc hs kr)
theorem ax_icmp_gt {x y : Int32} {off : Int} {tgt : Nat} (hd : decode Y.2.1 pc = .ok (.if_icmp .gt off, 3)) (ht : (pc : Int) + off = (tgt : Int)) (kt : y < x → AX G d Y tgt ls (st) h mc ms Post) (kf : ¬ y < x → AX G d Y (pc + 3) ls (st) h mc ms Post) : AX G d Y pc ls (.int y :: .int x :: st) h mc ms Post :=
  fun p e R s m args below meth c Q H locs cells slots jl ac hp hS hl hc hs kr => lv_icmp_gt ac.1 ac.2.1 hd ht (fun q => kt q p e R s m args below meth c Q H locs cells slots jl ac hp hS hl hc hs kr) (fun q => kf q p e R s m args below meth c Q H locs cells slots jl ac hp hS hl hc hs kr)
theorem ax_icmp_le {x y : Int32} {off : Int} {tgt : Nat} (hd : decode Y.2.1 pc = .ok (.if_icmp .le off, 3)) (ht : (pc : Int) + off = (tgt : Int)) (kt : x ≤ y → AX G d Y tgt ls (st) h mc ms Post) (kf : ¬ x ≤ y → AX G d Y (pc + 3) ls (st) h mc ms Post) : AX G d Y pc ls (.int y :: .int x :: st) h mc ms Post :=
  fun p e R s m args below meth c Q H locs cells slots jl ac hp hS hl hc hs kr => lv_icmp_le ac.1 ac.2.1 hd ht (fun q => kt q p e R s m args below meth c Q H locs cells slots jl ac hp hS hl hc hs kr) (fun q => kf q p e R s m args below meth c Q H locs cells slots jl ac hp hS hl hc hs kr)
theorem ax_lookup {dflt : Int} {ps : Array (Int × Int)} {len : Nat} {x : Int32} {off : Int} {tgt : Nat} (hd : decode Y.2.1 pc = .ok (.lookupswitch dflt ps, len)) (hp : (ps.toList.zip (ps.toList.drop 1)).all (fun (a, next) => a.1 < next.1) = true) (ho : Op.lookupswitch.offset ps.toList dflt x.toInt = off) (ht : (pc : Int) + off = (tgt : Int)) (k : AX G d Y tgt ls (st) h mc ms Post) : AX G d Y pc ls (.int x :: st) h mc ms Post :=
  fun p e R s m args below meth c Q H locs cells slots jl ac hp' hS hl hc hs kr => lv_lookup ac.1 ac.2.1 hd hp ho ht (k p e R s m args below meth c Q H locs cells slots jl ac hp' hS hl hc hs kr)
theorem ax_tableOut {dflt lo hi : Int} {offs : Array Int} {len : Nat} {x : Int32} {tgt : Nat} (hd : decode Y.2.1 pc = .ok (.tableswitch dflt lo hi offs, len)) (hx : x.toInt < lo ∨ hi < x.toInt) (ht : (pc : Int) + dflt = (tgt : Int)) (k : AX G d Y tgt ls (st) h mc ms Post) : AX G d Y pc ls (.int x :: st) h mc ms Post :=
  fun p e R s m args below meth c Q H locs cells slots jl ac hp hS hl hc hs kr => lv_tableOut ac.1 ac.2.1 hd hx ht (k p e R s m args below meth c Q H locs cells slots jl ac hp hS hl hc hs kr)
theorem ax_tableIn {dflt lo hi : Int} {offs : Array Int} {len : Nat} {x : Int32} {off : Int} {tgt : Nat} (hd : decode Y.2.1 pc = .ok (.tableswitch dflt lo hi offs, len)) (h1 : ¬ x.toInt < lo) (h2 : ¬ hi < x.toInt) (ho : offs[(x.toInt - lo).toNat]? = some off) (ht : (pc : Int) + off = (tgt : Int)) (k : AX G d Y tgt ls (st) h mc ms Post) : AX G d Y pc ls (.int x :: st) h mc ms Post :=
  fun p e R s m args below meth c Q H locs cells slots jl ac hp hS hl hc hs kr => lv_tableIn ac.1 ac.2.1 hd h1 h2 ho ht (k p e R s m args below meth c Q H locs cells slots jl ac hp hS hl hc hs kr)
theorem ax_ireturn {v : Int32} {ty : FieldType} (hd : decode Y.2.1 pc = .ok (.ireturn, 1)) (hr : Y.2.2.2 = some ty) (hn : narrow ty (.int v) = .int v) (hq : Post (some (.int v)) h) : AX G d Y pc ls ([.int v]) h mc ms Post :=
  fun p e R s m args below meth c Q H locs cells slots jl ac hp hS hl hc hs kr => kr (some (.int v)) h H locs cells slots pc jl hq hp hS (by omega) (by omega) (Or.inr (Or.inl ⟨ty, v, hr, rfl, hn, hd⟩))
theorem ax_return (hd : decode Y.2.1 pc = .ok (.return_, 1)) (hr : Y.2.2.2 = none) (hq : Post none h) : AX G d Y pc ls ([]) h mc ms Post :=
  fun p e R s m args below meth c Q H locs cells slots jl ac hp hS hl hc hs kr => kr none h H locs cells slots pc jl hq hp hS (by omega) (by omega) (Or.inl ⟨hr, rfl, hd⟩)
theorem ax_areturn {v : Value} {rt : FieldType} (hd : decode Y.2.1 pc = .ok (.areturn, 1)) (hr : Y.2.2.2 = some rt) (hrt : (∃ n, rt = .object n) ∨ ∃ t, rt = .array t) (hv : v = .null ∨ ∃ a, v = .ref a) (hq : Post (some v) h) : AX G d Y pc ls ([v]) h mc ms Post :=
  fun p e R s m args below meth c Q H locs cells slots jl ac hp hS hl hc hs kr => kr (some v) h H locs cells slots pc jl hq hp hS (by omega) (by omega) (Or.inr (Or.inr ⟨rt, v, hr, hrt, hv, rfl, hd⟩))
end AXr
end
section
/-! THE CALCULUS: fields, arrays, new cells -/
/-- a class of the table: its fields' words, types, names -/
def CO (ci : Nat) (C : String) (T : u_T) (N : Nat) (ty0 : Nat → FieldType) : Prop := vwCl[ci]? = some (C, T, N) ∧ (∀ w ∈ u_ws C T N, w ∈ tb) ∧ (∀ k, k < N → parseFieldDescriptor (T k).2.2.1 = some (ty0 k)) ∧ (∀ a, a < N → ∀ b, b < N → a ≠ b → (T a).2.1 ≠ (T b).2.1)
/-- entry 'index' of the class 'own' is field k of the class number ci -/
def GF (own : String) (index ci k : Nat) (ty : FieldType) (fin : Bool) : Prop := ∃ (C : String) (T : u_T) (N : Nat) (ty0 : Nat → FieldType) (ref : String), CO ci C T N ty0 ∧ k < N ∧ Cond.fieldLink own index ref (T k).2.1 (T k).2.2.1 ∈ tb ∧ ((T k).1 = ref ∨ Cond.sameField ref (T k).1 (T k).2.1 (T k).2.2.1 ∈ tb) ∧ (T k).2.2.2 = fin ∧ parseFieldDescriptor (T k).2.2.1 = some ty
def GI (own : String) (index ci k : Nat) (ty : FieldType) : Prop := ∃ (C : String) (T : u_T) (N : Nat) (ty0 : Nat → FieldType), CO ci C T N ty0 ∧ k < N ∧ Cond.fieldLink own index own (T k).2.1 (T k).2.2.1 ∈ tb ∧ (T k).1 = own ∧ (T k).2.2.2 = true ∧ parseFieldDescriptor (T k).2.2.1 = some ty
/-- entry 'index' of the class 'own' is the class number ci, whose new objects hold fs -/
def NW (own : String) (index ci : Nat) (fs : List Value) (N : Nat) : Prop := ∃ (C : String) (T : u_T) (ty0 : Nat → FieldType), CO ci C T N ty0 ∧ Cond.classLink own index C ∈ tb ∧ Cond.instantiable C N ∈ tb ∧ Cond.initialized C ∈ tb ∧ ∀ j, j < N → defaultValue (ty0 j) = vp_V fs j
theorem AC.own {G : Gt} {d : Nat} {Y : Yt} {p : Program} {R : Room} {s : State} {m : MethodId} {args : Array Value} {meth : Method} {c : Code} (ac : AC G d Y p R s m args meth c) : s.vm.findClass Y.1.cls = some m.cls := ac.2.2.2.2.1
theorem AC.hts {G : Gt} {d : Nat} {Y : Yt} {p : Program} {R : Room} {s : State} {m : MethodId} {args : Array Value} {meth : Method} {c : Code} (ac : AC G d Y p R s m args meth c) : ∀ w ∈ tb, w.before args s = true := ac.2.2.2.2.2.1
theorem AC.gs {G : Gt} {d : Nat} {Y : Yt} {p : Program} {R : Room} {s : State} {m : MethodId} {args : Array Value} {meth : Method} {c : Code} (ac : AC G d Y p R s m args meth c) : GS G s := ac.2.2.2.2.2.2.2.2.1
theorem AC.room {G : Gt} {d : Nat} {Y : Yt} {p : Program} {R : Room} {s : State} {m : MethodId} {args : Array Value} {meth : Method} {c : Code} (ac : AC G d Y p R s m args meth c) : d ≤ R.frames ∧ 64 * d ≤ R.locals := ac.2.2.2.2.2.2.2.2.2
theorem GF.same {args : Array Value} {s : State} {T : u_T} {k : Nat} {ref : String} (hts : ∀ w ∈ tb, w.before args s = true) (h : (T k).1 = ref ∨ Cond.sameField ref (T k).1 (T k).2.1 (T k).2.2.1 ∈ tb) : ∀ x, s.fieldFound? (T k).1 (T k).2.1 (T k).2.2.1 = some x → s.fieldFound? ref (T k).2.1 (T k).2.2.1 = some x := by
  rcases h with h | h
  · rw [← h]
    exact fun _ h9 => h9
  · exact fun x9 h9 => u_same (hts _ h) x9 h9
section AXh
variable {G : Gt} {d : Nat} {Y : Yt} {pc : Nat} {ls : List (Option Value)} {st : List Value} {h : Ht} {mc ms : Nat} {Post : Option Value → Ht → Prop}
theorem ax_get {index ci k a : Nat} {ty : FieldType} {fin : Bool} {fs : List Value} {v : Value} (hd : decode Y.2.1 pc = .ok (.getfield index, 3)) (hg : GF Y.1.cls index ci k ty fin) (hB : gB G ≤ a) (hn : a < h.1) (hc : h.2 a = .inr (ci, fs)) (hv : fs[k]? = some v) (kk : AX G d Y (pc + 3) ls (v :: st) h mc ms Post) : AX G d Y pc ls (.ref a :: st) h mc ms Post := by
  intro p e R s m args below meth c Q H locs cells slots jl ac hp hS hl hce hs kr
  obtain ⟨C, T, N, ty0, ref, ⟨h1, h2, h3, h4⟩, hk, hlink, hsame, -, -⟩ := hg
  exact va_get ac.1 ac.2.1 ac.hts h2 ac.own ac.gs.1 (hp.one hB hn hc) 0 rfl h1 k hk (ac.hts _ hlink) (GF.same ac.hts hsame) hv hd (kk p e R s m args below meth c Q H locs cells slots jl ac hp hS hl hce hs kr)
theorem ax_put {index ci k a : Nat} {ty : FieldType} {fs : List Value} {v : Value} (hd : decode Y.2.1 pc = .ok (.putfield index, 3)) (hg : GF Y.1.cls index ci k ty false) (hB : gB G ≤ a) (hn : a < h.1) (hc : h.2 a = .inr (ci, fs)) (hk0 : k < fs.length) (hnv : narrow ty v = v) (hfit : fits ty v = true) (kk : AX G d Y (pc + 3) ls st (h.1, va_up h.2 a (.inr (ci, fs.set k v))) mc ms Post) : AX G d Y pc ls (v :: .ref a :: st) h mc ms Post := by
  intro p e R s m args below meth c Q H locs cells slots jl ac hp hS hl hce hs kr
  obtain ⟨C, T, N, ty0, ref, ⟨h1, h2, h3, h4⟩, hk, hlink, hsame, hfin, hty⟩ := hg
  have hK := ac.gs.1
  have hap := va_apart (own := Y.1.cls) ac.hts h2 ty0 h3 h4 hK h1
  obtain ⟨r, h1', cell, q1, q2, q3, q4⟩ := hp.one hB hn hc 0 _ rfl
  have hr : r = (C, T, N) := Option.some.inj (h1'.symm.trans h1)
  subst hr
  obtain ⟨hSl, hfc, kC, hkC, hkind⟩ := hK.1 ci _ h1
  obtain ⟨cf, kf, fi, f, hi, hsl⟩ := hSl k hk
  have hlay := ac.hts _ (h2 _ (u_in_lay hk))
  unfold u_lay at hlay
  rw [if_neg (by rw [hfin]; decide)] at hlay
  have hst := (u_facts hfc hkC (u_lays ac.hts h2 hk) hi).1
  have h6 := u_store hfc hkC hkind hlay hi hty hnv hfit
  refine W.putK ac.1 ac.2.1 (f := f) ⟨ac.own, ac.hts _ hlink, ⟨_, _, _, GF.same ac.hts hsame _ hi⟩, hst⟩ (by rw [q2]; exact h6) q1 q3 (by rw [hsl]; exact k2_hasslot (q4 k hk)) rfl rfl hd fun H' e1 e2 e3 => ?_
  rw [hsl] at e1 ⊢
  exact kk p e R s m args below meth c Q H' _ cells slots jl ac (hp.set ⟨_, h1, t_OB.to (V := updV (vp_V fs) k v) ⟨_, e1, q2, q3, t_set q4 hap hk v⟩ (fun j _ => vp_updV_set hk0 v j)⟩ e2 e3) (hS.own e2 e3 hB) hl hce hs kr
theorem ax_putF {index ci k a : Nat} {ty : FieldType} {fs : List Value} {v : Value} (hd : decode Y.2.1 pc = .ok (.putfield index, 3)) (hg : GI Y.1.cls index ci k ty) (hi0 : Y.1.name = "<init>") (hB : gB G ≤ a) (hn : a < h.1) (hc : h.2 a = .inr (ci, fs)) (hk0 : k < fs.length) (hnv : narrow ty v = v) (hfit : fits ty v = true) (kk : AX G d Y (pc + 3) ls st (h.1, va_up h.2 a (.inr (ci, fs.set k v))) mc ms Post) : AX G d Y pc ls (v :: .ref a :: st) h mc ms Post := by
  intro p e R s m args below meth c Q H locs cells slots jl ac hp hS hl hce hs kr
  obtain ⟨C, T, N, ty0, ⟨h1, h2, h3, h4⟩, hk, hlink, hdecl, hfin, hty⟩ := hg
  have hK := ac.gs.1
  have hap := va_apart (own := Y.1.cls) ac.hts h2 ty0 h3 h4 hK h1
  obtain ⟨r, h1', cell, q1, q2, q3, q4⟩ := hp.one hB hn hc 0 _ rfl
  have hr : r = (C, T, N) := Option.some.inj (h1'.symm.trans h1)
  subst hr
  obtain ⟨hSl, hfc, kC, hkC, hkind⟩ := hK.1 ci _ h1
  obtain ⟨cf, kf, fi, f, hi, hsl⟩ := hSl k hk
  have hlay := ac.hts _ (h2 _ (u_in_lay hk))
  unfold u_lay at hlay
  rw [if_pos hfin] at hlay
  have hst := (u_facts hfc hkC (u_lays ac.hts h2 hk) hi).1
  have hcf : m.cls = cf := by
    obtain ⟨_, _, c', _, _, _, -, -, hf', -, -, -, hown2, -⟩ := Cond.laysFinal_spec hlay
    have e1 : c' = cf := by have := hi.symm.trans hf'; simp at this; exact this.1.symm
    rw [hdecl] at hown2
    rw [← e1]; exact Option.some.inj (ac.own.symm.trans hown2)
  have h6 := u_fits hfc hkC hkind (Or.inr hlay) hi hty hnv hfit
  have hname : meth.name = "<init>" := ac.2.2.2.2.2.2.2.1.trans hi0
  rw [← hdecl] at hlink
  have hlk := ac.hts _ hlink
  rw [hdecl] at hlk
  have hi2 := hi
  rw [hdecl] at hi2
  refine W.putFinK ac.1 ac.2.1 ac.own hlk hi2 hst hcf hname (by rw [q2]; exact h6) q1 q3 (by rw [hsl]; exact k2_hasslot (q4 k hk)) rfl rfl hd fun H' e1 e2 e3 => ?_
  rw [hsl] at e1 ⊢
  exact kk p e R s m args below meth c Q H' _ cells slots jl ac (hp.set ⟨_, h1, t_OB.to (V := updV (vp_V fs) k v) ⟨_, e1, q2, q3, t_set q4 hap hk v⟩ (fun j _ => vp_updV_set hk0 v j)⟩ e2 e3) (hS.own e2 e3 hB) hl hce hs kr
theorem ax_iald {a n : Nat} {f : Nat → Int32} {i : Int32} (hd : decode Y.2.1 pc = .ok (.iaload, 1)) (hB : gB G ≤ a) (hn : a < h.1) (hc : h.2 a = .inl (gC G 0, n, .inl f)) (hin : vp_in i n) (kk : AX G d Y (pc + 1) ls (.int (f i.toNatClampNeg) :: st) h mc ms Post) : AX G d Y pc ls (.int i :: .ref a :: st) h mc ms Post :=
  fun p e R s m args below meth c Q H locs cells slots jl ac hp hS hl hce hs kr => va_iald ac.1 ac.2.1 ac.gs.1 (hp.one hB hn hc) 0 0 rfl rfl hin hd (kk p e R s m args below meth c Q H locs cells slots jl ac hp hS hl hce hs kr)
theorem ax_bald {a n : Nat} {f : Nat → Int32} {i : Int32} (hd : decode Y.2.1 pc = .ok (.baload, 1)) (hB : gB G ≤ a) (hn : a < h.1) (hc : h.2 a = .inl (gC G 1, n, .inl f)) (hin : vp_in i n) (kk : AX G d Y (pc + 1) ls (.int (f i.toNatClampNeg) :: st) h mc ms Post) : AX G d Y pc ls (.int i :: .ref a :: st) h mc ms Post :=
  fun p e R s m args below meth c Q H locs cells slots jl ac hp hS hl hce hs kr => va_bald ac.1 ac.2.1 ac.gs.1 (hp.one hB hn hc) 0 1 rfl rfl hin hd (kk p e R s m args below meth c Q H locs cells slots jl ac hp hS hl hce hs kr)
theorem ax_zald {a n : Nat} {f : Nat → Int32} {i : Int32} (hd : decode Y.2.1 pc = .ok (.baload, 1)) (hB : gB G ≤ a) (hn : a < h.1) (hc : h.2 a = .inl (gC G 2, n, .inl f)) (hin : vp_in i n) (kk : AX G d Y (pc + 1) ls (.int (f i.toNatClampNeg) :: st) h mc ms Post) : AX G d Y pc ls (.int i :: .ref a :: st) h mc ms Post :=
  fun p e R s m args below meth c Q H locs cells slots jl ac hp hS hl hce hs kr => va_zald ac.1 ac.2.1 ac.gs.1 (hp.one hB hn hc) 0 2 rfl rfl hin hd (kk p e R s m args below meth c Q H locs cells slots jl ac hp hS hl hce hs kr)
theorem ax_alen {a : Nat} {t : Nat} {ty : FieldType} {x : vp_A} {v : Int32} (hd : decode Y.2.1 pc = .ok (.arraylength, 1)) (hB : gB G ≤ a) (hn : a < h.1) (hc : h.2 a = .inl (gC G t, x)) (ht : (gT G)[t]? = some (gC G t, ty)) (hv : Int32.ofNat x.1 = v) (kk : AX G d Y (pc + 1) ls (.int v :: st) h mc ms Post) : AX G d Y pc ls (.ref a :: st) h mc ms Post :=
  fun p e R s m args below meth c Q H locs cells slots jl ac hp hS hl hce hs kr => va_alen ac.1 ac.2.1 ac.gs.1 (hp.one hB hn hc) 0 t rfl ht hv hd (kk p e R s m args below meth c Q H locs cells slots jl ac hp hS hl hce hs kr)
theorem ax_aald {a n t : Nat} {ty : FieldType} {f : Nat → Option Nat} {i : Int32} (hd : decode Y.2.1 pc = .ok (.aaload, 1)) (hB : gB G ≤ a) (hn : a < h.1) (hc : h.2 a = .inl (gC G t, n, .inr (.inr (.inr (.inr f))))) (ht : (gT G)[t]? = some (gC G t, ty)) (hty : ty.isReference = true) (hin : vp_in i n) (kk : AX G d Y (pc + 1) ls (va_rf (f i.toNatClampNeg) :: st) h mc ms Post) : AX G d Y pc ls (.int i :: .ref a :: st) h mc ms Post := by
  intro p e R s m args below meth c Q H locs cells slots jl ac hp hS hl hce hs kr
  have hlt : i.toNatClampNeg < n := Nat.not_le.mp fun q => hin (Or.inr q)
  exact W.aald (v := va_rf (f i.toNatClampNeg)) (ty := ty) ac.1 ac.2.1 (hp.one hB hn hc 0 _ rfl) ((ac.gs.1.2 t _ ht).1 n (fun j => va_rf (f j))) hty (fun q => by cases q) (by show ¬ (i < 0 ∨ (arrV _ _ _).slots.size ≤ _); rw [arrV_size]; exact hin) (by show (arrV _ _ _).slots[_]? = _; rw [arrV_read _ _ hlt]) rfl rfl hd (kk p e R s m args below meth c Q H locs cells slots jl ac hp hS hl hce hs kr)
theorem ax_iast {a n : Nat} {f : Nat → Int32} {i x : Int32} (hd : decode Y.2.1 pc = .ok (.iastore, 1)) (hB : gB G ≤ a) (hn : a < h.1) (hc : h.2 a = .inl (gC G 0, n, .inl f)) (hin : vp_in i n) (kk : AX G d Y (pc + 1) ls st (h.1, va_up h.2 a (.inl (gC G 0, n, .inl (upd f i.toNatClampNeg x)))) mc ms Post) : AX G d Y pc ls (.int x :: .int i :: .ref a :: st) h mc ms Post := by
  intro p e R s m args below meth c Q H locs cells slots jl ac hp hS hl hce hs kr
  refine W.iast ac.1 ac.2.1 (hp.one hB hn hc 0 _ rfl) ((ac.gs.1.2 0 _ rfl).1 n (fun j => .int (f j))) (fun q => by cases q) (by show ¬ (i < 0 ∨ (arrV _ _ _).slots.size ≤ _); rw [arrV_size]; exact hin) rfl rfl hd fun H1 e1 z oq => ?_
  refine kk p e R s m args below meth c Q H1 _ cells slots jl ac (hp.set ?_ z oq) (hS.own z oq hB) hl hce hs kr
  show H1[a]? = some (vp_cell _ _)
  rw [e1]
  rw [vp_cell_i, vp_cell_i, arrV_store]
  congr 2
  funext q
  by_cases hq : q = i.toNatClampNeg
  · subst hq
    simp [updV, upd]
  · simp [updV, upd, hq]
theorem ax_bast {a n : Nat} {f : Nat → Int32} {i x : Int32} (hd : decode Y.2.1 pc = .ok (.bastore, 1)) (hB : gB G ≤ a) (hn : a < h.1) (hc : h.2 a = .inl (gC G 1, n, .inl f)) (hin : vp_in i n) (kk : AX G d Y (pc + 1) ls st (h.1, va_up h.2 a (.inl (gC G 1, n, .inl (upd f i.toNatClampNeg (vp_nar .byte x))))) mc ms Post) : AX G d Y pc ls (.int x :: .int i :: .ref a :: st) h mc ms Post := by
  intro p e R s m args below meth c Q H locs cells slots jl ac hp hS hl hce hs kr
  refine W.bast ac.1 ac.2.1 (hp.one hB hn hc 0 _ rfl) ((ac.gs.1.2 1 _ rfl).1 n (fun j => .int (f j))) (fun q => by cases q) (by show ¬ (i < 0 ∨ (arrV _ _ _).slots.size ≤ _); rw [arrV_size]; exact hin) rfl rfl hd fun H1 e1 z oq => ?_
  refine kk p e R s m args below meth c Q H1 _ cells slots jl ac (hp.set ?_ z oq) (hS.own z oq hB) hl hce hs kr
  show H1[a]? = some (vp_cell _ _)
  rw [e1]
  rw [vp_cell_i, vp_cell_i, arrV_store]
  congr 2
  funext q
  by_cases hq : q = i.toNatClampNeg
  · subst hq
    simp [updV, upd, vp_nar]
    try rfl
  · simp [updV, upd, hq]
theorem ax_zast {a n : Nat} {f : Nat → Int32} {i x : Int32} (hd : decode Y.2.1 pc = .ok (.bastore, 1)) (hB : gB G ≤ a) (hn : a < h.1) (hc : h.2 a = .inl (gC G 2, n, .inl f)) (hin : vp_in i n) (kk : AX G d Y (pc + 1) ls st (h.1, va_up h.2 a (.inl (gC G 2, n, .inl (upd f i.toNatClampNeg (vp_nar .boolean x))))) mc ms Post) : AX G d Y pc ls (.int x :: .int i :: .ref a :: st) h mc ms Post := by
  intro p e R s m args below meth c Q H locs cells slots jl ac hp hS hl hce hs kr
  refine W.zast ac.1 ac.2.1 (hp.one hB hn hc 0 _ rfl) ((ac.gs.1.2 2 _ rfl).1 n (fun j => .int (f j))) (fun q => by cases q) (by show ¬ (i < 0 ∨ (arrV _ _ _).slots.size ≤ _); rw [arrV_size]; exact hin) rfl rfl hd fun H1 e1 z oq => ?_
  refine kk p e R s m args below meth c Q H1 _ cells slots jl ac (hp.set ?_ z oq) (hS.own z oq hB) hl hce hs kr
  show H1[a]? = some (vp_cell _ _)
  rw [e1]
  rw [vp_cell_i, vp_cell_i, arrV_store]
  congr 2
  funext q
  by_cases hq : q = i.toNatClampNeg
  · subst hq
    simp [updV, upd, vp_nar]
    try rfl
  · simp [updV, upd, hq]
theorem ax_new {index ci N : Nat} {fs : List Value} (hd : decode Y.2.1 pc = .ok (.new index, 3)) (hw : NW Y.1.cls index ci fs N) (kk : AX G d Y (pc + 3) ls (.ref h.1 :: st) (h.1 + 1, va_up h.2 h.1 (.inr (ci, fs))) mc ms Post) : AX G d Y pc ls st h (mc + 1) (ms + N) Post := by
  intro p e R s m args below meth c Q H locs cells slots jl ac hp hS hl hce hs kr
  obtain ⟨C, T, ty0, ⟨h1, h2, h3, h4⟩, hcl, hin, hini, hfs⟩ := hw
  have hKn := ac.gs.1.1 ci _ h1
  refine W.newcK ac.1 ac.2.1 ac.own (ac.hts _ hcl) (ac.hts _ hin) (ac.hts _ hini) rfl hd (by omega) (by omega) hKn.2.1 hp.1 fun H1 kC hkC e1 z1 o1 => ?_
  rw [← hp.1] at z1 o1
  exact kk p e R s m args below meth c Q H1 locs (cells + 1) (slots + N) jl ac (hp.push ⟨_, h1, (u_born ty0 ac.hts h2 hKn hkC e1 h3).to hfs⟩ z1 o1) (hS.more (by omega) o1) hl (by omega) (by omega) (fun r h' H' locs' cells' slots' pc' jl' hpo hp' hS' c1 c2 => kr r h' H' locs' cells' slots' pc' jl' hpo hp' hS' (by omega) (by omega))
theorem ax_newa {atype : ArrayType} {ty : FieldType} {t N : Nat} {n : Int32} (hd : decode Y.2.1 pc = .ok (.newarray atype, 2)) (hty : newarray.typeOf atype = ty) (ht : (gT G)[t]? = some (gC G t, ty)) (hprim : ty = .int ∨ ty = .byte ∨ ty = .boolean) (hw : Cond.arrayClass ty ∈ tb) (hn : ¬ n < 0) (hN : n.toNatClampNeg = N) (hb : N ≤ 100000) (kk : AX G d Y (pc + 2) ls (.ref h.1 :: st) (h.1 + 1, va_up h.2 h.1 (.inl (gC G t, N, .inl (fun _ => 0)))) mc ms Post) : AX G d Y pc ls (.int n :: st) h (mc + 1) (ms + N) Post := by
  intro p e R s m args below meth c Q H locs cells slots jl ac hp hS hl hce hs kr
  subst hty
  refine va_newaK ac.1 ac.2.1 (ac.hts _ hw) (g := F0 m pc jl (.int n :: st)) rfl hd rfl hn hN (by rcases hprim with e1 | e1 | e1 <;> rw [e1] <;> simp [componentBytes] <;> omega) (by omega) (by omega) hp.1 fun H1 cA e1 z1 o1 hAr hNm => ?_
  have hcA : cA = gC G t := by
    have h2 := (ac.gs.1.2 t _ ht).2
    rcases hprim with e2 | e2 | e2 <;> rw [e2] at h2 hNm <;> exact Option.some.inj (hNm.symm.trans h2)
  subst hcA
  rw [← hp.1] at z1 o1
  refine kk p e R s m args below meth c Q H1 locs (cells + 1) (slots + N) jl ac (hp.push ?_ z1 o1) (hS.more (by omega) o1) hl (by omega) (by omega) (fun r h' H' locs' cells' slots' pc' jl' hpo hp' hS' c1 c2 => kr r h' H' locs' cells' slots' pc' jl' hpo hp' hS' (by omega) (by omega))
  show H1[h.1]? = some (vp_cell _ _)
  rw [e1, vp_cell_i]
  rcases hprim with e2 | e2 | e2 <;> rw [e2] <;> rfl
theorem ax_objInit {index a : Nat} (hd : decode Y.2.1 pc = .ok (.invokespecial index, 3)) (hd1 : 1 ≤ d) (hlink : Cond.methodLink Y.1.cls index Lib.objectInit ∈ tb) (hinst : Cond.instanceMethod Lib.objectInit ∈ tb) (hcode : Cond.code Lib.objectInit ⟨#[0xb1]⟩ 1 none ∈ tb) (hr : (st.map fun v => v.category).sum ≤ 8) (kk : AX G d Y (pc + 3) ls st h mc ms Post) : AX G d Y pc ls (.ref a :: st) h mc ms Post := by
  intro p e R s m args below meth c Q H locs cells slots jl ac hp hS hl hce hs kr
  refine W.objInit ac.1 ac.2.1 ac.own (ac.hts _ hlink) (ac.hts _ hinst) (ac.hts _ hcode) (g := F0 m pc jl (.ref a :: st)) rfl (hl.1.trans ac.2.2.2.1.symm) rfl hd (by have := ac.room; omega) ?_ (kk p e R s m args below meth c Q H locs cells slots jl ac hp hS hl hce hs kr)
  have h1 := ac.room.2
  have h2 : 2 * (F0 m pc jl (.ref a :: st)).monitorRoom + (st.map fun v => v.category).sum ≤ 8 := lv_room hr
  omega
end AXh
end
section
/-! THE CALCULUS: a method's contract, calls -/
def cQ (G : Gt) (Post : Option Value → Ht → Prop) : Array Value → State → Outcome → State → Prop := fun _ st o t => (∃ (r : Option Value) (h' : Ht), o = .returned r ∧ Post r h' ∧ HP G h' t.heap) ∧ va_F (gO G) st t
def cRm (d mc ms : Nat) : Room := { frames := d, cells := mc, slots := ms, locals := 64 * d }
/-- method Y, called with av over the heap h, comes back with Post; it makes at most mc cells of ms slots, and d frames stand at most -/
def CX (G : Gt) (d : Nat) (Y : Yt) (av : List Value) (h : Ht) (mc ms : Nat) (Post : Option Value → Ht → Prop) : Prop :=
  Met (gL G) Y.1 (yW Y) (cRm d mc ms) (va_Pc av (fun U => GS G U ∧ HP G h U.heap)) (cQ G Post) mc ms (gO G)
def sfS (x : Slot) : Option Value := match x with | .val v => some v | _ => none
theorem sfS_val {x : Slot} {v : Value} (h : sfS x = some v) : x = .val v := by
  cases x with
  | val w => simp only [sfS, Option.some.injEq] at h; rw [h]
  | _ => simp [sfS] at h
/-- the locals at the entry -/
def enL (av : List Value) (n : Nat) : List (Option Value) := (lg_sl av ++ List.replicate (n - (lg_sl av).length) Slot.unset).map sfS
theorem LR.entry {av : List Value} {n : Nat} (h : (lg_sl av).length ≤ n) : LR n (enL av n) ((lg_sl av ++ List.replicate (n - (lg_sl av).length) Slot.unset).toArray) := by
  have h1 := lv_entry av h
  refine ⟨h1.1, h1.2.1, fun i v hi => ?_⟩
  unfold enL at hi
  rw [List.getElem?_map] at hi
  cases hx : (lg_sl av ++ List.replicate (n - (lg_sl av).length) Slot.unset)[i]? with
  | none => rw [hx] at hi; cases hi
  | some x =>
    rw [hx] at hi
    rw [List.getElem?_toArray, hx, sfS_val (Option.some.inj hi)]
theorem cx_of {G : Gt} {d : Nat} {Y : Yt} {av : List Value} {ls : List (Option Value)} {h : Ht} {mc ms : Nat} {Post : Option Value → Ht → Prop} (hy : plainName Y.1.cls = true) (hls : enL av Y.2.2.1 = ls) (hlen : (lg_sl av).length ≤ Y.2.2.1) (k : AX G d Y 0 ls [] h mc ms Post) : CX G d Y av h mc ms Post := by
  refine Met.ofW (cc := Y.2.1) (maxL := Y.2.2.1) (ret := Y.2.2.2) hy rfl ?_
  intro p e s m args below meth c s₁ B hml hv
  obtain ⟨rfl, hgs, hp⟩ := hv
  have hts := atoms_spec (ws := yW Y) B.pre
  have hown : s.vm.findClass Y.1.cls = some m.cls := findClass_of_methodNamed B.named
  have hlk := B.notSynchronized
  rw [lg_entry_eq]
  subst hls
  refine k p e _ s m _ below meth c _ s.heap [] 0 0 _ ⟨B.exec, B.bytes, B.returns, hml, hown, fun w hw => hts w (List.mem_cons_of_mem _ hw), hlk, (name_of_methodNamed B.named B.method).1, hgs, Nat.le_refl _, Nat.le_refl _⟩ hp va_S.rf (LR.entry hlen) (by rw [Nat.zero_add]; exact Nat.le_refl _) (by rw [Nat.zero_add]; exact Nat.le_refl _) ?_
  intro r h' H' locs' cells' slots' pc' jl' hpo hp' hS' hc1 hc2 hri
  rw [Nat.zero_add] at hc1 hc2
  refine W.widen hc1 hc2 ?_
  rcases hri with ⟨e1, e2, e3⟩ | ⟨ty, v, e1, e2, e3, e4⟩ | ⟨rt, v, e1, e2, e3, e4, e5⟩
  · subst e2
    exact W.vret B.exec B.bytes (B.returns.trans e1) (fun t ht hW => ⟨⟨none, h', rfl, hpo, by rw [ht]; exact hp'⟩, hS'.F ht⟩) hS'.2.2 e3 hlk
  · subst e2
    exact W.zret B.exec B.bytes (B.returns.trans e1) e3 (fun t ht hW => ⟨⟨some (.int v), h', rfl, hpo, by rw [ht]; exact hp'⟩, hS'.F ht⟩) hS'.2.2 e4 hlk
  · subst e4
    exact W.aret B.exec B.bytes (B.returns.trans e1) e2 e3 (fun t ht hW => ⟨⟨some v, h', rfl, hpo, by rw [ht]; exact hp'⟩, hS'.F ht⟩) hS'.2.2 e5 hlk
section AXc
variable {p : Program} {e : Env} {R : Room} {s : State} {m : MethodId} {args : Array Value} {below : List Frame} {meth : Method} {c : Code} {H : Heap} {locs : List Loc} {cells slots : Nat} {Q : State → Prop}
theorem w_run {G : Gt} {mc1 ms1 pc : Nat} {jl : Array Slot} {st0 rest : List Value} {av : Array Value} {Post1 : Option Value → Ht → Prop} (hr : va_Run p (gL G) e R s m args below meth c H locs cells slots mc1 ms1 (F0 m pc jl st0) rest (cQ G Post1 av) (gO G)) (hS : va_S (gO G) s.heap H locs)
    (kk : ∀ (r : Option Value) (h' : Ht) (H1 : Heap) (locs1 : List Loc), Post1 r h' → HP G h' H1 → va_S (gO G) s.heap H1 locs1 → W p (gL G) e R s m args below meth c H1 locs1 (cells + mc1) (slots + ms1) Q (F0 m (pc + 3) jl (r.toList ++ rest))) : W p (gL G) e R s m args below meth c H locs cells slots Q (F0 m pc jl st0) := by
  intro T hT X
  obtain ⟨v, st₀, t, T', L, h0, X', hL, e1, e2, ⟨⟨r, h', hv, hpo, hb⟩, hz, hk⟩, st⟩ := hr T hT X
  cases hv
  rw [h0] at hz hk
  obtain ⟨t2, a1, b1⟩ := kk v h' T'.heap (locs ++ L) hpo (by rw [e1]; exact hb) ⟨Nat.le_trans hS.1 (by rw [e1]; exact hz), fun q h1 h2 => by rw [e1, hk q (Nat.lt_of_lt_of_le h1 hS.1) h2]; exact hS.2.1 q h1 h2, fun q hq => by
    rcases List.mem_append.mp hq with h | h
    · exact hS.2.2 q h
    · exact hL q h⟩ T' rfl X'
  exact ⟨t2, st t2 a1, b1⟩
end AXc
theorem cx_blind {G : Gt} {av : List Value} {h : Ht} : FrameBlind (va_Pc av (fun U => GS G U ∧ HP G h U.heap)) := fun a U g mk q => ⟨q.1, q.2.1.calling, q.2.2⟩
theorem cx_pre {G : Gt} {d : Nat} {Y : Yt} {p : Program} {R : Room} {s : State} {m : MethodId} {args : Array Value} {meth : Method} {c : Code} {H : Heap} {locs : List Loc} {h : Ht} {av : List Value} (ac : AC G d Y p R s m args meth c) (hp : HP G h H) (hS : va_S (gO G) s.heap H locs) : ∀ U : State, U.heap = H → s.WarmedH U.vm → va_Pc av (fun U => GS G U ∧ HP G h U.heap) av.toArray U := fun U hU hW => ⟨rfl, ac.gs.go hW hU hS, by rw [hU]; exact hp⟩
/-- what every call of Y' asks: its code is in the tables, its names are plain, its n parameters -/
def YC (Y' : Yt) (n : Nat) : Prop := Cond.code Y'.1 Y'.2.1 Y'.2.2.1 Y'.2.2.2 ∈ tb ∧ (Y'.1.cls ≠ "java/lang/invoke/MethodHandle" ∧ Y'.1.cls ≠ "java/lang/invoke/VarHandle" ∧ (parseMethodDescriptor Y'.1.desc).map (fun d => d.parameters.length) = some n) ∧ Y'.2.2.1 ≤ 40
/-- entry 'index' of 'own' is the static method Y' -/
def cLLS (own : String) (index : Nat) (Y' : Yt) (n : Nat) : Prop := YC Y' n ∧ Cond.methodLink own index Y'.1 ∈ tb ∧ Cond.static Y'.1 ∈ tb ∧ Cond.initialized Y'.1.cls ∈ tb
/-- the same, of a nest mate -/
def cLLN (own : String) (index : Nat) (Y' : Yt) (n : Nat) : Prop := YC Y' n ∧ Cond.methodLinkNest own index Y'.1 RX11 ∈ nestM ∧ Cond.static Y'.1 ∈ tb ∧ Cond.initialized Y'.1.cls ∈ tb
/-- entry 'index' of 'own' is the method Y' of objects of the class C itself -/
def cLLV (own : String) (index : Nat) (Y' : Yt) (n : Nat) : Prop := YC Y' n ∧ Cond.methodLink own index Y'.1 ∈ tb ∧ Cond.instanceMethod Y'.1 ∈ tb ∧ Cond.selects Y'.1.cls Y'.1 Y'.1 ∈ tb ∧ Cond.initialized Y'.1.cls ∈ tb
/-- entry 'index' of 'own' is a constructor -/
def cLLI (own : String) (index : Nat) (Y' : Yt) (n : Nat) : Prop := YC Y' n ∧ Y'.2.2.2 = none ∧ Y'.1.name = "<init>" ∧ Cond.methodLink own index Y'.1 ∈ tb ∧ Cond.instanceMethod Y'.1 ∈ tb ∧ Cond.initialized Y'.1.cls ∈ tb
def cLLJ (own : String) (index : Nat) (Y' : Yt) (n : Nat) : Prop := YC Y' n ∧ Y'.2.2.2 = none ∧ Y'.1.name = "<init>" ∧ Cond.methodLinkNest own index Y'.1 RX11 ∈ nestM ∧ Cond.instanceMethod Y'.1 ∈ tb ∧ Cond.initialized Y'.1.cls ∈ tb
/-- entry 'index' of 'own' is the method Y' of a class above -/
def cLLU (own : String) (index : Nat) (Y' : Yt) (n : Nat) : Prop := YC Y' n ∧ Y'.1.name ≠ "<init>" ∧ Cond.methodLink own index Y'.1 ∈ tb ∧ Cond.sameMethod Y'.1.cls Y'.1.cls Y'.1.name Y'.1.desc ∈ tb ∧ Cond.superclass own Y'.1.cls ∈ tb ∧ Cond.instanceMethod Y'.1 ∈ tb ∧ Cond.initialized Y'.1.cls ∈ tb
/-- entry 'index' of 'own' is the method x; an object of the class C answers it by Y' -/
def cLLO (own C : String) (index : Nat) (x : MethodName) (Y' : Yt) (n : Nat) : Prop := YC Y' n ∧ Cond.methodLink own index x ∈ tb ∧ Cond.sameMethod x.cls x.cls x.name x.desc ∈ tb ∧ Cond.instanceMethod x ∈ tb ∧ Cond.selects C x Y'.1 ∈ tb ∧ Cond.instanceMethod Y'.1 ∈ tb ∧ Cond.initialized Y'.1.cls ∈ tb ∧ (∃ b0 m0 r0, Cond.code x b0 m0 r0 ∈ tb) ∧ x.cls ≠ "java/lang/invoke/MethodHandle" ∧ x.cls ≠ "java/lang/invoke/VarHandle" ∧ (parseMethodDescriptor x.desc).map (fun d => d.parameters.length) = some n
section AXk
variable {G : Gt} {d d1 : Nat} {Y Y' : Yt} {pc index n : Nat} {ls : List (Option Value)} {st st0 av : List Value} {h : Ht} {mc ms mc1 ms1 : Nat} {Post Post1 : Option Value → Ht → Prop}
theorem cx_room {p : Program} {R : Room} {s : State} {m : MethodId} {args : Array Value} {meth : Method} {c : Code} (ac : AC G d Y p R s m args meth c) (hdd : d1 + 1 ≤ d) (hc : YC Y' n) : (cRm d1 mc1 ms1).frames + 1 ≤ R.frames ∧ 8 + (Y'.2.2.1 + 11) + (cRm d1 mc1 ms1).locals ≤ R.locals := by
  have h1 := ac.room
  have h2 := hc.2.2
  show d1 + 1 ≤ R.frames ∧ 8 + (Y'.2.2.1 + 11) + 64 * d1 ≤ R.locals
  omega
theorem ax_callS (hd : decode Y.2.1 pc = .ok (.invokestatic index, 3)) (hl : cLLS Y.1.cls index Y' n) (hn : av.length = n) (hst : st0 = av.reverse ++ st) (hdd : d1 + 1 ≤ d) (hcat : (st.map fun v => v.category).sum ≤ 8) (hC : CX G d1 Y' av h mc1 ms1 Post1) (kk : ∀ r h', Post1 r h' → AX G d Y (pc + 3) ls (r.toList ++ st) h' mc ms Post) : AX G d Y pc ls st0 h (mc1 + mc) (ms1 + ms) Post := by
  intro p e R s m args below meth c Q H locs cells slots jl ac hp hS hlr hce hs kr
  obtain ⟨hY, l1, l2, l3⟩ := hl
  refine w_run (va_runS (As := av) (rest := st) (nL := Y.2.2.1) (Ts := tb) ⟨ac.1, ac.2.1, ac.2.2.2.1, ac.own, ac.hts⟩ hC ⟨callB_of n ac.hts (yW_good hY.1) rfl rfl rfl (ac.hts _ l3) (ac.hts _ l1) hY.2.1 (cx_room ac hdd hY), ac.hts _ l2⟩ ⟨cx_blind, cx_pre ac hp hS⟩ rfl hn hlr.1 hst (lv_room hcat) hd ⟨by omega, by omega⟩) hS (fun r h' H1 locs1 q1 q2 q3 => ?_)
  exact kk r h' q1 p e R s m args below meth c Q H1 locs1 _ _ jl ac q2 q3 hlr (by omega) (by omega) (fun r h' H' locs' cells' slots' pc' jl' hpo hp' hS' c1 c2 => kr r h' H' locs' cells' slots' pc' jl' hpo hp' hS' (by omega) (by omega))
theorem ax_callSN (hd : decode Y.2.1 pc = .ok (.invokestatic index, 3)) (hl : cLLN Y.1.cls index Y' n) (hn : av.length = n) (hst : st0 = av.reverse ++ st) (hdd : d1 + 1 ≤ d) (hcat : (st.map fun v => v.category).sum ≤ 8) (hC : CX G d1 Y' av h mc1 ms1 Post1) (kk : ∀ r h', Post1 r h' → AX G d Y (pc + 3) ls (r.toList ++ st) h' mc ms Post) : AX G d Y pc ls st0 h (mc1 + mc) (ms1 + ms) Post := by
  intro p e R s m args below meth c Q H locs cells slots jl ac hp hS hlr hce hs kr
  obtain ⟨hY, l1, l2, l3⟩ := hl
  refine w_run (va_runSN (As := av) (rest := st) (nL := Y.2.2.1) (Ts := tb) (host := RX11) ⟨ac.1, ac.2.1, ac.2.2.2.1, ac.own, ac.hts⟩ hC ⟨va_cnB n ac.hts (yW_good hY.1) rfl rfl rfl (ac.gs.2.1 _ l1) (ac.hts _ l3) hY.2.1 (cx_room ac hdd hY), ac.hts _ l2, trivial⟩ ⟨cx_blind, cx_pre ac hp hS⟩ rfl hn hlr.1 hst (lv_room hcat) hd ⟨by omega, by omega⟩) hS (fun r h' H1 locs1 q1 q2 q3 => ?_)
  exact kk r h' q1 p e R s m args below meth c Q H1 locs1 _ _ jl ac q2 q3 hlr (by omega) (by omega) (fun r h' H' locs' cells' slots' pc' jl' hpo hp' hS' c1 c2 => kr r h' H' locs' cells' slots' pc' jl' hpo hp' hS' (by omega) (by omega))
theorem ax_recv {p : Program} {R : Room} {s : State} {m : MethodId} {args : Array Value} {meth : Method} {c : Code} {H : Heap} {a ci : Nat} {fs : List Value} {C : String} {T : u_T} {N : Nat} (ac : AC G d Y p R s m args meth c) (hp : HP G h H) (hB : gB G ≤ a) (hn : a < h.1) (hc : h.2 a = .inr (ci, fs)) (hcl : vwCl[ci]? = some (C, T, N)) : ∃ cell : Cell, H[a]? = some cell ∧ cell.vm.isStatics = false ∧ s.vm.findClass C = some cell.cls :=
  va_recv (q := (C, T, N)) ac.gs.1 (hp.one hB hn hc) hcl (q0 := 0) rfl
theorem ax_callV {a ci : Nat} {fs : List Value} {T : u_T} {N : Nat} (hd : decode Y.2.1 pc = .ok (.invokevirtual index, 3)) (hl : cLLV Y.1.cls index Y' n) (hB : gB G ≤ a) (hna : a < h.1) (hc : h.2 a = .inr (ci, fs)) (hcl : vwCl[ci]? = some (Y'.1.cls, T, N)) (hn : av.length = n) (hst : st0 = av.reverse ++ .ref a :: st) (hdd : d1 + 1 ≤ d) (hcat : (st.map fun v => v.category).sum ≤ 8) (hC : CX G d1 Y' (.ref a :: av) h mc1 ms1 Post1) (kk : ∀ r h', Post1 r h' → AX G d Y (pc + 3) ls (r.toList ++ st) h' mc ms Post) : AX G d Y pc ls st0 h (mc1 + mc) (ms1 + ms) Post := by
  intro p e R s m args below meth c Q H locs cells slots jl ac hp hS hlr hce hs kr
  obtain ⟨hY, l1, l2, l3, l4⟩ := hl
  refine w_run (va_runV (C := Y'.1.cls) (As := av) (rest := st) (nL := Y.2.2.1) (Ts := tb) ⟨ac.1, ac.2.1, ac.2.2.2.1, ac.own, ac.hts⟩ hC ⟨callB_of n ac.hts (yW_good hY.1) rfl rfl rfl (ac.hts _ l4) (ac.hts _ l1) hY.2.1 (cx_room ac hdd hY), ac.hts _ l2, ac.hts _ l3⟩ ⟨cx_blind, ax_recv ac hp hB hna hc hcl, cx_pre ac hp hS⟩ rfl hn hlr.1 hst (lv_room hcat) hd ⟨by omega, by omega⟩) hS (fun r h' H1 locs1 q1 q2 q3 => ?_)
  exact kk r h' q1 p e R s m args below meth c Q H1 locs1 _ _ jl ac q2 q3 hlr (by omega) (by omega) (fun r h' H' locs' cells' slots' pc' jl' hpo hp' hS' c1 c2 => kr r h' H' locs' cells' slots' pc' jl' hpo hp' hS' (by omega) (by omega))
theorem ax_callO {a ci : Nat} {fs : List Value} {x : MethodName} {C : String} {T : u_T} {N : Nat} (hd : decode Y.2.1 pc = .ok (.invokevirtual index, 3)) (hl : cLLO Y.1.cls C index x Y' n) (hB : gB G ≤ a) (hna : a < h.1) (hc : h.2 a = .inr (ci, fs)) (hcl : vwCl[ci]? = some (C, T, N)) (hn : av.length = n) (hst : st0 = av.reverse ++ .ref a :: st) (hdd : d1 + 1 ≤ d) (hcat : (st.map fun v => v.category).sum ≤ 8) (hC : CX G d1 Y' (.ref a :: av) h mc1 ms1 Post1) (kk : ∀ r h', Post1 r h' → AX G d Y (pc + 3) ls (r.toList ++ st) h' mc ms Post) : AX G d Y pc ls st0 h (mc1 + mc) (ms1 + ms) Post := by
  intro p e R s m args below meth c Q H locs cells slots jl ac hp hS hlr hce hs kr
  obtain ⟨hY, l1, l2, l3, l4, l5, l6, ⟨b0, m0, r0, l7⟩, l8⟩ := hl
  have hgood : GoodIn tb (va_wsO Y.1.cls index C x.cls x Y'.1 (yW Y')) := by
    intro w hw
    unfold va_wsO at hw
    rcases List.mem_append.mp hw with hw | hw
    · simp only [List.mem_cons, List.not_mem_nil, or_false] at hw
      rcases hw with rfl | rfl | rfl | rfl | rfl | rfl
      · exact ⟨l1, good_of_word (tb_good l1)⟩
      · exact ⟨l2, good_of_word (tb_good l2)⟩
      · exact ⟨l3, good_of_word (tb_good l3)⟩
      · exact ⟨l4, good_of_word (tb_good l4)⟩
      · exact ⟨l5, good_of_word (tb_good l5)⟩
      · exact ⟨l6, good_of_word (tb_good l6)⟩
    · exact yW_good hY.1 w hw
  refine w_run (va_runU (C := C) (As := av) (rest := st) (nL := Y.2.2.1) (Ts := tb) ⟨ac.1, ac.2.1, ac.2.2.2.1, ac.own, ac.hts⟩ hC (va_cwO n ac.hts hgood rfl rfl rfl (b0 := b0) (m0 := m0) (r0 := r0) l7 l8 (cx_room ac hdd hY)) ⟨cx_blind, ax_recv ac hp hB hna hc hcl, cx_pre ac hp hS⟩ rfl hn hlr.1 hst (lv_room hcat) hd ⟨by omega, by omega⟩) hS (fun r h' H1 locs1 q1 q2 q3 => ?_)
  exact kk r h' q1 p e R s m args below meth c Q H1 locs1 _ _ jl ac q2 q3 hlr (by omega) (by omega) (fun r h' H' locs' cells' slots' pc' jl' hpo hp' hS' c1 c2 => kr r h' H' locs' cells' slots' pc' jl' hpo hp' hS' (by omega) (by omega))
theorem ax_callU {a ci : Nat} {fs : List Value} {C : String} {T : u_T} {N : Nat} (hd : decode Y.2.1 pc = .ok (.invokespecial index, 3)) (hl : cLLU Y.1.cls index Y' n) (hB : gB G ≤ a) (hna : a < h.1) (hc : h.2 a = .inr (ci, fs)) (hcl : vwCl[ci]? = some (C, T, N)) (hn : av.length = n) (hst : st0 = av.reverse ++ .ref a :: st) (hdd : d1 + 1 ≤ d) (hcat : (st.map fun v => v.category).sum ≤ 8) (hC : CX G d1 Y' (.ref a :: av) h mc1 ms1 Post1) (kk : ∀ r h', Post1 r h' → AX G d Y (pc + 3) ls (r.toList ++ st) h' mc ms Post) : AX G d Y pc ls st0 h (mc1 + mc) (ms1 + ms) Post := by
  intro p e R s m args below meth c Q H locs cells slots jl ac hp hS hlr hce hs kr
  obtain ⟨hY, l0, l1, l2, l3, l4, l5⟩ := hl
  have hgood : GoodIn tb (va_wsSU Y.1.cls index Y'.1 (yW Y')) := by
    intro w hw
    unfold va_wsSU at hw
    rcases List.mem_append.mp hw with hw | hw
    · simp only [List.mem_cons, List.not_mem_nil, or_false] at hw
      rcases hw with rfl | rfl | rfl | rfl | rfl
      · exact ⟨l1, good_of_word (tb_good l1)⟩
      · exact ⟨l2, good_of_word (tb_good l2)⟩
      · exact ⟨l3, good_of_word (tb_good l3)⟩
      · exact ⟨l4, good_of_word (tb_good l4)⟩
      · exact ⟨l5, good_of_word (tb_good l5)⟩
    · exact yW_good hY.1 w hw
  refine w_run (va_runSU (C := C) (As := av) (rest := st) (nL := Y.2.2.1) (Ts := tb) (ac.gs.1.1 ci _ hcl).2 ⟨ac.1, ac.2.1, ac.2.2.2.1, ac.own, ac.hts⟩ hC (va_cwSU n ac.hts hgood rfl rfl rfl ⟨l0, hY.2.1.2.2⟩ (cx_room ac hdd hY)) ⟨cx_blind, ax_recv ac hp hB hna hc hcl, cx_pre ac hp hS⟩ rfl hn hlr.1 hst (lv_room hcat) hd ⟨by omega, by omega⟩) hS (fun r h' H1 locs1 q1 q2 q3 => ?_)
  exact kk r h' q1 p e R s m args below meth c Q H1 locs1 _ _ jl ac q2 q3 hlr (by omega) (by omega) (fun r h' H' locs' cells' slots' pc' jl' hpo hp' hS' c1 c2 => kr r h' H' locs' cells' slots' pc' jl' hpo hp' hS' (by omega) (by omega))
theorem ax_callI {a : Nat} (hd : decode Y.2.1 pc = .ok (.invokespecial index, 3)) (hl : cLLI Y.1.cls index Y' n) (hn : av.length = n) (hst : st0 = av.reverse ++ .ref a :: st) (hdd : d1 + 1 ≤ d) (hcat : (st.map fun v => v.category).sum ≤ 8) (hC : CX G d1 Y' (.ref a :: av) h mc1 ms1 Post1) (kk : ∀ r h', Post1 r h' → AX G d Y (pc + 3) ls (r.toList ++ st) h' mc ms Post) : AX G d Y pc ls st0 h (mc1 + mc) (ms1 + ms) Post := by
  intro p e R s m args below meth c Q H locs cells slots jl ac hp hS hlr hce hs kr
  obtain ⟨hY, l0, l00, l1, l2, l3⟩ := hl
  refine w_run (va_runI (As := av) (rest := st) (nL := Y.2.2.1) (Ts := tb) ⟨ac.1, ac.2.1, ac.2.2.2.1, ac.own, ac.hts⟩ hC ⟨callB_of n ac.hts (yW_good hY.1) (by rw [← l0]; rfl) rfl rfl (ac.hts _ l3) (ac.hts _ l1) hY.2.1 (cx_room ac hdd hY), l00, ac.hts _ l2⟩ ⟨cx_blind, cx_pre ac hp hS⟩ rfl hn hlr.1 hst (lv_room hcat) hd ⟨by omega, by omega⟩) hS (fun r h' H1 locs1 q1 q2 q3 => ?_)
  exact kk r h' q1 p e R s m args below meth c Q H1 locs1 _ _ jl ac q2 q3 hlr (by omega) (by omega) (fun r h' H' locs' cells' slots' pc' jl' hpo hp' hS' c1 c2 => kr r h' H' locs' cells' slots' pc' jl' hpo hp' hS' (by omega) (by omega))
theorem ax_callJ {a : Nat} (hd : decode Y.2.1 pc = .ok (.invokespecial index, 3)) (hl : cLLJ Y.1.cls index Y' n) (hn : av.length = n) (hst : st0 = av.reverse ++ .ref a :: st) (hdd : d1 + 1 ≤ d) (hcat : (st.map fun v => v.category).sum ≤ 8) (hC : CX G d1 Y' (.ref a :: av) h mc1 ms1 Post1) (kk : ∀ r h', Post1 r h' → AX G d Y (pc + 3) ls (r.toList ++ st) h' mc ms Post) : AX G d Y pc ls st0 h (mc1 + mc) (ms1 + ms) Post := by
  intro p e R s m args below meth c Q H locs cells slots jl ac hp hS hlr hce hs kr
  obtain ⟨hY, l0, l00, l1, l2, l3⟩ := hl
  refine w_run (va_runIN (As := av) (rest := st) (nL := Y.2.2.1) (Ts := tb) (host := RX11) ⟨ac.1, ac.2.1, ac.2.2.2.1, ac.own, ac.hts⟩ hC ⟨va_cnB n ac.hts (yW_good hY.1) (by rw [← l0]; rfl) rfl rfl (ac.gs.2.1 _ l1) (ac.hts _ l3) hY.2.1 (cx_room ac hdd hY), l00, ac.hts _ l2⟩ ⟨cx_blind, cx_pre ac hp hS⟩ rfl hn hlr.1 hst (lv_room hcat) hd ⟨by omega, by omega⟩) hS (fun r h' H1 locs1 q1 q2 q3 => ?_)
  exact kk r h' q1 p e R s m args below meth c Q H1 locs1 _ _ jl ac q2 q3 hlr (by omega) (by omega) (fun r h' H' locs' cells' slots' pc' jl' hpo hp' hS' c1 c2 => kr r h' H' locs' cells' slots' pc' jl' hpo hp' hS' (by omega) (by omega))
end AXk
end
section
/-! THE CALCULUS OVER A PICTURE: S is what the cells mean, Pic S h that the heap holds it -/
def PX {σ : Type} (G : Gt) (Pic : σ → Ht → Prop) (d : Nat) (Y : Yt) (pc : Nat) (ls : List (Option Value)) (st : List Value) (S : σ) (mc ms : Nat) (Post : Option Value → σ → Prop) : Prop :=
  ∀ h : Ht, Pic S h → AX G d Y pc ls st h mc ms (fun r h' => ∃ S' : σ, Pic S' h' ∧ Post r S')
def PC {σ : Type} (G : Gt) (Pic : σ → Ht → Prop) (d : Nat) (Y : Yt) (av : List Value) (S : σ) (mc ms : Nat) (Post : Option Value → σ → Prop) : Prop :=
  ∀ h : Ht, Pic S h → CX G d Y av h mc ms (fun r h' => ∃ S' : σ, Pic S' h' ∧ Post r S')
/-- an answer that is an int; none -/
def ri {σ : Type} (P : Int32 → σ → Prop) : Option Value → σ → Prop := fun r S => ∃ x : Int32, r = some (.int x) ∧ P x S
def rv {σ : Type} (P : σ → Prop) : Option Value → σ → Prop := fun r S => r = none ∧ P S
def rr {σ : Type} (P : Value → σ → Prop) : Option Value → σ → Prop := fun r S => ∃ x : Value, r = some x ∧ P x S
/-- a static method that touches nothing and answers x -/
def PS (G : Gt) (d : Nat) (Y : Yt) (av : List Value) (x : Int32) : Prop := ∀ h : Ht, CX G d Y av h 0 0 (fun r h' => r = some (.int x) ∧ h' = h)
theorem pc_of {σ : Type} {G : Gt} {Pic : σ → Ht → Prop} {d : Nat} {Y : Yt} {av : List Value} {ls : List (Option Value)} {S : σ} {mc ms : Nat} {Post : Option Value → σ → Prop} (hy : plainName Y.1.cls = true) (hls : enL av Y.2.2.1 = ls) (hlen : (lg_sl av).length ≤ Y.2.2.1) (k : PX G Pic d Y 0 ls [] S mc ms Post) : PC G Pic d Y av S mc ms Post := fun h hp => cx_of hy hls hlen (k h hp)
theorem ps_of {G : Gt} {d : Nat} {Y : Yt} {av : List Value} {ls : List (Option Value)} {x : Int32} (hy : plainName Y.1.cls = true) (hls : enL av Y.2.2.1 = ls) (hlen : (lg_sl av).length ≤ Y.2.2.1) (k : ∀ h : Ht, AX G d Y 0 ls [] h 0 0 (fun r h' => r = some (.int x) ∧ h' = h)) : PS G d Y av x := fun h => cx_of hy hls hlen (k h)
section PXr
variable {σ : Type} {G : Gt} {Pic : σ → Ht → Prop} {d : Nat} {Y : Yt} {pc : Nat} {ls : List (Option Value)} {st : List Value} {S : σ} {mc ms : Nat} {Post : Option Value → σ → Prop}
theorem px_post {Post' : Option Value → σ → Prop} (hi : ∀ r S', Post' r S' → Post r S') (k : PX G Pic d Y pc ls st S mc ms Post') : PX G Pic d Y pc ls st S mc ms Post :=
  fun h hp => ax_post (fun r h' ⟨S', a, b⟩ => ⟨S', a, hi r S' b⟩) (k h hp)
theorem px_top {x y : Int32} (e : x = y) (k : PX G Pic d Y pc ls (.int y :: st) S mc ms Post) : PX G Pic d Y pc ls (.int x :: st) S mc ms Post := by subst e; exact k
theorem px_topl {x y : Int64} (e : x = y) (k : PX G Pic d Y pc ls (.long y :: st) S mc ms Post) : PX G Pic d Y pc ls (.long x :: st) S mc ms Post := by subst e; exact k
theorem px_iconst {n : Int} {v : Int32} (hd : decode Y.2.1 pc = .ok (.iconst n, 1)) (hv : Int32.ofInt n = v) (k : PX G Pic d Y (pc + 1) ls (.int v :: st) S mc ms Post) : PX G Pic d Y pc ls (st) S mc ms Post := fun h hp => ax_iconst hd hv (k h hp)
theorem px_bipush {n : Int} {v : Int32} (hd : decode Y.2.1 pc = .ok (.bipush n, 2)) (hv : (Int8.ofInt n).toInt32 = v) (k : PX G Pic d Y (pc + 2) ls (.int v :: st) S mc ms Post) : PX G Pic d Y pc ls (st) S mc ms Post := fun h hp => ax_bipush hd hv (k h hp)
theorem px_sipush {n : Int} {v : Int32} (hd : decode Y.2.1 pc = .ok (.sipush n, 3)) (hv : (Int16.ofInt n).toInt32 = v) (k : PX G Pic d Y (pc + 3) ls (.int v :: st) S mc ms Post) : PX G Pic d Y pc ls (st) S mc ms Post := fun h hp => ax_sipush hd hv (k h hp)
theorem px_lconst {n : Fin 2} {v : Int64} (hd : decode Y.2.1 pc = .ok (.lconst n, 1)) (hv : Int64.ofNat (n : Nat) = v) (k : PX G Pic d Y (pc + 1) ls (.long v :: st) S mc ms Post) : PX G Pic d Y pc ls (st) S mc ms Post := fun h hp => ax_lconst hd hv (k h hp)
theorem px_ldc {index : Nat} {v : Int32} (hd : decode Y.2.1 pc = .ok (.ldc index, 2)) (hw : Cond.constant Y.1.cls index v ∈ tb) (k : PX G Pic d Y (pc + 2) ls (.int v :: st) S mc ms Post) : PX G Pic d Y pc ls (st) S mc ms Post := fun h hp => ax_ldc hd hw (k h hp)
theorem px_ldc2 {index : Nat} {v : Int64} (hd : decode Y.2.1 pc = .ok (.ldc2_w index, 3)) (hw : Cond.constantLong Y.1.cls index v ∈ tb) (k : PX G Pic d Y (pc + 3) ls (.long v :: st) S mc ms Post) : PX G Pic d Y pc ls (st) S mc ms Post := fun h hp => ax_ldc2 hd hw (k h hp)
theorem px_iload_n {k : Fin 4} {i : Nat} {x : Int32} (hd : decode Y.2.1 pc = .ok (.iload_n k, 1)) (hi : (k : Nat) = i) (hv : ls[i]? = some (some (.int x))) (kk : PX G Pic d Y (pc + 1) ls (.int x :: st) S mc ms Post) : PX G Pic d Y pc ls (st) S mc ms Post := fun h hp => ax_iload_n hd hi hv (kk h hp)
theorem px_iload {i : Nat} {x : Int32} (hd : decode Y.2.1 pc = .ok (.iload i, 2)) (hv : ls[i]? = some (some (.int x))) (kk : PX G Pic d Y (pc + 2) ls (.int x :: st) S mc ms Post) : PX G Pic d Y pc ls (st) S mc ms Post := fun h hp => ax_iload hd hv (kk h hp)
theorem px_aload_n {k : Fin 4} {i : Nat} {x : Nat} (hd : decode Y.2.1 pc = .ok (.aload_n k, 1)) (hi : (k : Nat) = i) (hv : ls[i]? = some (some (.ref x))) (kk : PX G Pic d Y (pc + 1) ls (.ref x :: st) S mc ms Post) : PX G Pic d Y pc ls (st) S mc ms Post := fun h hp => ax_aload_n hd hi hv (kk h hp)
theorem px_aload {i : Nat} {x : Nat} (hd : decode Y.2.1 pc = .ok (.aload i, 2)) (hv : ls[i]? = some (some (.ref x))) (kk : PX G Pic d Y (pc + 2) ls (.ref x :: st) S mc ms Post) : PX G Pic d Y pc ls (st) S mc ms Post := fun h hp => ax_aload hd hv (kk h hp)
theorem px_lload_n {k : Fin 4} {i : Nat} {x : Int64} (hd : decode Y.2.1 pc = .ok (.lload_n k, 1)) (hi : (k : Nat) = i) (hv : ls[i]? = some (some (.long x))) (kk : PX G Pic d Y (pc + 1) ls (.long x :: st) S mc ms Post) : PX G Pic d Y pc ls (st) S mc ms Post := fun h hp => ax_lload_n hd hi hv (kk h hp)
theorem px_lload {i : Nat} {x : Int64} (hd : decode Y.2.1 pc = .ok (.lload i, 2)) (hv : ls[i]? = some (some (.long x))) (kk : PX G Pic d Y (pc + 2) ls (.long x :: st) S mc ms Post) : PX G Pic d Y pc ls (st) S mc ms Post := fun h hp => ax_lload hd hv (kk h hp)
theorem px_aload_nN {k : Fin 4} {i : Nat} (hd : decode Y.2.1 pc = .ok (.aload_n k, 1)) (hi : (k : Nat) = i) (hv : ls[i]? = some (some .null)) (kk : PX G Pic d Y (pc + 1) ls (.null :: st) S mc ms Post) : PX G Pic d Y pc ls (st) S mc ms Post := fun h hp => ax_aload_nN hd hi hv (kk h hp)
theorem px_aloadN {i : Nat} (hd : decode Y.2.1 pc = .ok (.aload i, 2)) (hv : ls[i]? = some (some .null)) (kk : PX G Pic d Y (pc + 2) ls (.null :: st) S mc ms Post) : PX G Pic d Y pc ls (st) S mc ms Post := fun h hp => ax_aloadN hd hv (kk h hp)
theorem px_istore_n0 {z : Option Value} {x : Int32} (hd : decode Y.2.1 pc = .ok (.istore_n 0, 1)) (hn : 0 < Y.2.2.1) (kk : PX G Pic d Y (pc + 1) (some (.int x) :: ls) (st) S mc ms Post) : PX G Pic d Y pc (z :: ls) ((.int x) :: st) S mc ms Post := fun h hp => ax_istore_n0' hd hn (kk h hp)
theorem px_astore_n0 {z : Option Value} {x : Nat} (hd : decode Y.2.1 pc = .ok (.astore_n 0, 1)) (hn : 0 < Y.2.2.1) (kk : PX G Pic d Y (pc + 1) (some (.ref x) :: ls) (st) S mc ms Post) : PX G Pic d Y pc (z :: ls) ((.ref x) :: st) S mc ms Post := fun h hp => ax_astore_n0' hd hn (kk h hp)
theorem px_astoreN_n0 {z : Option Value} (hd : decode Y.2.1 pc = .ok (.astore_n 0, 1)) (hn : 0 < Y.2.2.1) (kk : PX G Pic d Y (pc + 1) (some .null :: ls) (st) S mc ms Post) : PX G Pic d Y pc (z :: ls) (.null :: st) S mc ms Post := fun h hp => ax_astoreN_n0' hd hn (kk h hp)
theorem px_iinc_0 {n : Int} {x v : Int32} (hd : decode Y.2.1 pc = .ok (.iinc 0 n, 3)) (hv : Int32.ofInt n = v) (hn : 0 < Y.2.2.1) (kk : PX G Pic d Y (pc + 3) (some (.int (x + v)) :: ls) (st) S mc ms Post) : PX G Pic d Y pc (some (.int x) :: ls) (st) S mc ms Post := fun h hp => ax_iinc_0' hd hv hn (kk h hp)
theorem px_istore_n1 {a0 z : Option Value} {x : Int32} (hd : decode Y.2.1 pc = .ok (.istore_n 1, 1)) (hn : 1 < Y.2.2.1) (hq : nc1 a0 = true) (kk : PX G Pic d Y (pc + 1) (a0 :: some (.int x) :: ls) (st) S mc ms Post) : PX G Pic d Y pc (a0 :: z :: ls) ((.int x) :: st) S mc ms Post := fun h hp => ax_istore_n1' hd hn hq (kk h hp)
theorem px_astore_n1 {a0 z : Option Value} {x : Nat} (hd : decode Y.2.1 pc = .ok (.astore_n 1, 1)) (hn : 1 < Y.2.2.1) (hq : nc1 a0 = true) (kk : PX G Pic d Y (pc + 1) (a0 :: some (.ref x) :: ls) (st) S mc ms Post) : PX G Pic d Y pc (a0 :: z :: ls) ((.ref x) :: st) S mc ms Post := fun h hp => ax_astore_n1' hd hn hq (kk h hp)
theorem px_astoreN_n1 {a0 z : Option Value} (hd : decode Y.2.1 pc = .ok (.astore_n 1, 1)) (hn : 1 < Y.2.2.1) (hq : nc1 a0 = true) (kk : PX G Pic d Y (pc + 1) (a0 :: some .null :: ls) (st) S mc ms Post) : PX G Pic d Y pc (a0 :: z :: ls) (.null :: st) S mc ms Post := fun h hp => ax_astoreN_n1' hd hn hq (kk h hp)
theorem px_iinc_1 {a0 : Option Value} {n : Int} {x v : Int32} (hd : decode Y.2.1 pc = .ok (.iinc 1 n, 3)) (hv : Int32.ofInt n = v) (hn : 1 < Y.2.2.1) (hq : nc1 a0 = true) (kk : PX G Pic d Y (pc + 3) (a0 :: some (.int (x + v)) :: ls) (st) S mc ms Post) : PX G Pic d Y pc (a0 :: some (.int x) :: ls) (st) S mc ms Post := fun h hp => ax_iinc_1' hd hv hn hq (kk h hp)
theorem px_istore_n2 {a0 a1 z : Option Value} {x : Int32} (hd : decode Y.2.1 pc = .ok (.istore_n 2, 1)) (hn : 2 < Y.2.2.1) (hq : nc1 a1 = true) (kk : PX G Pic d Y (pc + 1) (a0 :: a1 :: some (.int x) :: ls) (st) S mc ms Post) : PX G Pic d Y pc (a0 :: a1 :: z :: ls) ((.int x) :: st) S mc ms Post := fun h hp => ax_istore_n2' hd hn hq (kk h hp)
theorem px_astore_n2 {a0 a1 z : Option Value} {x : Nat} (hd : decode Y.2.1 pc = .ok (.astore_n 2, 1)) (hn : 2 < Y.2.2.1) (hq : nc1 a1 = true) (kk : PX G Pic d Y (pc + 1) (a0 :: a1 :: some (.ref x) :: ls) (st) S mc ms Post) : PX G Pic d Y pc (a0 :: a1 :: z :: ls) ((.ref x) :: st) S mc ms Post := fun h hp => ax_astore_n2' hd hn hq (kk h hp)
theorem px_astoreN_n2 {a0 a1 z : Option Value} (hd : decode Y.2.1 pc = .ok (.astore_n 2, 1)) (hn : 2 < Y.2.2.1) (hq : nc1 a1 = true) (kk : PX G Pic d Y (pc + 1) (a0 :: a1 :: some .null :: ls) (st) S mc ms Post) : PX G Pic d Y pc (a0 :: a1 :: z :: ls) (.null :: st) S mc ms Post := fun h hp => ax_astoreN_n2' hd hn hq (kk h hp)
theorem px_iinc_2 {a0 a1 : Option Value} {n : Int} {x v : Int32} (hd : decode Y.2.1 pc = .ok (.iinc 2 n, 3)) (hv : Int32.ofInt n = v) (hn : 2 < Y.2.2.1) (hq : nc1 a1 = true) (kk : PX G Pic d Y (pc + 3) (a0 :: a1 :: some (.int (x + v)) :: ls) (st) S mc ms Post) : PX G Pic d Y pc (a0 :: a1 :: some (.int x) :: ls) (st) S mc ms Post := fun h hp => ax_iinc_2' hd hv hn hq (kk h hp)
theorem px_istore_n3 {a0 a1 a2 z : Option Value} {x : Int32} (hd : decode Y.2.1 pc = .ok (.istore_n 3, 1)) (hn : 3 < Y.2.2.1) (hq : nc1 a2 = true) (kk : PX G Pic d Y (pc + 1) (a0 :: a1 :: a2 :: some (.int x) :: ls) (st) S mc ms Post) : PX G Pic d Y pc (a0 :: a1 :: a2 :: z :: ls) ((.int x) :: st) S mc ms Post := fun h hp => ax_istore_n3' hd hn hq (kk h hp)
theorem px_astore_n3 {a0 a1 a2 z : Option Value} {x : Nat} (hd : decode Y.2.1 pc = .ok (.astore_n 3, 1)) (hn : 3 < Y.2.2.1) (hq : nc1 a2 = true) (kk : PX G Pic d Y (pc + 1) (a0 :: a1 :: a2 :: some (.ref x) :: ls) (st) S mc ms Post) : PX G Pic d Y pc (a0 :: a1 :: a2 :: z :: ls) ((.ref x) :: st) S mc ms Post := fun h hp => ax_astore_n3' hd hn hq (kk h hp)
theorem px_astoreN_n3 {a0 a1 a2 z : Option Value} (hd : decode Y.2.1 pc = .ok (.astore_n 3, 1)) (hn : 3 < Y.2.2.1) (hq : nc1 a2 = true) (kk : PX G Pic d Y (pc + 1) (a0 :: a1 :: a2 :: some .null :: ls) (st) S mc ms Post) : PX G Pic d Y pc (a0 :: a1 :: a2 :: z :: ls) (.null :: st) S mc ms Post := fun h hp => ax_astoreN_n3' hd hn hq (kk h hp)
theorem px_iinc_3 {a0 a1 a2 : Option Value} {n : Int} {x v : Int32} (hd : decode Y.2.1 pc = .ok (.iinc 3 n, 3)) (hv : Int32.ofInt n = v) (hn : 3 < Y.2.2.1) (hq : nc1 a2 = true) (kk : PX G Pic d Y (pc + 3) (a0 :: a1 :: a2 :: some (.int (x + v)) :: ls) (st) S mc ms Post) : PX G Pic d Y pc (a0 :: a1 :: a2 :: some (.int x) :: ls) (st) S mc ms Post := fun h hp => ax_iinc_3' hd hv hn hq (kk h hp)
theorem px_istore_4 {a0 a1 a2 a3 z : Option Value} {x : Int32} (hd : decode Y.2.1 pc = .ok (.istore 4, 2)) (hn : 4 < Y.2.2.1) (hq : nc1 a3 = true) (kk : PX G Pic d Y (pc + 2) (a0 :: a1 :: a2 :: a3 :: some (.int x) :: ls) (st) S mc ms Post) : PX G Pic d Y pc (a0 :: a1 :: a2 :: a3 :: z :: ls) ((.int x) :: st) S mc ms Post := fun h hp => ax_istore_4' hd hn hq (kk h hp)
theorem px_astore_4 {a0 a1 a2 a3 z : Option Value} {x : Nat} (hd : decode Y.2.1 pc = .ok (.astore 4, 2)) (hn : 4 < Y.2.2.1) (hq : nc1 a3 = true) (kk : PX G Pic d Y (pc + 2) (a0 :: a1 :: a2 :: a3 :: some (.ref x) :: ls) (st) S mc ms Post) : PX G Pic d Y pc (a0 :: a1 :: a2 :: a3 :: z :: ls) ((.ref x) :: st) S mc ms Post := fun h hp => ax_astore_4' hd hn hq (kk h hp)
theorem px_astoreN_4 {a0 a1 a2 a3 z : Option Value} (hd : decode Y.2.1 pc = .ok (.astore 4, 2)) (hn : 4 < Y.2.2.1) (hq : nc1 a3 = true) (kk : PX G Pic d Y (pc + 2) (a0 :: a1 :: a2 :: a3 :: some .null :: ls) (st) S mc ms Post) : PX G Pic d Y pc (a0 :: a1 :: a2 :: a3 :: z :: ls) (.null :: st) S mc ms Post := fun h hp => ax_astoreN_4' hd hn hq (kk h hp)
theorem px_iinc_4 {a0 a1 a2 a3 : Option Value} {n : Int} {x v : Int32} (hd : decode Y.2.1 pc = .ok (.iinc 4 n, 3)) (hv : Int32.ofInt n = v) (hn : 4 < Y.2.2.1) (hq : nc1 a3 = true) (kk : PX G Pic d Y (pc + 3) (a0 :: a1 :: a2 :: a3 :: some (.int (x + v)) :: ls) (st) S mc ms Post) : PX G Pic d Y pc (a0 :: a1 :: a2 :: a3 :: some (.int x) :: ls) (st) S mc ms Post := fun h hp => ax_iinc_4' hd hv hn hq (kk h hp)
theorem px_istore_5 {a0 a1 a2 a3 a4 z : Option Value} {x : Int32} (hd : decode Y.2.1 pc = .ok (.istore 5, 2)) (hn : 5 < Y.2.2.1) (hq : nc1 a4 = true) (kk : PX G Pic d Y (pc + 2) (a0 :: a1 :: a2 :: a3 :: a4 :: some (.int x) :: ls) (st) S mc ms Post) : PX G Pic d Y pc (a0 :: a1 :: a2 :: a3 :: a4 :: z :: ls) ((.int x) :: st) S mc ms Post := fun h hp => ax_istore_5' hd hn hq (kk h hp)
theorem px_astore_5 {a0 a1 a2 a3 a4 z : Option Value} {x : Nat} (hd : decode Y.2.1 pc = .ok (.astore 5, 2)) (hn : 5 < Y.2.2.1) (hq : nc1 a4 = true) (kk : PX G Pic d Y (pc + 2) (a0 :: a1 :: a2 :: a3 :: a4 :: some (.ref x) :: ls) (st) S mc ms Post) : PX G Pic d Y pc (a0 :: a1 :: a2 :: a3 :: a4 :: z :: ls) ((.ref x) :: st) S mc ms Post := fun h hp => ax_astore_5' hd hn hq (kk h hp)
theorem px_astoreN_5 {a0 a1 a2 a3 a4 z : Option Value} (hd : decode Y.2.1 pc = .ok (.astore 5, 2)) (hn : 5 < Y.2.2.1) (hq : nc1 a4 = true) (kk : PX G Pic d Y (pc + 2) (a0 :: a1 :: a2 :: a3 :: a4 :: some .null :: ls) (st) S mc ms Post) : PX G Pic d Y pc (a0 :: a1 :: a2 :: a3 :: a4 :: z :: ls) (.null :: st) S mc ms Post := fun h hp => ax_astoreN_5' hd hn hq (kk h hp)
theorem px_iinc_5 {a0 a1 a2 a3 a4 : Option Value} {n : Int} {x v : Int32} (hd : decode Y.2.1 pc = .ok (.iinc 5 n, 3)) (hv : Int32.ofInt n = v) (hn : 5 < Y.2.2.1) (hq : nc1 a4 = true) (kk : PX G Pic d Y (pc + 3) (a0 :: a1 :: a2 :: a3 :: a4 :: some (.int (x + v)) :: ls) (st) S mc ms Post) : PX G Pic d Y pc (a0 :: a1 :: a2 :: a3 :: a4 :: some (.int x) :: ls) (st) S mc ms Post := fun h hp => ax_iinc_5' hd hv hn hq (kk h hp)
theorem px_istore_6 {a0 a1 a2 a3 a4 a5 z : Option Value} {x : Int32} (hd : decode Y.2.1 pc = .ok (.istore 6, 2)) (hn : 6 < Y.2.2.1) (hq : nc1 a5 = true) (kk : PX G Pic d Y (pc + 2) (a0 :: a1 :: a2 :: a3 :: a4 :: a5 :: some (.int x) :: ls) (st) S mc ms Post) : PX G Pic d Y pc (a0 :: a1 :: a2 :: a3 :: a4 :: a5 :: z :: ls) ((.int x) :: st) S mc ms Post := fun h hp => ax_istore_6' hd hn hq (kk h hp)
theorem px_astore_6 {a0 a1 a2 a3 a4 a5 z : Option Value} {x : Nat} (hd : decode Y.2.1 pc = .ok (.astore 6, 2)) (hn : 6 < Y.2.2.1) (hq : nc1 a5 = true) (kk : PX G Pic d Y (pc + 2) (a0 :: a1 :: a2 :: a3 :: a4 :: a5 :: some (.ref x) :: ls) (st) S mc ms Post) : PX G Pic d Y pc (a0 :: a1 :: a2 :: a3 :: a4 :: a5 :: z :: ls) ((.ref x) :: st) S mc ms Post := fun h hp => ax_astore_6' hd hn hq (kk h hp)
theorem px_astoreN_6 {a0 a1 a2 a3 a4 a5 z : Option Value} (hd : decode Y.2.1 pc = .ok (.astore 6, 2)) (hn : 6 < Y.2.2.1) (hq : nc1 a5 = true) (kk : PX G Pic d Y (pc + 2) (a0 :: a1 :: a2 :: a3 :: a4 :: a5 :: some .null :: ls) (st) S mc ms Post) : PX G Pic d Y pc (a0 :: a1 :: a2 :: a3 :: a4 :: a5 :: z :: ls) (.null :: st) S mc ms Post := fun h hp => ax_astoreN_6' hd hn hq (kk h hp)
theorem px_iinc_6 {a0 a1 a2 a3 a4 a5 : Option Value} {n : Int} {x v : Int32} (hd : decode Y.2.1 pc = .ok (.iinc 6 n, 3)) (hv : Int32.ofInt n = v) (hn : 6 < Y.2.2.1) (hq : nc1 a5 = true) (kk : PX G Pic d Y (pc + 3) (a0 :: a1 :: a2 :: a3 :: a4 :: a5 :: some (.int (x + v)) :: ls) (st) S mc ms Post) : PX G Pic d Y pc (a0 :: a1 :: a2 :: a3 :: a4 :: a5 :: some (.int x) :: ls) (st) S mc ms Post := fun h hp => ax_iinc_6' hd hv hn hq (kk h hp)
theorem px_istore_7 {a0 a1 a2 a3 a4 a5 a6 z : Option Value} {x : Int32} (hd : decode Y.2.1 pc = .ok (.istore 7, 2)) (hn : 7 < Y.2.2.1) (hq : nc1 a6 = true) (kk : PX G Pic d Y (pc + 2) (a0 :: a1 :: a2 :: a3 :: a4 :: a5 :: a6 :: some (.int x) :: ls) (st) S mc ms Post) : PX G Pic d Y pc (a0 :: a1 :: a2 :: a3 :: a4 :: a5 :: a6 :: z :: ls) ((.int x) :: st) S mc ms Post := fun h hp => ax_istore_7' hd hn hq (kk h hp)
theorem px_astore_7 {a0 a1 a2 a3 a4 a5 a6 z : Option Value} {x : Nat} (hd : decode Y.2.1 pc = .ok (.astore 7, 2)) (hn : 7 < Y.2.2.1) (hq : nc1 a6 = true) (kk : PX G Pic d Y (pc + 2) (a0 :: a1 :: a2 :: a3 :: a4 :: a5 :: a6 :: some (.ref x) :: ls) (st) S mc ms Post) : PX G Pic d Y pc (a0 :: a1 :: a2 :: a3 :: a4 :: a5 :: a6 :: z :: ls) ((.ref x) :: st) S mc ms Post := fun h hp => ax_astore_7' hd hn hq (kk h hp)
theorem px_astoreN_7 {a0 a1 a2 a3 a4 a5 a6 z : Option Value} (hd : decode Y.2.1 pc = .ok (.astore 7, 2)) (hn : 7 < Y.2.2.1) (hq : nc1 a6 = true) (kk : PX G Pic d Y (pc + 2) (a0 :: a1 :: a2 :: a3 :: a4 :: a5 :: a6 :: some .null :: ls) (st) S mc ms Post) : PX G Pic d Y pc (a0 :: a1 :: a2 :: a3 :: a4 :: a5 :: a6 :: z :: ls) (.null :: st) S mc ms Post := fun h hp => ax_astoreN_7' hd hn hq (kk h hp)
theorem px_iinc_7 {a0 a1 a2 a3 a4 a5 a6 : Option Value} {n : Int} {x v : Int32} (hd : decode Y.2.1 pc = .ok (.iinc 7 n, 3)) (hv : Int32.ofInt n = v) (hn : 7 < Y.2.2.1) (hq : nc1 a6 = true) (kk : PX G Pic d Y (pc + 3) (a0 :: a1 :: a2 :: a3 :: a4 :: a5 :: a6 :: some (.int (x + v)) :: ls) (st) S mc ms Post) : PX G Pic d Y pc (a0 :: a1 :: a2 :: a3 :: a4 :: a5 :: a6 :: some (.int x) :: ls) (st) S mc ms Post := fun h hp => ax_iinc_7' hd hv hn hq (kk h hp)
theorem px_istore_8 {a0 a1 a2 a3 a4 a5 a6 a7 z : Option Value} {x : Int32} (hd : decode Y.2.1 pc = .ok (.istore 8, 2)) (hn : 8 < Y.2.2.1) (hq : nc1 a7 = true) (kk : PX G Pic d Y (pc + 2) (a0 :: a1 :: a2 :: a3 :: a4 :: a5 :: a6 :: a7 :: some (.int x) :: ls) (st) S mc ms Post) : PX G Pic d Y pc (a0 :: a1 :: a2 :: a3 :: a4 :: a5 :: a6 :: a7 :: z :: ls) ((.int x) :: st) S mc ms Post := fun h hp => ax_istore_8' hd hn hq (kk h hp)
theorem px_astore_8 {a0 a1 a2 a3 a4 a5 a6 a7 z : Option Value} {x : Nat} (hd : decode Y.2.1 pc = .ok (.astore 8, 2)) (hn : 8 < Y.2.2.1) (hq : nc1 a7 = true) (kk : PX G Pic d Y (pc + 2) (a0 :: a1 :: a2 :: a3 :: a4 :: a5 :: a6 :: a7 :: some (.ref x) :: ls) (st) S mc ms Post) : PX G Pic d Y pc (a0 :: a1 :: a2 :: a3 :: a4 :: a5 :: a6 :: a7 :: z :: ls) ((.ref x) :: st) S mc ms Post := fun h hp => ax_astore_8' hd hn hq (kk h hp)
theorem px_astoreN_8 {a0 a1 a2 a3 a4 a5 a6 a7 z : Option Value} (hd : decode Y.2.1 pc = .ok (.astore 8, 2)) (hn : 8 < Y.2.2.1) (hq : nc1 a7 = true) (kk : PX G Pic d Y (pc + 2) (a0 :: a1 :: a2 :: a3 :: a4 :: a5 :: a6 :: a7 :: some .null :: ls) (st) S mc ms Post) : PX G Pic d Y pc (a0 :: a1 :: a2 :: a3 :: a4 :: a5 :: a6 :: a7 :: z :: ls) (.null :: st) S mc ms Post := fun h hp => ax_astoreN_8' hd hn hq (kk h hp)
theorem px_iinc_8 {a0 a1 a2 a3 a4 a5 a6 a7 : Option Value} {n : Int} {x v : Int32} (hd : decode Y.2.1 pc = .ok (.iinc 8 n, 3)) (hv : Int32.ofInt n = v) (hn : 8 < Y.2.2.1) (hq : nc1 a7 = true) (kk : PX G Pic d Y (pc + 3) (a0 :: a1 :: a2 :: a3 :: a4 :: a5 :: a6 :: a7 :: some (.int (x + v)) :: ls) (st) S mc ms Post) : PX G Pic d Y pc (a0 :: a1 :: a2 :: a3 :: a4 :: a5 :: a6 :: a7 :: some (.int x) :: ls) (st) S mc ms Post := fun h hp => ax_iinc_8' hd hv hn hq (kk h hp)
theorem px_istore_9 {a0 a1 a2 a3 a4 a5 a6 a7 a8 z : Option Value} {x : Int32} (hd : decode Y.2.1 pc = .ok (.istore 9, 2)) (hn : 9 < Y.2.2.1) (hq : nc1 a8 = true) (kk : PX G Pic d Y (pc + 2) (a0 :: a1 :: a2 :: a3 :: a4 :: a5 :: a6 :: a7 :: a8 :: some (.int x) :: ls) (st) S mc ms Post) : PX G Pic d Y pc (a0 :: a1 :: a2 :: a3 :: a4 :: a5 :: a6 :: a7 :: a8 :: z :: ls) ((.int x) :: st) S mc ms Post := fun h hp => ax_istore_9' hd hn hq (kk h hp)
theorem px_astore_9 {a0 a1 a2 a3 a4 a5 a6 a7 a8 z : Option Value} {x : Nat} (hd : decode Y.2.1 pc = .ok (.astore 9, 2)) (hn : 9 < Y.2.2.1) (hq : nc1 a8 = true) (kk : PX G Pic d Y (pc + 2) (a0 :: a1 :: a2 :: a3 :: a4 :: a5 :: a6 :: a7 :: a8 :: some (.ref x) :: ls) (st) S mc ms Post) : PX G Pic d Y pc (a0 :: a1 :: a2 :: a3 :: a4 :: a5 :: a6 :: a7 :: a8 :: z :: ls) ((.ref x) :: st) S mc ms Post := fun h hp => ax_astore_9' hd hn hq (kk h hp)
theorem px_astoreN_9 {a0 a1 a2 a3 a4 a5 a6 a7 a8 z : Option Value} (hd : decode Y.2.1 pc = .ok (.astore 9, 2)) (hn : 9 < Y.2.2.1) (hq : nc1 a8 = true) (kk : PX G Pic d Y (pc + 2) (a0 :: a1 :: a2 :: a3 :: a4 :: a5 :: a6 :: a7 :: a8 :: some .null :: ls) (st) S mc ms Post) : PX G Pic d Y pc (a0 :: a1 :: a2 :: a3 :: a4 :: a5 :: a6 :: a7 :: a8 :: z :: ls) (.null :: st) S mc ms Post := fun h hp => ax_astoreN_9' hd hn hq (kk h hp)
theorem px_iinc_9 {a0 a1 a2 a3 a4 a5 a6 a7 a8 : Option Value} {n : Int} {x v : Int32} (hd : decode Y.2.1 pc = .ok (.iinc 9 n, 3)) (hv : Int32.ofInt n = v) (hn : 9 < Y.2.2.1) (hq : nc1 a8 = true) (kk : PX G Pic d Y (pc + 3) (a0 :: a1 :: a2 :: a3 :: a4 :: a5 :: a6 :: a7 :: a8 :: some (.int (x + v)) :: ls) (st) S mc ms Post) : PX G Pic d Y pc (a0 :: a1 :: a2 :: a3 :: a4 :: a5 :: a6 :: a7 :: a8 :: some (.int x) :: ls) (st) S mc ms Post := fun h hp => ax_iinc_9' hd hv hn hq (kk h hp)
theorem px_istore_10 {a0 a1 a2 a3 a4 a5 a6 a7 a8 a9 z : Option Value} {x : Int32} (hd : decode Y.2.1 pc = .ok (.istore 10, 2)) (hn : 10 < Y.2.2.1) (hq : nc1 a9 = true) (kk : PX G Pic d Y (pc + 2) (a0 :: a1 :: a2 :: a3 :: a4 :: a5 :: a6 :: a7 :: a8 :: a9 :: some (.int x) :: ls) (st) S mc ms Post) : PX G Pic d Y pc (a0 :: a1 :: a2 :: a3 :: a4 :: a5 :: a6 :: a7 :: a8 :: a9 :: z :: ls) ((.int x) :: st) S mc ms Post := fun h hp => ax_istore_10' hd hn hq (kk h hp)
theorem px_astore_10 {a0 a1 a2 a3 a4 a5 a6 a7 a8 a9 z : Option Value} {x : Nat} (hd : decode Y.2.1 pc = .ok (.astore 10, 2)) (hn : 10 < Y.2.2.1) (hq : nc1 a9 = true) (kk : PX G Pic d Y (pc + 2) (a0 :: a1 :: a2 :: a3 :: a4 :: a5 :: a6 :: a7 :: a8 :: a9 :: some (.ref x) :: ls) (st) S mc ms Post) : PX G Pic d Y pc (a0 :: a1 :: a2 :: a3 :: a4 :: a5 :: a6 :: a7 :: a8 :: a9 :: z :: ls) ((.ref x) :: st) S mc ms Post := fun h hp => ax_astore_10' hd hn hq (kk h hp)
theorem px_astoreN_10 {a0 a1 a2 a3 a4 a5 a6 a7 a8 a9 z : Option Value} (hd : decode Y.2.1 pc = .ok (.astore 10, 2)) (hn : 10 < Y.2.2.1) (hq : nc1 a9 = true) (kk : PX G Pic d Y (pc + 2) (a0 :: a1 :: a2 :: a3 :: a4 :: a5 :: a6 :: a7 :: a8 :: a9 :: some .null :: ls) (st) S mc ms Post) : PX G Pic d Y pc (a0 :: a1 :: a2 :: a3 :: a4 :: a5 :: a6 :: a7 :: a8 :: a9 :: z :: ls) (.null :: st) S mc ms Post := fun h hp => ax_astoreN_10' hd hn hq (kk h hp)
theorem px_iinc_10 {a0 a1 a2 a3 a4 a5 a6 a7 a8 a9 : Option Value} {n : Int} {x v : Int32} (hd : decode Y.2.1 pc = .ok (.iinc 10 n, 3)) (hv : Int32.ofInt n = v) (hn : 10 < Y.2.2.1) (hq : nc1 a9 = true) (kk : PX G Pic d Y (pc + 3) (a0 :: a1 :: a2 :: a3 :: a4 :: a5 :: a6 :: a7 :: a8 :: a9 :: some (.int (x + v)) :: ls) (st) S mc ms Post) : PX G Pic d Y pc (a0 :: a1 :: a2 :: a3 :: a4 :: a5 :: a6 :: a7 :: a8 :: a9 :: some (.int x) :: ls) (st) S mc ms Post := fun h hp => ax_iinc_10' hd hv hn hq (kk h hp)
theorem px_istore_11 {a0 a1 a2 a3 a4 a5 a6 a7 a8 a9 a10 z : Option Value} {x : Int32} (hd : decode Y.2.1 pc = .ok (.istore 11, 2)) (hn : 11 < Y.2.2.1) (hq : nc1 a10 = true) (kk : PX G Pic d Y (pc + 2) (a0 :: a1 :: a2 :: a3 :: a4 :: a5 :: a6 :: a7 :: a8 :: a9 :: a10 :: some (.int x) :: ls) (st) S mc ms Post) : PX G Pic d Y pc (a0 :: a1 :: a2 :: a3 :: a4 :: a5 :: a6 :: a7 :: a8 :: a9 :: a10 :: z :: ls) ((.int x) :: st) S mc ms Post := fun h hp => ax_istore_11' hd hn hq (kk h hp)
theorem px_astore_11 {a0 a1 a2 a3 a4 a5 a6 a7 a8 a9 a10 z : Option Value} {x : Nat} (hd : decode Y.2.1 pc = .ok (.astore 11, 2)) (hn : 11 < Y.2.2.1) (hq : nc1 a10 = true) (kk : PX G Pic d Y (pc + 2) (a0 :: a1 :: a2 :: a3 :: a4 :: a5 :: a6 :: a7 :: a8 :: a9 :: a10 :: some (.ref x) :: ls) (st) S mc ms Post) : PX G Pic d Y pc (a0 :: a1 :: a2 :: a3 :: a4 :: a5 :: a6 :: a7 :: a8 :: a9 :: a10 :: z :: ls) ((.ref x) :: st) S mc ms Post := fun h hp => ax_astore_11' hd hn hq (kk h hp)
theorem px_astoreN_11 {a0 a1 a2 a3 a4 a5 a6 a7 a8 a9 a10 z : Option Value} (hd : decode Y.2.1 pc = .ok (.astore 11, 2)) (hn : 11 < Y.2.2.1) (hq : nc1 a10 = true) (kk : PX G Pic d Y (pc + 2) (a0 :: a1 :: a2 :: a3 :: a4 :: a5 :: a6 :: a7 :: a8 :: a9 :: a10 :: some .null :: ls) (st) S mc ms Post) : PX G Pic d Y pc (a0 :: a1 :: a2 :: a3 :: a4 :: a5 :: a6 :: a7 :: a8 :: a9 :: a10 :: z :: ls) (.null :: st) S mc ms Post := fun h hp => ax_astoreN_11' hd hn hq (kk h hp)
theorem px_iinc_11 {a0 a1 a2 a3 a4 a5 a6 a7 a8 a9 a10 : Option Value} {n : Int} {x v : Int32} (hd : decode Y.2.1 pc = .ok (.iinc 11 n, 3)) (hv : Int32.ofInt n = v) (hn : 11 < Y.2.2.1) (hq : nc1 a10 = true) (kk : PX G Pic d Y (pc + 3) (a0 :: a1 :: a2 :: a3 :: a4 :: a5 :: a6 :: a7 :: a8 :: a9 :: a10 :: some (.int (x + v)) :: ls) (st) S mc ms Post) : PX G Pic d Y pc (a0 :: a1 :: a2 :: a3 :: a4 :: a5 :: a6 :: a7 :: a8 :: a9 :: a10 :: some (.int x) :: ls) (st) S mc ms Post := fun h hp => ax_iinc_11' hd hv hn hq (kk h hp)
theorem px_iadd {x y : Int32} (hd : decode Y.2.1 pc = .ok (.iadd, 1)) (k : PX G Pic d Y (pc + 1) ls (.int (x + y) :: st) S mc ms Post) : PX G Pic d Y pc ls (.int y :: .int x :: st) S mc ms Post := fun h hp => ax_iadd hd (k h hp)
theorem px_isub {x y : Int32} (hd : decode Y.2.1 pc = .ok (.isub, 1)) (k : PX G Pic d Y (pc + 1) ls (.int (x - y) :: st) S mc ms Post) : PX G Pic d Y pc ls (.int y :: .int x :: st) S mc ms Post := fun h hp => ax_isub hd (k h hp)
theorem px_imul {x y : Int32} (hd : decode Y.2.1 pc = .ok (.imul, 1)) (k : PX G Pic d Y (pc + 1) ls (.int (x * y) :: st) S mc ms Post) : PX G Pic d Y pc ls (.int y :: .int x :: st) S mc ms Post := fun h hp => ax_imul hd (k h hp)
theorem px_iand {x y : Int32} (hd : decode Y.2.1 pc = .ok (.iand, 1)) (k : PX G Pic d Y (pc + 1) ls (.int (x &&& y) :: st) S mc ms Post) : PX G Pic d Y pc ls (.int y :: .int x :: st) S mc ms Post := fun h hp => ax_iand hd (k h hp)
theorem px_ior {x y : Int32} (hd : decode Y.2.1 pc = .ok (.ior, 1)) (k : PX G Pic d Y (pc + 1) ls (.int (x ||| y) :: st) S mc ms Post) : PX G Pic d Y pc ls (.int y :: .int x :: st) S mc ms Post := fun h hp => ax_ior hd (k h hp)
theorem px_ishl {x y : Int32} (hd : decode Y.2.1 pc = .ok (.ishl, 1)) (k : PX G Pic d Y (pc + 1) ls (.int (x <<< (y &&& 31)) :: st) S mc ms Post) : PX G Pic d Y pc ls (.int y :: .int x :: st) S mc ms Post := fun h hp => ax_ishl hd (k h hp)
theorem px_ishr {x y : Int32} (hd : decode Y.2.1 pc = .ok (.ishr, 1)) (k : PX G Pic d Y (pc + 1) ls (.int (x >>> (y &&& 31)) :: st) S mc ms Post) : PX G Pic d Y pc ls (.int y :: .int x :: st) S mc ms Post := fun h hp => ax_ishr hd (k h hp)
theorem px_idiv {x y : Int32} (hd : decode Y.2.1 pc = .ok (.idiv, 1)) (hne : ¬ y = 0) (k : PX G Pic d Y (pc + 1) ls (.int (x / y) :: st) S mc ms Post) : PX G Pic d Y pc ls (.int y :: .int x :: st) S mc ms Post := fun h hp => ax_idiv hd hne (k h hp)
theorem px_irem {x y : Int32} (hd : decode Y.2.1 pc = .ok (.irem, 1)) (hne : ¬ y = 0) (k : PX G Pic d Y (pc + 1) ls (.int (x - x / y * y) :: st) S mc ms Post) : PX G Pic d Y pc ls (.int y :: .int x :: st) S mc ms Post := fun h hp => ax_irem hd hne (k h hp)
theorem px_ineg {x : Int32} (hd : decode Y.2.1 pc = .ok (.ineg, 1)) (k : PX G Pic d Y (pc + 1) ls (.int (-x) :: st) S mc ms Post) : PX G Pic d Y pc ls (.int x :: st) S mc ms Post := fun h hp => ax_ineg hd (k h hp)
theorem px_ladd {x y : Int64} (hd : decode Y.2.1 pc = .ok (.ladd, 1)) (k : PX G Pic d Y (pc + 1) ls (.long (x + y) :: st) S mc ms Post) : PX G Pic d Y pc ls (.long y :: .long x :: st) S mc ms Post := fun h hp => ax_ladd hd (k h hp)
theorem px_land {x y : Int64} (hd : decode Y.2.1 pc = .ok (.land, 1)) (k : PX G Pic d Y (pc + 1) ls (.long (x &&& y) :: st) S mc ms Post) : PX G Pic d Y pc ls (.long y :: .long x :: st) S mc ms Post := fun h hp => ax_land hd (k h hp)
theorem px_lor {x y : Int64} (hd : decode Y.2.1 pc = .ok (.lor, 1)) (k : PX G Pic d Y (pc + 1) ls (.long (x ||| y) :: st) S mc ms Post) : PX G Pic d Y pc ls (.long y :: .long x :: st) S mc ms Post := fun h hp => ax_lor hd (k h hp)
theorem px_i2l {x : Int32} (hd : decode Y.2.1 pc = .ok (.i2l, 1)) (k : PX G Pic d Y (pc + 1) ls (.long (x.toInt64) :: st) S mc ms Post) : PX G Pic d Y pc ls (.int x :: st) S mc ms Post := fun h hp => ax_i2l hd (k h hp)
theorem px_l2i {x : Int64} (hd : decode Y.2.1 pc = .ok (.l2i, 1)) (k : PX G Pic d Y (pc + 1) ls (.int (x.toInt32) :: st) S mc ms Post) : PX G Pic d Y pc ls (.long x :: st) S mc ms Post := fun h hp => ax_l2i hd (k h hp)
theorem px_i2b {x : Int32} (hd : decode Y.2.1 pc = .ok (.i2b, 1)) (k : PX G Pic d Y (pc + 1) ls (.int (x.toInt8.toInt32) :: st) S mc ms Post) : PX G Pic d Y pc ls (.int x :: st) S mc ms Post := fun h hp => ax_i2b hd (k h hp)
theorem px_i2s {x : Int32} (hd : decode Y.2.1 pc = .ok (.i2s, 1)) (k : PX G Pic d Y (pc + 1) ls (.int (x.toInt16.toInt32) :: st) S mc ms Post) : PX G Pic d Y pc ls (.int x :: st) S mc ms Post := fun h hp => ax_i2s hd (k h hp)
theorem px_i2c {x : Int32} (hd : decode Y.2.1 pc = .ok (.i2c, 1)) (k : PX G Pic d Y (pc + 1) ls (.int ((x.toUInt32 % 65536).toInt32) :: st) S mc ms Post) : PX G Pic d Y pc ls (.int x :: st) S mc ms Post := fun h hp => ax_i2c hd (k h hp)
theorem px_lushr {x : Int64} {y : Int32} (hd : decode Y.2.1 pc = .ok (.lushr, 1)) (k : PX G Pic d Y (pc + 1) ls (.long ((x.toUInt64 >>> (y.toInt64.toUInt64 &&& Int64.toUInt64 63)).toInt64) :: st) S mc ms Post) : PX G Pic d Y pc ls (.int y :: .long x :: st) S mc ms Post := fun h hp => ax_lushr hd (k h hp)
theorem px_lshl {x : Int64} {y : Int32} (hd : decode Y.2.1 pc = .ok (.lshl, 1)) (k : PX G Pic d Y (pc + 1) ls (.long (x <<< (y.toInt64 &&& 63)) :: st) S mc ms Post) : PX G Pic d Y pc ls (.int y :: .long x :: st) S mc ms Post := fun h hp => ax_lshl hd (k h hp)
theorem px_lshr {x : Int64} {y : Int32} (hd : decode Y.2.1 pc = .ok (.lshr, 1)) (k : PX G Pic d Y (pc + 1) ls (.long (x >>> (y.toInt64 &&& 63)) :: st) S mc ms Post) : PX G Pic d Y pc ls (.int y :: .long x :: st) S mc ms Post := fun h hp => ax_lshr hd (k h hp)
theorem px_lcmp {x y : Int64} (hd : decode Y.2.1 pc = .ok (.lcmp, 1)) (k : PX G Pic d Y (pc + 1) ls (.int (lg_cmp x y) :: st) S mc ms Post) : PX G Pic d Y pc ls (.long y :: .long x :: st) S mc ms Post := fun h hp => ax_lcmp hd (k h hp)
theorem px_dup {v : Value} (hd : decode Y.2.1 pc = .ok (.dup, 1)) (hv : v.category = 1) (k : PX G Pic d Y (pc + 1) ls (v :: v :: st) S mc ms Post) : PX G Pic d Y pc ls (v :: st) S mc ms Post := fun h hp => ax_dup hd hv (k h hp)
theorem px_pop {v : Value} (hd : decode Y.2.1 pc = .ok (.pop, 1)) (hv : v.category = 1) (k : PX G Pic d Y (pc + 1) ls (st) S mc ms Post) : PX G Pic d Y pc ls (v :: st) S mc ms Post := fun h hp => ax_pop hd hv (k h hp)
theorem px_dup2 {v w : Value} (hd : decode Y.2.1 pc = .ok (.dup2, 1)) (hv : v.category = 1) (hw : w.category = 1) (k : PX G Pic d Y (pc + 1) ls (v :: w :: v :: w :: st) S mc ms Post) : PX G Pic d Y pc ls (v :: w :: st) S mc ms Post := fun h hp => ax_dup2 hd hv hw (k h hp)
theorem px_goto {off : Int} {tgt : Nat} (hd : decode Y.2.1 pc = .ok (.goto off, 3)) (ht : (pc : Int) + off = (tgt : Int)) (k : PX G Pic d Y tgt ls (st) S mc ms Post) : PX G Pic d Y pc ls (st) S mc ms Post := fun h hp => ax_goto hd ht (k h hp)
theorem px_null (hd : decode Y.2.1 pc = .ok (.aconst_null, 1)) (k : PX G Pic d Y (pc + 1) ls (.null :: st) S mc ms Post) : PX G Pic d Y pc ls (st) S mc ms Post := fun h hp => ax_null hd (k h hp)
theorem px_ifnull {x : Nat} {off : Int} (hd : decode Y.2.1 pc = .ok (.ifnull off, 3)) (k : PX G Pic d Y (pc + 3) ls (st) S mc ms Post) : PX G Pic d Y pc ls (.ref x :: st) S mc ms Post := fun h hp => ax_ifnull hd (k h hp)
theorem px_ifnullN {off : Int} {tgt : Nat} (hd : decode Y.2.1 pc = .ok (.ifnull off, 3)) (ht : (pc : Int) + off = (tgt : Int)) (k : PX G Pic d Y tgt ls (st) S mc ms Post) : PX G Pic d Y pc ls (.null :: st) S mc ms Post := fun h hp => ax_ifnullN hd ht (k h hp)
theorem px_ifnonnull {x : Nat} {off : Int} {tgt : Nat} (hd : decode Y.2.1 pc = .ok (.ifnonnull off, 3)) (ht : (pc : Int) + off = (tgt : Int)) (k : PX G Pic d Y tgt ls (st) S mc ms Post) : PX G Pic d Y pc ls (.ref x :: st) S mc ms Post := fun h hp => ax_ifnonnull hd ht (k h hp)
theorem px_ifnonnullN {off : Int} (hd : decode Y.2.1 pc = .ok (.ifnonnull off, 3)) (k : PX G Pic d Y (pc + 3) ls (st) S mc ms Post) : PX G Pic d Y pc ls (.null :: st) S mc ms Post := fun h hp => ax_ifnonnullN hd (k h hp)
theorem px_if_eq {x : Int32} {off : Int} {tgt : Nat} (hd : decode Y.2.1 pc = .ok (.ifCond .eq off, 3)) (ht : (pc : Int) + off = (tgt : Int)) (kt : x = 0 → PX G Pic d Y tgt ls (st) S mc ms Post) (kf : ¬ x = 0 → PX G Pic d Y (pc + 3) ls (st) S mc ms Post) : PX G Pic d Y pc ls (.int x :: st) S mc ms Post := fun h hp => ax_if_eq hd ht (fun q => kt q h hp) (fun q => kf q h hp)
theorem px_if_ne {x : Int32} {off : Int} {tgt : Nat} (hd : decode Y.2.1 pc = .ok (.ifCond .ne off, 3)) (ht : (pc : Int) + off = (tgt : Int)) (kt : ¬ x = 0 → PX G Pic d Y tgt ls (st) S mc ms Post) (kf : x = 0 → PX G Pic d Y (pc + 3) ls (st) S mc ms Post) : PX G Pic d Y pc ls (.int x :: st) S mc ms Post := fun h hp => ax_if_ne hd ht (fun q => kt q h hp) (fun q => kf q h hp)
theorem px_if_lt {x : Int32} {off : Int} {tgt : Nat} (hd : decode Y.2.1 pc = .ok (.ifCond .lt off, 3)) (ht : (pc : Int) + off = (tgt : Int)) (kt : x < 0 → PX G Pic d Y tgt ls (st) S mc ms Post) (kf : ¬ x < 0 → PX G Pic d Y (pc + 3) ls (st) S mc ms Post) : PX G Pic d Y pc ls (.int x :: st) S mc ms Post := fun h hp => ax_if_lt hd ht (fun q => kt q h hp) (fun q => kf q h hp)
theorem px_if_ge {x : Int32} {off : Int} {tgt : Nat} (hd : decode Y.2.1 pc = .ok (.ifCond .ge off, 3)) (ht : (pc : Int) + off = (tgt : Int)) (kt : 0 ≤ x → PX G Pic d Y tgt ls (st) S mc ms Post) (kf : ¬ 0 ≤ x → PX G Pic d Y (pc + 3) ls (st) S mc ms Post) : PX G Pic d Y pc ls (.int x :: st) S mc ms Post := fun h hp => ax_if_ge hd ht (fun q => kt q h hp) (fun q => kf q h hp)
theorem px_if_gt {x : Int32} {off : Int} {tgt : Nat} (hd : decode Y.2.1 pc = .ok (.ifCond .gt off, 3)) (ht : (pc : Int) + off = (tgt : Int)) (kt : 0 < x → PX G Pic d Y tgt ls (st) S mc ms Post) (kf : ¬ 0 < x → PX G Pic d Y (pc + 3) ls (st) S mc ms Post) : PX G Pic d Y pc ls (.int x :: st) S mc ms Post := fun h hp => ax_if_gt hd ht (fun q => kt q h hp) (fun q => kf q h hp)
theorem px_if_le {x : Int32} {off : Int} {tgt : Nat} (hd : decode Y.2.1 pc = .ok (.ifCond .le off, 3)) (ht : (pc : Int) + off = (tgt : Int)) (kt : x ≤ 0 → PX G Pic d Y tgt ls (st) S mc ms Post) (kf : ¬ x ≤ 0 → PX G Pic d Y (pc + 3) ls (st) S mc ms Post) : PX G Pic d Y pc ls (.int x :: st) S mc ms Post := fun h hp => ax_if_le hd ht (fun q => kt q h hp) (fun q => kf q h hp)
theorem px_icmp_eq {x y : Int32} {off : Int} {tgt : Nat} (hd : decode Y.2.1 pc = .ok (.if_icmp .eq off, 3)) (ht : (pc : Int) + off = (tgt : Int)) (kt : x = y → PX G Pic d Y tgt ls (st) S mc ms Post) (kf : ¬ x = y → PX G Pic d Y (pc + 3) ls (st) S mc ms Post) : PX G Pic d Y pc ls (.int y :: .int x :: st) S mc ms Post := fun h hp => ax_icmp_eq hd ht (fun q => kt q h hp) (fun q => kf q h hp)
theorem px_icmp_ne {x y : Int32} {off : Int} {tgt : Nat} (hd : decode Y.2.1 pc = .ok (.if_icmp .ne off, 3)) (ht : (pc : Int) + off = (tgt : Int)) (kt : ¬ x = y → PX G Pic d Y tgt ls (st) S mc ms Post) (kf : x = y → PX G Pic d Y (pc + 3) ls (st) S mc ms Post) : PX G Pic d Y pc ls (.int y :: .int x :: st) S mc ms Post := fun h hp => ax_icmp_ne hd ht (fun q => kt q h hp) (fun q => kf q h hp)
theorem px_icmp_lt {x y : Int32} {off : Int} {tgt : Nat} (hd : decode Y.2.1 pc = .ok (.if_icmp .lt off, 3)) (ht : (pc : Int) + off = (tgt : Int)) (kt : x < y → PX G Pic d Y tgt ls (st) S mc ms Post) (kf : ¬ x < y → PX G Pic d Y (pc + 3) ls (st) S mc ms Post) : PX G Pic d Y pc ls (.int y :: .int x :: st) S mc ms Post := fun h hp => ax_icmp_lt hd ht (fun q => kt q h hp) (fun q => kf q h hp)
theorem px_icmp_ge {x y : Int32} {off : Int} {tgt : Nat} (hd : decode Y.2.1 pc = .ok (.if_icmp .ge off, 3)) (ht : (pc : Int) + off = (tgt : Int)) (kt : y ≤ x → PX G Pic d Y tgt ls (st) S mc ms Post) (kf : ¬ y ≤ x → PX G Pic d Y (pc + 3) ls (st) S mc ms Post) : PX G Pic d Y pc ls (.int y :: .int x :: st) S mc ms Post := fun h hp => ax_icmp_ge hd ht (fun q => kt q h hp) (fun q => kf q h hp)
theorem px_icmp_gt {x y : Int32} {off : Int} {tgt : Nat} (hd : decode Y.2.1 pc = .ok (.if_icmp .gt off, 3)) (ht : (pc : Int) + off = (tgt : Int)) (kt : y < x → PX G Pic d Y tgt ls (st) S mc ms Post) (kf : ¬ y < x → PX G Pic d Y (pc + 3) ls (st) S mc ms Post) : PX G Pic d Y pc ls (.int y :: .int x :: st) S mc ms Post := fun h hp => ax_icmp_gt hd ht (fun q => kt q h hp) (fun q => kf q h hp)
theorem px_icmp_le {x y : Int32} {off : Int} {tgt : Nat} (hd : decode Y.2.1 pc = .ok (.if_icmp .le off, 3)) (ht : (pc : Int) + off = (tgt : Int)) (kt : x ≤ y → PX G Pic d Y tgt ls (st) S mc ms Post) (kf : ¬ x ≤ y → PX G Pic d Y (pc + 3) ls (st) S mc ms Post) : PX G Pic d Y pc ls (.int y :: .int x :: st) S mc ms Post := fun h hp => ax_icmp_le hd ht (fun q => kt q h hp) (fun q => kf q h hp)
theorem px_lookup {dflt : Int} {ps : Array (Int × Int)} {len : Nat} {x : Int32} {off : Int} {tgt : Nat} (hd : decode Y.2.1 pc = .ok (.lookupswitch dflt ps, len)) (hp : (ps.toList.zip (ps.toList.drop 1)).all (fun (a, next) => a.1 < next.1) = true) (ho : Op.lookupswitch.offset ps.toList dflt x.toInt = off) (ht : (pc : Int) + off = (tgt : Int)) (k : PX G Pic d Y tgt ls (st) S mc ms Post) : PX G Pic d Y pc ls (.int x :: st) S mc ms Post := fun h hh => ax_lookup hd hp ho ht (k h hh)
theorem px_tableOut {dflt lo hi : Int} {offs : Array Int} {len : Nat} {x : Int32} {tgt : Nat} (hd : decode Y.2.1 pc = .ok (.tableswitch dflt lo hi offs, len)) (hx : x.toInt < lo ∨ hi < x.toInt) (ht : (pc : Int) + dflt = (tgt : Int)) (k : PX G Pic d Y tgt ls (st) S mc ms Post) : PX G Pic d Y pc ls (.int x :: st) S mc ms Post := fun h hp => ax_tableOut hd hx ht (k h hp)
theorem px_tableIn {dflt lo hi : Int} {offs : Array Int} {len : Nat} {x : Int32} {off : Int} {tgt : Nat} (hd : decode Y.2.1 pc = .ok (.tableswitch dflt lo hi offs, len)) (h1 : ¬ x.toInt < lo) (h2 : ¬ hi < x.toInt) (ho : offs[(x.toInt - lo).toNat]? = some off) (ht : (pc : Int) + off = (tgt : Int)) (k : PX G Pic d Y tgt ls (st) S mc ms Post) : PX G Pic d Y pc ls (.int x :: st) S mc ms Post := fun h hp => ax_tableIn hd h1 h2 ho ht (k h hp)
theorem px_ireturn {v : Int32} {ty : FieldType} (hd : decode Y.2.1 pc = .ok (.ireturn, 1)) (hr : Y.2.2.2 = some ty) (hn : narrow ty (.int v) = .int v) (hq : Post (some (.int v)) S) : PX G Pic d Y pc ls ([.int v]) S mc ms Post := fun h hp => ax_ireturn hd hr hn ⟨S, hp, hq⟩
theorem px_iretI {P : Int32 → σ → Prop} {v : Int32} (hd : decode Y.2.1 pc = .ok (.ireturn, 1)) (hr : Y.2.2.2 = some .int) (hq : P v S) : PX G Pic d Y pc ls [.int v] S mc ms (ri P) := fun h hp => ax_ireturn hd hr rfl ⟨S, hp, ⟨v, rfl, hq⟩⟩
theorem px_iretZ {P : Int32 → σ → Prop} {v : Int32} (hd : decode Y.2.1 pc = .ok (.ireturn, 1)) (hr : Y.2.2.2 = some .boolean) (hn : narrow .boolean (.int v) = .int v) (hq : P v S) : PX G Pic d Y pc ls [.int v] S mc ms (ri P) := fun h hp => ax_ireturn hd hr hn ⟨S, hp, ⟨v, rfl, hq⟩⟩
theorem px_return {P : σ → Prop} (hd : decode Y.2.1 pc = .ok (.return_, 1)) (hr : Y.2.2.2 = none) (hq : P S) : PX G Pic d Y pc ls [] S mc ms (rv P) := fun h hp => ax_return hd hr ⟨S, hp, ⟨rfl, hq⟩⟩
theorem px_areturn {P : Value → σ → Prop} {v : Value} {rt : FieldType} (hd : decode Y.2.1 pc = .ok (.areturn, 1)) (hr : Y.2.2.2 = some rt) (hrt : (∃ n, rt = .object n) ∨ ∃ t, rt = .array t) (hv : v = .null ∨ ∃ a, v = .ref a) (hq : P v S) : PX G Pic d Y pc ls [v] S mc ms (rr P) := fun h hp => ax_areturn hd hr hrt hv ⟨S, hp, ⟨v, rfl, hq⟩⟩
theorem px_pure1 {d1 index : Nat} {Y' : Yt} {v1 : Value} {x : Int32} (hd : decode Y.2.1 pc = .ok (.invokestatic index, 3)) (hl : cLLS Y.1.cls index Y' 1) (hC : PS G d1 Y' [v1] x) (hdd : d1 + 1 ≤ d) (hcat : (st.map fun v => v.category).sum ≤ 8) (kk : PX G Pic d Y (pc + 3) ls (.int x :: st) S mc ms Post) : PX G Pic d Y pc ls (v1 :: st) S mc ms Post := fun h hp => ax_budget (Nat.le_of_eq (Nat.zero_add mc)) (Nat.le_of_eq (Nat.zero_add ms)) (ax_callS hd hl (av := [v1]) rfl rfl hdd hcat (hC h) (fun r h' hq => by obtain ⟨rfl, rfl⟩ := hq; exact kk h' hp))
theorem px_pure2 {d1 index : Nat} {Y' : Yt} {v1 v2 : Value} {x : Int32} (hd : decode Y.2.1 pc = .ok (.invokestatic index, 3)) (hl : cLLS Y.1.cls index Y' 2) (hC : PS G d1 Y' [v1, v2] x) (hdd : d1 + 1 ≤ d) (hcat : (st.map fun v => v.category).sum ≤ 8) (kk : PX G Pic d Y (pc + 3) ls (.int x :: st) S mc ms Post) : PX G Pic d Y pc ls (v2 :: v1 :: st) S mc ms Post := fun h hp => ax_budget (Nat.le_of_eq (Nat.zero_add mc)) (Nat.le_of_eq (Nat.zero_add ms)) (ax_callS hd hl (av := [v1, v2]) rfl rfl hdd hcat (hC h) (fun r h' hq => by obtain ⟨rfl, rfl⟩ := hq; exact kk h' hp))
theorem px_pure3 {d1 index : Nat} {Y' : Yt} {v1 v2 v3 : Value} {x : Int32} (hd : decode Y.2.1 pc = .ok (.invokestatic index, 3)) (hl : cLLS Y.1.cls index Y' 3) (hC : PS G d1 Y' [v1, v2, v3] x) (hdd : d1 + 1 ≤ d) (hcat : (st.map fun v => v.category).sum ≤ 8) (kk : PX G Pic d Y (pc + 3) ls (.int x :: st) S mc ms Post) : PX G Pic d Y pc ls (v3 :: v2 :: v1 :: st) S mc ms Post := fun h hp => ax_budget (Nat.le_of_eq (Nat.zero_add mc)) (Nat.le_of_eq (Nat.zero_add ms)) (ax_callS hd hl (av := [v1, v2, v3]) rfl rfl hdd hcat (hC h) (fun r h' hq => by obtain ⟨rfl, rfl⟩ := hq; exact kk h' hp))
theorem px_pure4 {d1 index : Nat} {Y' : Yt} {v1 v2 v3 v4 : Value} {x : Int32} (hd : decode Y.2.1 pc = .ok (.invokestatic index, 3)) (hl : cLLS Y.1.cls index Y' 4) (hC : PS G d1 Y' [v1, v2, v3, v4] x) (hdd : d1 + 1 ≤ d) (hcat : (st.map fun v => v.category).sum ≤ 8) (kk : PX G Pic d Y (pc + 3) ls (.int x :: st) S mc ms Post) : PX G Pic d Y pc ls (v4 :: v3 :: v2 :: v1 :: st) S mc ms Post := fun h hp => ax_budget (Nat.le_of_eq (Nat.zero_add mc)) (Nat.le_of_eq (Nat.zero_add ms)) (ax_callS hd hl (av := [v1, v2, v3, v4]) rfl rfl hdd hcat (hC h) (fun r h' hq => by obtain ⟨rfl, rfl⟩ := hq; exact kk h' hp))
theorem px_pureN1 {d1 index : Nat} {Y' : Yt} {v1 : Value} {x : Int32} (hd : decode Y.2.1 pc = .ok (.invokestatic index, 3)) (hl : cLLN Y.1.cls index Y' 1) (hC : PS G d1 Y' [v1] x) (hdd : d1 + 1 ≤ d) (hcat : (st.map fun v => v.category).sum ≤ 8) (kk : PX G Pic d Y (pc + 3) ls (.int x :: st) S mc ms Post) : PX G Pic d Y pc ls (v1 :: st) S mc ms Post := fun h hp => ax_budget (Nat.le_of_eq (Nat.zero_add mc)) (Nat.le_of_eq (Nat.zero_add ms)) (ax_callSN hd hl (av := [v1]) rfl rfl hdd hcat (hC h) (fun r h' hq => by obtain ⟨rfl, rfl⟩ := hq; exact kk h' hp))
theorem px_pureN2 {d1 index : Nat} {Y' : Yt} {v1 v2 : Value} {x : Int32} (hd : decode Y.2.1 pc = .ok (.invokestatic index, 3)) (hl : cLLN Y.1.cls index Y' 2) (hC : PS G d1 Y' [v1, v2] x) (hdd : d1 + 1 ≤ d) (hcat : (st.map fun v => v.category).sum ≤ 8) (kk : PX G Pic d Y (pc + 3) ls (.int x :: st) S mc ms Post) : PX G Pic d Y pc ls (v2 :: v1 :: st) S mc ms Post := fun h hp => ax_budget (Nat.le_of_eq (Nat.zero_add mc)) (Nat.le_of_eq (Nat.zero_add ms)) (ax_callSN hd hl (av := [v1, v2]) rfl rfl hdd hcat (hC h) (fun r h' hq => by obtain ⟨rfl, rfl⟩ := hq; exact kk h' hp))
theorem px_pureN3 {d1 index : Nat} {Y' : Yt} {v1 v2 v3 : Value} {x : Int32} (hd : decode Y.2.1 pc = .ok (.invokestatic index, 3)) (hl : cLLN Y.1.cls index Y' 3) (hC : PS G d1 Y' [v1, v2, v3] x) (hdd : d1 + 1 ≤ d) (hcat : (st.map fun v => v.category).sum ≤ 8) (kk : PX G Pic d Y (pc + 3) ls (.int x :: st) S mc ms Post) : PX G Pic d Y pc ls (v3 :: v2 :: v1 :: st) S mc ms Post := fun h hp => ax_budget (Nat.le_of_eq (Nat.zero_add mc)) (Nat.le_of_eq (Nat.zero_add ms)) (ax_callSN hd hl (av := [v1, v2, v3]) rfl rfl hdd hcat (hC h) (fun r h' hq => by obtain ⟨rfl, rfl⟩ := hq; exact kk h' hp))
theorem px_pureN4 {d1 index : Nat} {Y' : Yt} {v1 v2 v3 v4 : Value} {x : Int32} (hd : decode Y.2.1 pc = .ok (.invokestatic index, 3)) (hl : cLLN Y.1.cls index Y' 4) (hC : PS G d1 Y' [v1, v2, v3, v4] x) (hdd : d1 + 1 ≤ d) (hcat : (st.map fun v => v.category).sum ≤ 8) (kk : PX G Pic d Y (pc + 3) ls (.int x :: st) S mc ms Post) : PX G Pic d Y pc ls (v4 :: v3 :: v2 :: v1 :: st) S mc ms Post := fun h hp => ax_budget (Nat.le_of_eq (Nat.zero_add mc)) (Nat.le_of_eq (Nat.zero_add ms)) (ax_callSN hd hl (av := [v1, v2, v3, v4]) rfl rfl hdd hcat (hC h) (fun r h' hq => by obtain ⟨rfl, rfl⟩ := hq; exact kk h' hp))
end PXr
end
section
theorem zz_end : True := trivial
end
