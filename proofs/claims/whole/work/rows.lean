section
-- ===== PART A: goes FIRST, ahead of the names: the tables' words, and 'selects' of the private methods out of them =====
/-- a private method of a class that the tables say can be made, by its rows of tables_1 -/
def lw_okq (q : MethodName × Nat) : Prop := (q.1.cls ≠ "java/lang/invoke/MethodHandle" ∧ q.1.cls ≠ "java/lang/invoke/VarHandle") ∧ Cond.instantiable q.1.cls q.2 ∈ tables_1 ∧ Cond.privateMethod q.1 ∈ tables_1 ∧ Cond.instanceMethod q.1 ∈ tables_1
theorem lw_p0 : lw_okq (⟨"EarlyGauge$Page", "isGoodAt", "(I)Z"⟩, 2) := ⟨⟨by decide +kernel, by decide +kernel⟩, List.mem_of_getElem? (i := 46) (by decide +kernel), List.mem_of_getElem? (i := 222) (by decide +kernel), List.mem_of_getElem? (i := 223) (by decide +kernel)⟩
theorem lw_p1 : lw_okq (⟨"EarlyGauge$Page", "isGoodTenths", "(I)Z"⟩, 2) := ⟨⟨by decide +kernel, by decide +kernel⟩, List.mem_of_getElem? (i := 46) (by decide +kernel), List.mem_of_getElem? (i := 234) (by decide +kernel), List.mem_of_getElem? (i := 235) (by decide +kernel)⟩
theorem lw_p2 : lw_okq (⟨"EarlyGauge$Outlook", "reckon", "()V"⟩, 8) := ⟨⟨by decide +kernel, by decide +kernel⟩, List.mem_of_getElem? (i := 60) (by decide +kernel), List.mem_of_getElem? (i := 256) (by decide +kernel), List.mem_of_getElem? (i := 257) (by decide +kernel)⟩
theorem lw_p3 : lw_okq (⟨"EarlyGauge$Outlook", "reckonBehind", "()V"⟩, 8) := ⟨⟨by decide +kernel, by decide +kernel⟩, List.mem_of_getElem? (i := 60) (by decide +kernel), List.mem_of_getElem? (i := 260) (by decide +kernel), List.mem_of_getElem? (i := 261) (by decide +kernel)⟩
theorem lw_p4 : lw_okq (⟨"EarlyGauge$Outlook", "stepOdds", "(III)J"⟩, 8) := ⟨⟨by decide +kernel, by decide +kernel⟩, List.mem_of_getElem? (i := 60) (by decide +kernel), List.mem_of_getElem? (i := 264) (by decide +kernel), List.mem_of_getElem? (i := 265) (by decide +kernel)⟩
theorem lw_p5 : lw_okq (⟨"EarlyGauge$Outlook", "reckonUntil", "()V"⟩, 8) := ⟨⟨by decide +kernel, by decide +kernel⟩, List.mem_of_getElem? (i := 60) (by decide +kernel), List.mem_of_getElem? (i := 283) (by decide +kernel), List.mem_of_getElem? (i := 284) (by decide +kernel)⟩
theorem lw_p6 : lw_okq (⟨"EarlyGauge", "personOf", "(I)LEarlyGauge$Keeper;"⟩, 8) := ⟨⟨by decide +kernel, by decide +kernel⟩, List.mem_of_getElem? (i := 16) (by decide +kernel), List.mem_of_getElem? (i := 448) (by decide +kernel), List.mem_of_getElem? (i := 449) (by decide +kernel)⟩
theorem lw_p7 : lw_okq (⟨"EarlyGauge$Book", "isSeen", "(II)Z"⟩, 3) := ⟨⟨by decide +kernel, by decide +kernel⟩, List.mem_of_getElem? (i := 100) (by decide +kernel), List.mem_of_getElem? (i := 548) (by decide +kernel), List.mem_of_getElem? (i := 549) (by decide +kernel)⟩
theorem lw_p8 : lw_okq (⟨"EarlyGauge$Trial", "drawWeather", "(I)I"⟩, 8) := ⟨⟨by decide +kernel, by decide +kernel⟩, List.mem_of_getElem? (i := 117) (by decide +kernel), List.mem_of_getElem? (i := 573) (by decide +kernel), List.mem_of_getElem? (i := 574) (by decide +kernel)⟩
theorem lw_p9 : lw_okq (⟨"EarlyGauge$Trial", "draw", "()I"⟩, 8) := ⟨⟨by decide +kernel, by decide +kernel⟩, List.mem_of_getElem? (i := 117) (by decide +kernel), List.mem_of_getElem? (i := 577) (by decide +kernel), List.mem_of_getElem? (i := 578) (by decide +kernel)⟩
theorem lw_p10 : lw_okq (⟨"EarlyGauge", "countPeople", "()I"⟩, 8) := ⟨⟨by decide +kernel, by decide +kernel⟩, List.mem_of_getElem? (i := 16) (by decide +kernel), List.mem_of_getElem? (i := 606) (by decide +kernel), List.mem_of_getElem? (i := 607) (by decide +kernel)⟩
theorem lw_p11 : lw_okq (⟨"EarlyGauge", "paidByAll", "()I"⟩, 8) := ⟨⟨by decide +kernel, by decide +kernel⟩, List.mem_of_getElem? (i := 16) (by decide +kernel), List.mem_of_getElem? (i := 618) (by decide +kernel), List.mem_of_getElem? (i := 619) (by decide +kernel)⟩
theorem lw_p12 : lw_okq (⟨"EarlyGauge", "digestOfPeople", "(J)J"⟩, 8) := ⟨⟨by decide +kernel, by decide +kernel⟩, List.mem_of_getElem? (i := 16) (by decide +kernel), List.mem_of_getElem? (i := 627) (by decide +kernel), List.mem_of_getElem? (i := 628) (by decide +kernel)⟩
theorem lw_p13 : lw_okq (⟨"EarlyGauge", "digestOfComing", "(J)J"⟩, 8) := ⟨⟨by decide +kernel, by decide +kernel⟩, List.mem_of_getElem? (i := 16) (by decide +kernel), List.mem_of_getElem? (i := 633) (by decide +kernel), List.mem_of_getElem? (i := 634) (by decide +kernel)⟩
theorem lw_p14 : lw_okq (⟨"EarlyGauge", "digestOfLikely", "(JI)J"⟩, 8) := ⟨⟨by decide +kernel, by decide +kernel⟩, List.mem_of_getElem? (i := 16) (by decide +kernel), List.mem_of_getElem? (i := 638) (by decide +kernel), List.mem_of_getElem? (i := 639) (by decide +kernel)⟩
theorem lw_p15 : lw_okq (⟨"EarlyGaugeModel", "faultNow", "()I"⟩, 36) := ⟨⟨by decide +kernel, by decide +kernel⟩, List.mem_of_getElem? (i := 651) (by decide +kernel), List.mem_of_getElem? (i := 782) (by decide +kernel), List.mem_of_getElem? (i := 783) (by decide +kernel)⟩
def lw_privs_1 : List (MethodName × Nat) := [(⟨"EarlyGauge$Page", "isGoodAt", "(I)Z"⟩, 2), (⟨"EarlyGauge$Page", "isGoodTenths", "(I)Z"⟩, 2), (⟨"EarlyGauge$Outlook", "reckon", "()V"⟩, 8), (⟨"EarlyGauge$Outlook", "reckonBehind", "()V"⟩, 8), (⟨"EarlyGauge$Outlook", "stepOdds", "(III)J"⟩, 8), (⟨"EarlyGauge$Outlook", "reckonUntil", "()V"⟩, 8), (⟨"EarlyGauge", "personOf", "(I)LEarlyGauge$Keeper;"⟩, 8), (⟨"EarlyGauge$Book", "isSeen", "(II)Z"⟩, 3), (⟨"EarlyGauge$Trial", "drawWeather", "(I)I"⟩, 8), (⟨"EarlyGauge$Trial", "draw", "()I"⟩, 8), (⟨"EarlyGauge", "countPeople", "()I"⟩, 8), (⟨"EarlyGauge", "paidByAll", "()I"⟩, 8), (⟨"EarlyGauge", "digestOfPeople", "(J)J"⟩, 8), (⟨"EarlyGauge", "digestOfComing", "(J)J"⟩, 8), (⟨"EarlyGauge", "digestOfLikely", "(JI)J"⟩, 8), (⟨"EarlyGaugeModel", "faultNow", "()I"⟩, 36)]
theorem lw_r1 : ∀ q ∈ lw_privs_1, lw_okq q := List.forall_mem_cons.mpr ⟨lw_p0, List.forall_mem_cons.mpr ⟨lw_p1, List.forall_mem_cons.mpr ⟨lw_p2, List.forall_mem_cons.mpr ⟨lw_p3, List.forall_mem_cons.mpr ⟨lw_p4, List.forall_mem_cons.mpr ⟨lw_p5, List.forall_mem_cons.mpr ⟨lw_p6, List.forall_mem_cons.mpr ⟨lw_p7, List.forall_mem_cons.mpr ⟨lw_p8, List.forall_mem_cons.mpr ⟨lw_p9, List.forall_mem_cons.mpr ⟨lw_p10, List.forall_mem_cons.mpr ⟨lw_p11, List.forall_mem_cons.mpr ⟨lw_p12, List.forall_mem_cons.mpr ⟨lw_p13, List.forall_mem_cons.mpr ⟨lw_p14, List.forall_mem_cons.mpr ⟨lw_p15, fun _ h => absurd h List.not_mem_nil⟩⟩⟩⟩⟩⟩⟩⟩⟩⟩⟩⟩⟩⟩⟩⟩
theorem lw_p16 : lw_okq (⟨"EarlyGaugeModel", "isGood", "(I)Z"⟩, 36) := ⟨⟨by decide +kernel, by decide +kernel⟩, List.mem_of_getElem? (i := 651) (by decide +kernel), List.mem_of_getElem? (i := 786) (by decide +kernel), List.mem_of_getElem? (i := 787) (by decide +kernel)⟩
theorem lw_p17 : lw_okq (⟨"EarlyGaugeModel", "figure", "(I)I"⟩, 36) := ⟨⟨by decide +kernel, by decide +kernel⟩, List.mem_of_getElem? (i := 651) (by decide +kernel), List.mem_of_getElem? (i := 790) (by decide +kernel), List.mem_of_getElem? (i := 791) (by decide +kernel)⟩
theorem lw_p18 : lw_okq (⟨"EarlyGaugeModel", "weightOf", "(II)J"⟩, 36) := ⟨⟨by decide +kernel, by decide +kernel⟩, List.mem_of_getElem? (i := 651) (by decide +kernel), List.mem_of_getElem? (i := 809) (by decide +kernel), List.mem_of_getElem? (i := 810) (by decide +kernel)⟩
theorem lw_p19 : lw_okq (⟨"EarlyGaugeModel", "oddsOf", "(I)J"⟩, 36) := ⟨⟨by decide +kernel, by decide +kernel⟩, List.mem_of_getElem? (i := 651) (by decide +kernel), List.mem_of_getElem? (i := 816) (by decide +kernel), List.mem_of_getElem? (i := 817) (by decide +kernel)⟩
theorem lw_p20 : lw_okq (⟨"EarlyGaugeModel", "tells", "(II)I"⟩, 36) := ⟨⟨by decide +kernel, by decide +kernel⟩, List.mem_of_getElem? (i := 651) (by decide +kernel), List.mem_of_getElem? (i := 820) (by decide +kernel), List.mem_of_getElem? (i := 821) (by decide +kernel)⟩
theorem lw_p21 : lw_okq (⟨"EarlyGaugeModel", "toldMany", "()I"⟩, 36) := ⟨⟨by decide +kernel, by decide +kernel⟩, List.mem_of_getElem? (i := 651) (by decide +kernel), List.mem_of_getElem? (i := 824) (by decide +kernel), List.mem_of_getElem? (i := 825) (by decide +kernel)⟩
theorem lw_p22 : lw_okq (⟨"EarlyGaugeModel", "goDay", "(IZ)I"⟩, 36) := ⟨⟨by decide +kernel, by decide +kernel⟩, List.mem_of_getElem? (i := 651) (by decide +kernel), List.mem_of_getElem? (i := 836) (by decide +kernel), List.mem_of_getElem? (i := 837) (by decide +kernel)⟩
theorem lw_p23 : lw_okq (⟨"EarlyGaugeModel", "covers", "(I)Z"⟩, 36) := ⟨⟨by decide +kernel, by decide +kernel⟩, List.mem_of_getElem? (i := 651) (by decide +kernel), List.mem_of_getElem? (i := 840) (by decide +kernel), List.mem_of_getElem? (i := 841) (by decide +kernel)⟩
theorem lw_p24 : lw_okq (⟨"EarlyGaugeModel", "isPerson", "(I)Z"⟩, 36) := ⟨⟨by decide +kernel, by decide +kernel⟩, List.mem_of_getElem? (i := 651) (by decide +kernel), List.mem_of_getElem? (i := 852) (by decide +kernel), List.mem_of_getElem? (i := 853) (by decide +kernel)⟩
theorem lw_p25 : lw_okq (⟨"EarlyGaugeModel", "personNow", "(II)I"⟩, 36) := ⟨⟨by decide +kernel, by decide +kernel⟩, List.mem_of_getElem? (i := 651) (by decide +kernel), List.mem_of_getElem? (i := 856) (by decide +kernel), List.mem_of_getElem? (i := 857) (by decide +kernel)⟩
theorem lw_p26 : lw_okq (⟨"EarlyGaugeModel", "likelyNow", "(III)J"⟩, 36) := ⟨⟨by decide +kernel, by decide +kernel⟩, List.mem_of_getElem? (i := 651) (by decide +kernel), List.mem_of_getElem? (i := 870) (by decide +kernel), List.mem_of_getElem? (i := 871) (by decide +kernel)⟩
theorem lw_p27 : lw_okq (⟨"EarlyGaugeModel", "likeliestNow", "()I"⟩, 36) := ⟨⟨by decide +kernel, by decide +kernel⟩, List.mem_of_getElem? (i := 651) (by decide +kernel), List.mem_of_getElem? (i := 882) (by decide +kernel), List.mem_of_getElem? (i := 883) (by decide +kernel)⟩
theorem lw_p28 : lw_okq (⟨"EarlyGaugeModel", "waysNow", "()I"⟩, 36) := ⟨⟨by decide +kernel, by decide +kernel⟩, List.mem_of_getElem? (i := 651) (by decide +kernel), List.mem_of_getElem? (i := 891) (by decide +kernel), List.mem_of_getElem? (i := 892) (by decide +kernel)⟩
theorem lw_p29 : lw_okq (⟨"EarlyGaugeModel", "sureNow", "(I)I"⟩, 36) := ⟨⟨by decide +kernel, by decide +kernel⟩, List.mem_of_getElem? (i := 651) (by decide +kernel), List.mem_of_getElem? (i := 899) (by decide +kernel), List.mem_of_getElem? (i := 900) (by decide +kernel)⟩
theorem lw_p30 : lw_okq (⟨"EarlyGaugeModel", "lookNow", "(III)J"⟩, 36) := ⟨⟨by decide +kernel, by decide +kernel⟩, List.mem_of_getElem? (i := 651) (by decide +kernel), List.mem_of_getElem? (i := 907) (by decide +kernel), List.mem_of_getElem? (i := 908) (by decide +kernel)⟩
theorem lw_p31 : lw_okq (⟨"EarlyGaugeModel", "lookedAt", "(IZ)I"⟩, 36) := ⟨⟨by decide +kernel, by decide +kernel⟩, List.mem_of_getElem? (i := 651) (by decide +kernel), List.mem_of_getElem? (i := 927) (by decide +kernel), List.mem_of_getElem? (i := 928) (by decide +kernel)⟩
def lw_privs_2 : List (MethodName × Nat) := [(⟨"EarlyGaugeModel", "isGood", "(I)Z"⟩, 36), (⟨"EarlyGaugeModel", "figure", "(I)I"⟩, 36), (⟨"EarlyGaugeModel", "weightOf", "(II)J"⟩, 36), (⟨"EarlyGaugeModel", "oddsOf", "(I)J"⟩, 36), (⟨"EarlyGaugeModel", "tells", "(II)I"⟩, 36), (⟨"EarlyGaugeModel", "toldMany", "()I"⟩, 36), (⟨"EarlyGaugeModel", "goDay", "(IZ)I"⟩, 36), (⟨"EarlyGaugeModel", "covers", "(I)Z"⟩, 36), (⟨"EarlyGaugeModel", "isPerson", "(I)Z"⟩, 36), (⟨"EarlyGaugeModel", "personNow", "(II)I"⟩, 36), (⟨"EarlyGaugeModel", "likelyNow", "(III)J"⟩, 36), (⟨"EarlyGaugeModel", "likeliestNow", "()I"⟩, 36), (⟨"EarlyGaugeModel", "waysNow", "()I"⟩, 36), (⟨"EarlyGaugeModel", "sureNow", "(I)I"⟩, 36), (⟨"EarlyGaugeModel", "lookNow", "(III)J"⟩, 36), (⟨"EarlyGaugeModel", "lookedAt", "(IZ)I"⟩, 36)]
theorem lw_r2 : ∀ q ∈ lw_privs_2, lw_okq q := List.forall_mem_cons.mpr ⟨lw_p16, List.forall_mem_cons.mpr ⟨lw_p17, List.forall_mem_cons.mpr ⟨lw_p18, List.forall_mem_cons.mpr ⟨lw_p19, List.forall_mem_cons.mpr ⟨lw_p20, List.forall_mem_cons.mpr ⟨lw_p21, List.forall_mem_cons.mpr ⟨lw_p22, List.forall_mem_cons.mpr ⟨lw_p23, List.forall_mem_cons.mpr ⟨lw_p24, List.forall_mem_cons.mpr ⟨lw_p25, List.forall_mem_cons.mpr ⟨lw_p26, List.forall_mem_cons.mpr ⟨lw_p27, List.forall_mem_cons.mpr ⟨lw_p28, List.forall_mem_cons.mpr ⟨lw_p29, List.forall_mem_cons.mpr ⟨lw_p30, List.forall_mem_cons.mpr ⟨lw_p31, fun _ h => absurd h List.not_mem_nil⟩⟩⟩⟩⟩⟩⟩⟩⟩⟩⟩⟩⟩⟩⟩⟩
theorem lw_p32 : lw_okq (⟨"EarlyGaugeModel", "earliestNow", "()I"⟩, 36) := ⟨⟨by decide +kernel, by decide +kernel⟩, List.mem_of_getElem? (i := 651) (by decide +kernel), List.mem_of_getElem? (i := 935) (by decide +kernel), List.mem_of_getElem? (i := 936) (by decide +kernel)⟩
theorem lw_p33 : lw_okq (⟨"EarlyGaugeModel", "daysNow", "(III)I"⟩, 36) := ⟨⟨by decide +kernel, by decide +kernel⟩, List.mem_of_getElem? (i := 651) (by decide +kernel), List.mem_of_getElem? (i := 943) (by decide +kernel), List.mem_of_getElem? (i := 944) (by decide +kernel)⟩
theorem lw_p34 : lw_okq (⟨"EarlyGaugeModel", "goSeeded", "()I"⟩, 36) := ⟨⟨by decide +kernel, by decide +kernel⟩, List.mem_of_getElem? (i := 651) (by decide +kernel), List.mem_of_getElem? (i := 947) (by decide +kernel), List.mem_of_getElem? (i := 948) (by decide +kernel)⟩
theorem lw_p35 : lw_okq (⟨"EarlyGaugeModel", "drawDays", "()V"⟩, 36) := ⟨⟨by decide +kernel, by decide +kernel⟩, List.mem_of_getElem? (i := 651) (by decide +kernel), List.mem_of_getElem? (i := 951) (by decide +kernel), List.mem_of_getElem? (i := 952) (by decide +kernel)⟩
theorem lw_p36 : lw_okq (⟨"EarlyGaugeModel", "draw", "(I)I"⟩, 36) := ⟨⟨by decide +kernel, by decide +kernel⟩, List.mem_of_getElem? (i := 651) (by decide +kernel), List.mem_of_getElem? (i := 955) (by decide +kernel), List.mem_of_getElem? (i := 956) (by decide +kernel)⟩
theorem lw_p37 : lw_okq (⟨"EarlyGaugeModel", "howMany", "(I)I"⟩, 36) := ⟨⟨by decide +kernel, by decide +kernel⟩, List.mem_of_getElem? (i := 651) (by decide +kernel), List.mem_of_getElem? (i := 975) (by decide +kernel), List.mem_of_getElem? (i := 976) (by decide +kernel)⟩
theorem lw_p38 : lw_okq (⟨"EarlyGaugeModel", "paidAll", "()I"⟩, 36) := ⟨⟨by decide +kernel, by decide +kernel⟩, List.mem_of_getElem? (i := 651) (by decide +kernel), List.mem_of_getElem? (i := 979) (by decide +kernel), List.mem_of_getElem? (i := 980) (by decide +kernel)⟩
theorem lw_p39 : lw_okq (⟨"EarlyGaugeModel", "mix", "(J)V"⟩, 36) := ⟨⟨by decide +kernel, by decide +kernel⟩, List.mem_of_getElem? (i := 651) (by decide +kernel), List.mem_of_getElem? (i := 988) (by decide +kernel), List.mem_of_getElem? (i := 989) (by decide +kernel)⟩
theorem lw_p40 : lw_okq (⟨"EarlyGaugeModel", "mixLikely", "(I)V"⟩, 36) := ⟨⟨by decide +kernel, by decide +kernel⟩, List.mem_of_getElem? (i := 651) (by decide +kernel), List.mem_of_getElem? (i := 993) (by decide +kernel), List.mem_of_getElem? (i := 994) (by decide +kernel)⟩
def lw_privs_3 : List (MethodName × Nat) := [(⟨"EarlyGaugeModel", "earliestNow", "()I"⟩, 36), (⟨"EarlyGaugeModel", "daysNow", "(III)I"⟩, 36), (⟨"EarlyGaugeModel", "goSeeded", "()I"⟩, 36), (⟨"EarlyGaugeModel", "drawDays", "()V"⟩, 36), (⟨"EarlyGaugeModel", "draw", "(I)I"⟩, 36), (⟨"EarlyGaugeModel", "howMany", "(I)I"⟩, 36), (⟨"EarlyGaugeModel", "paidAll", "()I"⟩, 36), (⟨"EarlyGaugeModel", "mix", "(J)V"⟩, 36), (⟨"EarlyGaugeModel", "mixLikely", "(I)V"⟩, 36)]
theorem lw_r3 : ∀ q ∈ lw_privs_3, lw_okq q := List.forall_mem_cons.mpr ⟨lw_p32, List.forall_mem_cons.mpr ⟨lw_p33, List.forall_mem_cons.mpr ⟨lw_p34, List.forall_mem_cons.mpr ⟨lw_p35, List.forall_mem_cons.mpr ⟨lw_p36, List.forall_mem_cons.mpr ⟨lw_p37, List.forall_mem_cons.mpr ⟨lw_p38, List.forall_mem_cons.mpr ⟨lw_p39, List.forall_mem_cons.mpr ⟨lw_p40, fun _ h => absurd h List.not_mem_nil⟩⟩⟩⟩⟩⟩⟩⟩⟩
def lw_privs : List (MethodName × Nat) := lw_privs_1 ++ (lw_privs_2 ++ (lw_privs_3))
def lw_tbl : List Cond := k2_sels lw_privs ++ tables_1
theorem lw_privs_ok : ∀ q ∈ lw_privs, lw_okq q := by
  show ∀ q ∈ lw_privs_1 ++ (lw_privs_2 ++ (lw_privs_3)), lw_okq q
  exact List.forall_mem_append.mpr ⟨lw_r1, List.forall_mem_append.mpr ⟨lw_r2, lw_r3⟩⟩
/-- arrays of arrays of t: their class is there -/
def va_AOA (t : FieldType) (U : State) : Prop := (Cond.arrayOver (.array t)).before #[] U = true
theorem va_AOA.use {t : FieldType} {A : Array Value} {U : State} (h : va_AOA t U) : (Cond.arrayOver (.array t)).before A U = true := h
theorem va_AOA.moved {t : FieldType} {u U : State} (hvm : u.vm.Alike U.vm) (h : va_AOA t u) : va_AOA t U := by
  have e : (Cond.arrayOver (.array t)).before #[] (u.setVm U.vm) = (Cond.arrayOver (.array t)).before #[] u := Cond.arrayOver_setVmC hvm _
  have e2 : (Cond.arrayOver (.array t)).before #[] U = (Cond.arrayOver (.array t)).before #[] (u.setVm U.vm) := rfl
  exact e2.trans (e.trans h)
end
section
/-! ===== BEGIN words of one list among another's, by their places ===== -/
theorem goodIn_r {big : List Cond} (ws : List Cond) (ps : List Nat) (hp : ws = ps.filterMap (fun i => big[i]?)) (h : ws.all goodWord = true) : GoodIn big ws := by
  intro w hw
  have h1 := List.all_eq_true.mp h w hw
  rw [hp] at hw
  obtain ⟨i, -, hi⟩ := List.mem_filterMap.mp hw
  have hm : w ∈ big := by first | exact List.mem_of_getElem? hi | exact List.getElem?_mem hi
  exact ⟨hm, good_of_word h1⟩
theorem goodIn_app {big a b : List Cond} (ha : GoodIn big a) (hb : GoodIn big b) : GoodIn big (a ++ b) := fun w h => (List.mem_append.mp h).elim (ha w) (hb w)
theorem goodIn_ca {big a b : List Cond} {c : Cond} (ha : GoodIn big (c :: a)) (hb : GoodIn big b) : GoodIn big (c :: (a ++ b)) := fun w h => (List.mem_cons.mp h).elim (fun e => ha w (List.mem_cons.mpr (Or.inl e))) (fun h => (List.mem_append.mp h).elim (fun h => ha w (List.mem_cons.mpr (Or.inr h))) (hb w))
theorem goodIn_sub {big ws : List Cond} (hm : ∀ w ∈ ws, w ∈ big) (h : ws.all goodWord = true) : GoodIn big ws := fun w hw => ⟨hm w hw, good_of_word (List.all_eq_true.mp h w hw)⟩
/-! ===== END ===== -/

/-! ===== BEGIN new T[n][m]: the outer array a place, the inner ones among the pooled ===== -/
/-- f, but v at every address of l -/
def vr_up {α : Type} (f : Nat → α) (l : List Nat) (v : α) : Nat → α := fun a => if a ∈ l then v else f a
theorem vr_up_in {α : Type} {f : Nat → α} {l : List Nat} {v : α} {a : Nat} (h : a ∈ l) : vr_up f l v a = v := if_pos h
theorem vr_up_ne {α : Type} {f : Nat → α} {l : List Nat} {v : α} {a : Nat} (h : a ∉ l) : vr_up f l v a = f a := if_neg h
theorem vr_rows {L l : List Nat} {f : Nat → va_E} {e : va_E} (h : ∀ a, a ∈ l → a ∉ L) : va_pl L f ++ l.map (fun a => (a, e)) = va_pl (L ++ l) (vr_up f l e) := by
  unfold va_pl
  rw [List.map_append]
  congr 1
  · apply List.map_congr_left
    intro a ha
    rw [vr_up_ne (fun q => h a q ha)]
  · apply List.map_congr_left
    intro a ha
    rw [vr_up_in ha]
theorem vr_lay {X rows : va_W} {x : Nat × va_E} {pl : va_W} {D : va_G} {cl : List vw_C} {H : Heap} (hP : va_P D cl (((X ++ pl) ++ [x]) ++ rows) H) : va_P D cl ((X ++ [x]) ++ (pl ++ rows)) H := by
  rw [List.append_assoc (X ++ pl)] at hP
  have h := va_P.swap hP
  rw [← List.append_assoc X] at h
  have h2 := va_P.swap h
  rw [List.append_assoc (X ++ [x])] at h2
  exact h2
theorem vr_layD {X rows : va_W} {x : Nat × va_E} {pl : va_W} {A : Nat → Prop} (hD : va_D A (((X ++ pl) ++ [x]) ++ rows)) : va_D A ((X ++ [x]) ++ (pl ++ rows)) := by
  rw [List.append_assoc (X ++ pl)] at hD
  have h := va_D.swap hD
  rw [← List.append_assoc X] at h
  have h2 := va_D.swap h
  rw [List.append_assoc (X ++ [x])] at h2
  exact h2
theorem vr_outer (c : ClassId) (N h0 : Nat) : ∀ i : Nat, Jvm.Free.Multi.outerC c N h0 i = arrV c N (fun j => va_rf (if j < i then some (h0 + 1 + j) else none))
  | 0 => by
    show ({ cls := c, slots := Array.replicate N .null, vm := .none } : Cell) = _
    rw [arrV_new]
    refine congrArg (arrV c N) (funext fun j => ?_)
    simp [va_rf]
  | i + 1 => by
    show (Jvm.Free.Multi.outerC c N h0 i).setSlot i (.ref (h0 + 1 + i)) = _
    rw [vr_outer c N h0 i, arrV_store]
    refine congrArg (arrV c N) (funext fun j => ?_)
    by_cases e : j = i
    · subst e
      simp [updV, va_rf]
    · by_cases h : j < i
      · simp [updV, e, h, Nat.lt_succ_of_lt h]
      · simp [updV, e, h, show ¬ j < i + 1 by omega]
section VGM
variable {p : Program} {l : Launch} {e : Env} {R : Room} {s : State} {m : MethodId} {args : Array Value} {below : List Frame} {meth : Method} {c : Code} {H : Heap} {locs : List Loc} {cells slots : Nat} {Q : State → Prop}
variable {cc : ByteArray} {pc : Nat} {ls : Array Slot} {rest : List Value} {D : va_G} {cl : List vw_C} {A : Nat → Prop} {a : Nat} {tys : List (ClassId × FieldType)} {ws : va_W} {H0 : Heap}
theorem va_mna {X : va_W} {L : List Nat} {f : Nat → va_E} {cc : ByteArray} (hexec : p.tables.exec = Jvm.exec) (hb : c.code = cc) {own : String} {index : Nat} {ty : FieldType} {cy : ClassId} (hown : s.vm.findClass own = some m.cls) (hclink : (Cond.classLink own index ("[" ++ (FieldType.array ty).toString)).before args s = true) (hover : va_AOA ty s) (harr : (Cond.arrayClass ty).before args s = true) (hcy : s.vm.findClass (FieldType.array ty).toString = some cy)
    (hK : va_K D cl tys s) (hP : va_P D cl (X ++ va_pl L f) H) (hD : va_D A (X ++ va_pl L f)) (hS : va_S A H0 H locs) (hA : ∀ q, H0.size ≤ q → A q) {n k : Int32} {N' K' : Nat} {z : vp_A} (hn : ¬ n < 0) (hk : ¬ k < 0) (hN : n.toNatClampNeg = N') (hM : k.toNatClampNeg = K')
    (hb1 : N' * 4 ≤ 536870912) (hb2 : K' * componentBytes ty ≤ 536870912) (hb3 : K' ≤ 536870912) (hdf : fits ty (defaultValue ty) = true) (hdd : (defaultValue ty).isDefault = true) (hcells : cells + (1 + N') ≤ R.cells) (hslots : slots + (N' + N' * K') ≤ R.slots) (hz : ∀ c : ClassId, Jvm.Free.Multi.innerC c K' (defaultValue ty) = vp_cell c z) (hdg : decode cc pc = .ok (.multianewarray index 2, 4))
    (kk : ∀ (q : Nat) (r : Nat → Nat) (cA : ClassId) (H1 : Heap), (∀ i j : Nat, i < N' → j < N' → r i = r j → i = j) → (∀ i : Nat, i < N' → r i ∉ L) → va_K D cl (tys ++ [(cA, .array ty)]) s →
      va_P D cl ((X ++ [(q, .inl (cA, N', .inr (.inr (.inr (.inr (fun i => if i < N' then some (r i) else none))))))]) ++ va_pl (L ++ (List.range N').map r) (vr_up f ((List.range N').map r) (.inl (cy, z)))) H1 → va_D A ((X ++ [(q, .inl (cA, N', .inr (.inr (.inr (.inr (fun i => if i < N' then some (r i) else none))))))]) ++ va_pl (L ++ (List.range N').map r) (vr_up f ((List.range N').map r) (.inl (cy, z)))) → va_S A H0 H1 locs →
      W p l e R s m args below meth c H1 locs (cells + 1 + N') (slots + N' + N' * K') Q (F0 m (pc + 4) ls (.ref q :: rest))) : W p l e R s m args below meth c H locs cells slots Q (F0 m pc ls (.int k :: .int n :: rest)) := by
  subst hN
  subst hM
  intro T hT Xs
  obtain ⟨vm₁, cA, comp, -, fA, fC, hO, -, X', step⟩ := Xs.multianewarray2F hexec hown hclink (va_AOA.use hover) harr (g := F0 m pc ls (.int k :: .int n :: rest)) rfl (by rw [hb]; exact hdg) rfl hn hk hb1 hb2 hb3 hdf hdd hcells hslots
  have ec : some cy = some comp := hcy.symm.trans fC
  cases ec
  generalize hF : Jvm.Free.Multi.fill (T.setVm vm₁) cA cy n.toNatClampNeg k.toNatClampNeg (defaultValue ty) n.toNatClampNeg = F at X' step
  have hTh : (T.setVm vm₁).heap = H := hT
  obtain ⟨f1, f2, -, -⟩ := Jvm.Free.Multi.fill_facts (T.setVm vm₁) cA cy n.toNatClampNeg k.toNatClampNeg (defaultValue ty) n.toNatClampNeg
  rw [hF, hTh] at f1 f2
  have hold : ∀ x : Nat, x < H.size → F.heap[x]? = H[x]? := fun x hx => by
    have := Jvm.Free.Multi.fill_old (T.setVm vm₁) cA cy n.toNatClampNeg k.toNatClampNeg (defaultValue ty) (a := x) (by rw [hTh]; exact hx) n.toNatClampNeg
    rw [hF, hTh] at this
    exact this
  have hrow : ∀ j : Nat, j < n.toNatClampNeg → F.heap[H.size + 1 + j]? = some (vp_cell cy z) := fun j hj => by
    have := Jvm.Free.Multi.fill_inner (T.setVm vm₁) cA cy n.toNatClampNeg k.toNatClampNeg (defaultValue ty) n.toNatClampNeg j hj
    rw [hF, hTh, hz] at this
    exact this
  have hout : Jvm.Free.Multi.outerC cA n.toNatClampNeg H.size n.toNatClampNeg = vp_cell cA (n.toNatClampNeg, .inr (.inr (.inr (.inr (fun i => if i < n.toNatClampNeg then some (H.size + 1 + i) else none))))) := by
    rw [vp_cell_q]
    exact vr_outer cA n.toNatClampNeg H.size n.toNatClampNeg
  rw [hout] at f2
  have hlt : ∀ a, a ∈ L → a < H.size := fun a ha => by
    obtain ⟨k9, hk9⟩ := va_pl_get (X := X) (f := f) ha
    exact (hP k9 _ hk9).lt
  have hnl : ∀ i : Nat, i < n.toNatClampNeg → H.size + 1 + i ∉ L := fun i _ h => by
    have := hlt _ h
    omega
  have hnm : ∀ a, a ∈ (List.range n.toNatClampNeg).map (fun i => H.size + 1 + i) → a ∉ L := fun a ha h => by
    obtain ⟨i, -, rfl⟩ := List.mem_map.mp ha
    have := hlt _ h
    omega
  have hP0 : va_P D cl (X ++ va_pl L f) F.heap := hP.kept (fun k9 x hx => hold x.1 ((hP k9 x hx).lt))
  have hP1 : va_P D cl ((X ++ va_pl L f) ++ [(H.size, .inl (cA, n.toNatClampNeg, .inr (.inr (.inr (.inr (fun i => if i < n.toNatClampNeg then some (H.size + 1 + i) else none))))))]) F.heap := hP0.app (fun k9 x hx => by
    have h0 : k9 < 1 := (List.getElem?_eq_some_iff.mp hx).1
    rw [show k9 = 0 by omega] at hx
    cases hx
    exact f2)
  have hP2 : va_P D cl (((X ++ va_pl L f) ++ [(H.size, .inl (cA, n.toNatClampNeg, .inr (.inr (.inr (.inr (fun i => if i < n.toNatClampNeg then some (H.size + 1 + i) else none))))))]) ++ ((List.range n.toNatClampNeg).map (fun i => H.size + 1 + i)).map (fun a => (a, .inl (cy, z)))) F.heap := hP1.app (fun k9 x hx => by
    obtain ⟨a, ha, rfl⟩ := List.mem_map.mp (List.mem_of_getElem? hx)
    obtain ⟨i, hi, rfl⟩ := List.mem_map.mp ha
    exact hrow i (List.mem_range.mp hi))
  have hD2 : va_D A (((X ++ va_pl L f) ++ [(H.size, .inl (cA, n.toNatClampNeg, .inr (.inr (.inr (.inr (fun i => if i < n.toNatClampNeg then some (H.size + 1 + i) else none))))))]) ++ ((List.range n.toNatClampNeg).map (fun i => H.size + 1 + i)).map (fun a => (a, .inl (cy, z)))) := by
    have hD1 := hD.push (e := .inl (cA, n.toNatClampNeg, .inr (.inr (.inr (.inr (fun i => if i < n.toNatClampNeg then some (H.size + 1 + i) else none)))))) hP rfl (hA _ hS.1)
    generalize hW1 : (X ++ va_pl L f) ++ [(H.size, .inl (cA, n.toNatClampNeg, .inr (.inr (.inr (.inr (fun i => if i < n.toNatClampNeg then some (H.size + 1 + i) else none))))))] = W1 at hD1 hP1 ⊢
    have hle : ∀ (k9 : Nat) (x : Nat × va_E), W1[k9]? = some x → x.1 ≤ H.size := fun k9 x hx => by
      rw [← hW1] at hx
      by_cases hl : k9 < (X ++ va_pl L f).length
      · rw [List.getElem?_append_left hl] at hx
        exact Nat.le_of_lt ((hP k9 x hx).lt)
      · rw [List.getElem?_append_right (by omega)] at hx
        have h0 : k9 - (X ++ va_pl L f).length < 1 := (List.getElem?_eq_some_iff.mp hx).1
        rw [show k9 - (X ++ va_pl L f).length = 0 by omega] at hx
        cases hx
        exact Nat.le_refl _
    have hr : ∀ (k9 : Nat) (x : Nat × va_E), (((List.range n.toNatClampNeg).map (fun i => H.size + 1 + i)).map (fun a => ((a, .inl (cy, z)) : Nat × va_E)))[k9]? = some x → x.1 = H.size + 1 + k9 := fun k9 x hx => by
      rw [List.getElem?_map, List.getElem?_map] at hx
      by_cases h9 : k9 < n.toNatClampNeg
      · rw [List.getElem?_range h9] at hx
        cases hx
        rfl
      · have hn0 : (List.range n.toNatClampNeg)[k9]? = none := List.getElem?_eq_none (by rw [List.length_range]; omega)
        rw [hn0] at hx
        cases hx
    refine ⟨fun i j x y hi hj hxy => ?_, fun k9 x hx => ?_⟩
    · by_cases h1 : i < W1.length <;> by_cases h2 : j < W1.length
      · rw [List.getElem?_append_left h1] at hi
        rw [List.getElem?_append_left h2] at hj
        exact hD1.1 i j x y hi hj hxy
      · rw [List.getElem?_append_left h1] at hi
        rw [List.getElem?_append_right (by omega)] at hj
        have := hle _ _ hi
        have := hr _ _ hj
        omega
      · rw [List.getElem?_append_right (by omega)] at hi
        rw [List.getElem?_append_left h2] at hj
        have := hle _ _ hj
        have := hr _ _ hi
        omega
      · rw [List.getElem?_append_right (by omega)] at hi hj
        have := hr _ _ hi
        have := hr _ _ hj
        omega
    · by_cases h1 : k9 < W1.length
      · rw [List.getElem?_append_left h1] at hx
        exact hD1.2 k9 x hx
      · rw [List.getElem?_append_right (by omega)] at hx
        have := hr _ _ hx
        exact hA _ (by have := hS.1; omega)
  have hAr : ArrOfT s cA (.array ty) := fun N9 z9 => by
    obtain ⟨-, k9, hk9, cm9, hkk9⟩ := (hO 0 0 0).1
    exact ⟨(fun q hq => by cases hq), k9, hk9, cm9, hkk9⟩
  have hK2 : va_K D cl (tys ++ [(cA, .array ty)]) s := ⟨hK.1, fun k9 x hx => by
    by_cases hl : k9 < tys.length
    · rw [List.getElem?_append_left hl] at hx
      exact hK.2 k9 x hx
    · rw [List.getElem?_append_right (by omega)] at hx
      have h0 : k9 - tys.length < 1 := (List.getElem?_eq_some_iff.mp hx).1
      rw [show k9 - tys.length = 0 by omega] at hx
      cases hx
      exact ⟨hAr, fA⟩⟩
  obtain ⟨t, a1, b1⟩ := kk H.size (fun i => H.size + 1 + i) cA F.heap (fun i j _ _ h => by have h9 : H.size + 1 + i = H.size + 1 + j := h; omega) hnl hK2 (by rw [← vr_rows hnm]; exact vr_lay hP2) (by rw [← vr_rows hnm]; exact vr_layD hD2) ⟨by rw [f1]; have := hS.1; omega, fun x h1 h2 => (hold x (Nat.lt_of_lt_of_le h1 hS.1)).trans (hS.2.1 x h1 h2), hS.2.2⟩ F rfl X'
  refine ⟨t, step t ?_, b1⟩
  have e : T.heap.size = H.size := by rw [hT]
  rw [e]
  exact a1
end VGM
/-! ===== END ===== -/

/-! ===== BEGIN printed: names, fields, word lists, decode rows ===== -/
def RX0 : String := "EarlyGauge$Book"
def TX0 : u_T := fun k => match k with
  | 0 => ("EarlyGauge$Book", "weathers", "[I", true)
  | 1 => ("EarlyGauge$Book", "readings", "[I", true)
  | _ => ("EarlyGauge$Book", "days", "I", false)
def tyX0 : Nat → FieldType := fun k => match k with
  | 0 => .array .int
  | 1 => .array .int
  | _ => .int
abbrev wsX00 : List Cond := u_ws RX0 TX0 3
theorem nmX0 : ∀ a, a < 3 → ∀ b, b < 3 → a ≠ b → (TX0 a).2.1 ≠ (TX0 b).2.1 := by decide +kernel
theorem tyX0_ok : ∀ k, k < 3 → parseFieldDescriptor (TX0 k).2.2.1 = some (tyX0 k) := by decide +kernel
abbrev cX0_init : ByteArray := prog_2_method_1_code
def yX0_init : MethodName := ⟨RX0, "<init>", "()V"⟩
abbrev cX0_append : ByteArray := prog_2_method_2_code
def yX0_append : MethodName := ⟨RX0, "append", "(II)Z"⟩
abbrev cX0_copyFrom : ByteArray := prog_2_method_3_code
def yX0_copyFrom : MethodName := ⟨RX0, "copyFrom", "(LEarlyGauge$Book;)V"⟩
abbrev cX0_readingsSeen : ByteArray := prog_2_method_4_code
def yX0_readingsSeen : MethodName := ⟨RX0, "readingsSeen", "(I)I"⟩
abbrev cX0_wrongReadings : ByteArray := prog_2_method_5_code
def yX0_wrongReadings : MethodName := ⟨RX0, "wrongReadings", "(I)I"⟩
abbrev cX0_isSeen : ByteArray := prog_2_method_6_code
def yX0_isSeen : MethodName := ⟨RX0, "isSeen", "(II)Z"⟩
def RX1 : String := "EarlyGauge$Contrary"
def TX1 : u_T := fun k => match k with
  | 0 => ("EarlyGauge$Keeper", "cost", "I", true)
  | 1 => ("EarlyGauge$Keeper", "loss", "I", true)
  | _ => ("EarlyGauge$Keeper", "paid", "I", false)
def tyX1 : Nat → FieldType := fun k => match k with
  | 0 => .int
  | 1 => .int
  | _ => .int
abbrev wsX10 : List Cond := u_ws RX1 TX1 3
theorem nmX1 : ∀ a, a < 3 → ∀ b, b < 3 → a ≠ b → (TX1 a).2.1 ≠ (TX1 b).2.1 := by decide +kernel
theorem tyX1_ok : ∀ k, k < 3 → parseFieldDescriptor (TX1 k).2.2.1 = some (tyX1 k) := by decide +kernel
abbrev cX1_init : ByteArray := prog_3_method_1_code
def yX1_init : MethodName := ⟨RX1, "<init>", "(II)V"⟩
abbrev cX1_kindNumber : ByteArray := prog_3_method_2_code
def yX1_kindNumber : MethodName := ⟨RX1, "kindNumber", "()I"⟩
abbrev cX1_covers : ByteArray := prog_3_method_3_code
def yX1_covers : MethodName := ⟨RX1, "covers", "(LEarlyGauge$Outlook;)Z"⟩
def RX2 : String := "EarlyGauge$Farmer"
def TX2 : u_T := fun k => match k with
  | 0 => ("EarlyGauge$Keeper", "cost", "I", true)
  | 1 => ("EarlyGauge$Keeper", "loss", "I", true)
  | _ => ("EarlyGauge$Keeper", "paid", "I", false)
def tyX2 : Nat → FieldType := fun k => match k with
  | 0 => .int
  | 1 => .int
  | _ => .int
abbrev wsX20 : List Cond := u_ws RX2 TX2 3
theorem nmX2 : ∀ a, a < 3 → ∀ b, b < 3 → a ≠ b → (TX2 a).2.1 ≠ (TX2 b).2.1 := by decide +kernel
theorem tyX2_ok : ∀ k, k < 3 → parseFieldDescriptor (TX2 k).2.2.1 = some (tyX2 k) := by decide +kernel
abbrev cX2_init : ByteArray := prog_4_method_1_code
def yX2_init : MethodName := ⟨RX2, "<init>", "(II)V"⟩
abbrev cX2_kindNumber : ByteArray := prog_4_method_2_code
def yX2_kindNumber : MethodName := ⟨RX2, "kindNumber", "()I"⟩
abbrev cX2_covers : ByteArray := prog_4_method_3_code
def yX2_covers : MethodName := ⟨RX2, "covers", "(LEarlyGauge$Outlook;)Z"⟩
def RX3 : String := "EarlyGauge$Image"
def TX3 : u_T := fun k => match k with
  | 0 => ("EarlyGauge$Image", "coming", "LEarlyGauge$Outlook;", true)
  | 1 => ("EarlyGauge$Image", "book", "LEarlyGauge$Book;", true)
  | 2 => ("EarlyGauge$Image", "paid", "[I", true)
  | 3 => ("EarlyGauge$Image", "people", "I", false)
  | _ => ("EarlyGauge$Image", "kept", "Z", false)
def tyX3 : Nat → FieldType := fun k => match k with
  | 0 => .object "EarlyGauge$Outlook"
  | 1 => .object "EarlyGauge$Book"
  | 2 => .array .int
  | 3 => .int
  | _ => .boolean
abbrev wsX30 : List Cond := u_ws RX3 TX3 5
theorem nmX3 : ∀ a, a < 5 → ∀ b, b < 5 → a ≠ b → (TX3 a).2.1 ≠ (TX3 b).2.1 := by decide +kernel
theorem tyX3_ok : ∀ k, k < 5 → parseFieldDescriptor (TX3 k).2.2.1 = some (tyX3 k) := by decide +kernel
abbrev cX3_init : ByteArray := prog_5_method_1_code
def yX3_init : MethodName := ⟨RX3, "<init>", "(LEarlyGauge$Outlook;LEarlyGauge$Book;)V"⟩
def RX4 : String := "EarlyGauge$Keeper"
def TX4 : u_T := fun k => match k with
  | 0 => ("EarlyGauge$Keeper", "cost", "I", true)
  | 1 => ("EarlyGauge$Keeper", "loss", "I", true)
  | _ => ("EarlyGauge$Keeper", "paid", "I", false)
def tyX4 : Nat → FieldType := fun k => match k with
  | 0 => .int
  | 1 => .int
  | _ => .int
abbrev wsX40 : List Cond := u_ws RX4 TX4 3
theorem nmX4 : ∀ a, a < 3 → ∀ b, b < 3 → a ≠ b → (TX4 a).2.1 ≠ (TX4 b).2.1 := by decide +kernel
theorem tyX4_ok : ∀ k, k < 3 → parseFieldDescriptor (TX4 k).2.2.1 = some (tyX4 k) := by decide +kernel
abbrev cX4_init : ByteArray := prog_6_method_1_code
def yX4_init : MethodName := ⟨RX4, "<init>", "(II)V"⟩
abbrev cX4_kindNumber : ByteArray := prog_6_method_2_code
def yX4_kindNumber : MethodName := ⟨RX4, "kindNumber", "()I"⟩
abbrev cX4_covers : ByteArray := prog_6_method_3_code
def yX4_covers : MethodName := ⟨RX4, "covers", "(LEarlyGauge$Outlook;)Z"⟩
abbrev cX4_payment : ByteArray := prog_6_method_4_code
def yX4_payment : MethodName := ⟨RX4, "payment", "(LEarlyGauge$Outlook;I)I"⟩
def RX5 : String := "EarlyGauge$Knees"
def TX5 : u_T := fun k => match k with
  | 0 => ("EarlyGauge$Keeper", "cost", "I", true)
  | 1 => ("EarlyGauge$Keeper", "loss", "I", true)
  | _ => ("EarlyGauge$Keeper", "paid", "I", false)
def tyX5 : Nat → FieldType := fun k => match k with
  | 0 => .int
  | 1 => .int
  | _ => .int
abbrev wsX50 : List Cond := u_ws RX5 TX5 3
theorem nmX5 : ∀ a, a < 3 → ∀ b, b < 3 → a ≠ b → (TX5 a).2.1 ≠ (TX5 b).2.1 := by decide +kernel
theorem tyX5_ok : ∀ k, k < 3 → parseFieldDescriptor (TX5 k).2.2.1 = some (tyX5 k) := by decide +kernel
abbrev cX5_init : ByteArray := prog_7_method_1_code
def yX5_init : MethodName := ⟨RX5, "<init>", "(II)V"⟩
abbrev cX5_kindNumber : ByteArray := prog_7_method_2_code
def yX5_kindNumber : MethodName := ⟨RX5, "kindNumber", "()I"⟩
abbrev cX5_covers : ByteArray := prog_7_method_3_code
def yX5_covers : MethodName := ⟨RX5, "covers", "(LEarlyGauge$Outlook;)Z"⟩
def RX6 : String := "EarlyGauge$Miser"
def TX6 : u_T := fun k => match k with
  | 0 => ("EarlyGauge$Keeper", "cost", "I", true)
  | 1 => ("EarlyGauge$Keeper", "loss", "I", true)
  | _ => ("EarlyGauge$Keeper", "paid", "I", false)
def tyX6 : Nat → FieldType := fun k => match k with
  | 0 => .int
  | 1 => .int
  | _ => .int
abbrev wsX60 : List Cond := u_ws RX6 TX6 3
theorem nmX6 : ∀ a, a < 3 → ∀ b, b < 3 → a ≠ b → (TX6 a).2.1 ≠ (TX6 b).2.1 := by decide +kernel
theorem tyX6_ok : ∀ k, k < 3 → parseFieldDescriptor (TX6 k).2.2.1 = some (tyX6 k) := by decide +kernel
abbrev cX6_init : ByteArray := prog_8_method_1_code
def yX6_init : MethodName := ⟨RX6, "<init>", "(II)V"⟩
abbrev cX6_kindNumber : ByteArray := prog_8_method_2_code
def yX6_kindNumber : MethodName := ⟨RX6, "kindNumber", "()I"⟩
abbrev cX6_covers : ByteArray := prog_8_method_3_code
def yX6_covers : MethodName := ⟨RX6, "covers", "(LEarlyGauge$Outlook;)Z"⟩
def RX7 : String := "EarlyGauge$Outlook"
def TX7 : u_T := fun k => match k with
  | 0 => ("EarlyGauge$Outlook", "station", "LEarlyGauge$Station;", true)
  | 1 => ("EarlyGauge$Outlook", "readings", "[I", true)
  | 2 => ("EarlyGauge$Outlook", "dayNumber", "I", false)
  | 3 => ("EarlyGauge$Outlook", "weather", "I", false)
  | 4 => ("EarlyGauge$Outlook", "until", "[[J", true)
  | 5 => ("EarlyGauge$Outlook", "behind", "[[J", true)
  | 6 => ("EarlyGauge$Outlook", "best", "[[J", true)
  | _ => ("EarlyGauge$Outlook", "possible", "[[I", true)
def tyX7 : Nat → FieldType := fun k => match k with
  | 0 => .object "EarlyGauge$Station"
  | 1 => .array .int
  | 2 => .int
  | 3 => .int
  | 4 => .array (.array .long)
  | 5 => .array (.array .long)
  | 6 => .array (.array .long)
  | _ => .array (.array .int)
abbrev wsX70 : List Cond := u_ws RX7 TX7 8
theorem nmX7 : ∀ a, a < 8 → ∀ b, b < 8 → a ≠ b → (TX7 a).2.1 ≠ (TX7 b).2.1 := by decide +kernel
theorem tyX7_ok : ∀ k, k < 8 → parseFieldDescriptor (TX7 k).2.2.1 = some (tyX7 k) := by decide +kernel
abbrev cX7_init : ByteArray := prog_9_method_1_code
def yX7_init : MethodName := ⟨RX7, "<init>", "(LEarlyGauge$Station;)V"⟩
abbrev cX7_startAnew : ByteArray := prog_9_method_2_code
def yX7_startAnew : MethodName := ⟨RX7, "startAnew", "(I)V"⟩
abbrev cX7_copyFrom : ByteArray := prog_9_method_3_code
def yX7_copyFrom : MethodName := ⟨RX7, "copyFrom", "(LEarlyGauge$Outlook;)V"⟩
abbrev cX7_passDay : ByteArray := prog_9_method_4_code
def yX7_passDay : MethodName := ⟨RX7, "passDay", "(I)V"⟩
abbrev cX7_tell : ByteArray := prog_9_method_5_code
def yX7_tell : MethodName := ⟨RX7, "tell", "(I)Z"⟩
abbrev cX7_readingOf : ByteArray := prog_9_method_6_code
def yX7_readingOf : MethodName := ⟨RX7, "readingOf", "(I)I"⟩
abbrev cX7_readingsTold : ByteArray := prog_9_method_7_code
def yX7_readingsTold : MethodName := ⟨RX7, "readingsTold", "()I"⟩
abbrev cX7_oddsOf : ByteArray := prog_9_method_8_code
def yX7_oddsOf : MethodName := ⟨RX7, "oddsOf", "(II)J"⟩
abbrev cX7_allOdds : ByteArray := prog_9_method_9_code
def yX7_allOdds : MethodName := ⟨RX7, "allOdds", "()J"⟩
abbrev cX7_possibleDays : ByteArray := prog_9_method_10_code
def yX7_possibleDays : MethodName := ⟨RX7, "possibleDays", "()I"⟩
abbrev cX7_sureWeather : ByteArray := prog_9_method_11_code
def yX7_sureWeather : MethodName := ⟨RX7, "sureWeather", "(I)I"⟩
abbrev cX7_numberOfMostOdds : ByteArray := prog_9_method_12_code
def yX7_numberOfMostOdds : MethodName := ⟨RX7, "numberOfMostOdds", "()I"⟩
abbrev cX7_meanByKnowing : ByteArray := prog_9_method_13_code
def yX7_meanByKnowing : MethodName := ⟨RX7, "meanByKnowing", "(III)J"⟩
abbrev cX7_reckon : ByteArray := prog_9_method_14_code
def yX7_reckon : MethodName := ⟨RX7, "reckon", "()V"⟩
abbrev cX7_reckonBehind : ByteArray := prog_9_method_15_code
def yX7_reckonBehind : MethodName := ⟨RX7, "reckonBehind", "()V"⟩
abbrev cX7_reckonUntil : ByteArray := prog_9_method_16_code
def yX7_reckonUntil : MethodName := ⟨RX7, "reckonUntil", "()V"⟩
abbrev cX7_stepOdds : ByteArray := prog_9_method_17_code
def yX7_stepOdds : MethodName := ⟨RX7, "stepOdds", "(III)J"⟩
def RX8 : String := "EarlyGauge$Page"
def TX8 : u_T := fun k => match k with
  | 0 => ("EarlyGauge$Page", "codes", "[I", true)
  | _ => ("EarlyGauge$Page", "letters", "I", false)
def tyX8 : Nat → FieldType := fun k => match k with
  | 0 => .array .int
  | _ => .int
abbrev wsX80 : List Cond := u_ws RX8 TX8 2
theorem nmX8 : ∀ a, a < 2 → ∀ b, b < 2 → a ≠ b → (TX8 a).2.1 ≠ (TX8 b).2.1 := by decide +kernel
theorem tyX8_ok : ∀ k, k < 2 → parseFieldDescriptor (TX8 k).2.2.1 = some (tyX8 k) := by decide +kernel
abbrev cX8_init : ByteArray := prog_10_method_1_code
def yX8_init : MethodName := ⟨RX8, "<init>", "()V"⟩
abbrev cX8_append : ByteArray := prog_10_method_2_code
def yX8_append : MethodName := ⟨RX8, "append", "(I)Z"⟩
abbrev cX8_codeAt : ByteArray := prog_10_method_3_code
def yX8_codeAt : MethodName := ⟨RX8, "codeAt", "(I)I"⟩
abbrev cX8_digitAt : ByteArray := prog_10_method_4_code
def yX8_digitAt : MethodName := ⟨RX8, "digitAt", "(I)I"⟩
abbrev cX8_isStation : ByteArray := prog_10_method_5_code
def yX8_isStation : MethodName := ⟨RX8, "isStation", "()Z"⟩
abbrev cX8_firstFault : ByteArray := prog_10_method_6_code
def yX8_firstFault : MethodName := ⟨RX8, "firstFault", "()I"⟩
abbrev cX8_isGoodAt : ByteArray := prog_10_method_7_code
def yX8_isGoodAt : MethodName := ⟨RX8, "isGoodAt", "(I)Z"⟩
abbrev cX8_isGoodTenths : ByteArray := prog_10_method_8_code
def yX8_isGoodTenths : MethodName := ⟨RX8, "isGoodTenths", "(I)Z"⟩
def RX9 : String := "EarlyGauge$Station"
def TX9 : u_T := fun k => match k with
  | 0 => ("EarlyGauge$Station", "tenths", "[I", true)
  | 1 => ("EarlyGauge$Station", "early", "I", false)
  | _ => ("EarlyGauge$Station", "slip", "I", false)
def tyX9 : Nat → FieldType := fun k => match k with
  | 0 => .array .int
  | 1 => .int
  | _ => .int
abbrev wsX90 : List Cond := u_ws RX9 TX9 3
theorem nmX9 : ∀ a, a < 3 → ∀ b, b < 3 → a ≠ b → (TX9 a).2.1 ≠ (TX9 b).2.1 := by decide +kernel
theorem tyX9_ok : ∀ k, k < 3 → parseFieldDescriptor (TX9 k).2.2.1 = some (tyX9 k) := by decide +kernel
abbrev cX9_init : ByteArray := prog_11_method_1_code
def yX9_init : MethodName := ⟨RX9, "<init>", "()V"⟩
abbrev cX9_isRead : ByteArray := prog_11_method_2_code
def yX9_isRead : MethodName := ⟨RX9, "isRead", "()Z"⟩
abbrev cX9_read : ByteArray := prog_11_method_3_code
def yX9_read : MethodName := ⟨RX9, "read", "(LEarlyGauge$Page;)V"⟩
abbrev cX9_tenthsFrom : ByteArray := prog_11_method_4_code
def yX9_tenthsFrom : MethodName := ⟨RX9, "tenthsFrom", "(II)I"⟩
abbrev cX9_fit : ByteArray := prog_11_method_5_code
def yX9_fit : MethodName := ⟨RX9, "fit", "(II)I"⟩
def RX10 : String := "EarlyGauge$Trial"
def TX10 : u_T := fun k => match k with
  | 0 => ("EarlyGauge$Trial", "station", "LEarlyGauge$Station;", true)
  | 1 => ("EarlyGauge$Trial", "coming", "LEarlyGauge$Outlook;", true)
  | 2 => ("EarlyGauge$Trial", "drawn", "[I", true)
  | 3 => ("EarlyGauge$Trial", "drawnAhead", "I", false)
  | 4 => ("EarlyGauge$Trial", "seed", "J", false)
  | 5 => ("EarlyGauge$Trial", "wet", "I", false)
  | 6 => ("EarlyGauge$Trial", "paid", "I", false)
  | _ => ("EarlyGauge$Trial", "slipped", "I", false)
def tyX10 : Nat → FieldType := fun k => match k with
  | 0 => .object "EarlyGauge$Station"
  | 1 => .object "EarlyGauge$Outlook"
  | 2 => .array .int
  | 3 => .int
  | 4 => .long
  | 5 => .int
  | 6 => .int
  | _ => .int
abbrev wsX100 : List Cond := u_ws RX10 TX10 8
theorem nmX10 : ∀ a, a < 8 → ∀ b, b < 8 → a ≠ b → (TX10 a).2.1 ≠ (TX10 b).2.1 := by decide +kernel
theorem tyX10_ok : ∀ k, k < 8 → parseFieldDescriptor (TX10 k).2.2.1 = some (tyX10 k) := by decide +kernel
abbrev cX10_init : ByteArray := prog_12_method_1_code
def yX10_init : MethodName := ⟨RX10, "<init>", "(LEarlyGauge$Station;LEarlyGauge$Outlook;)V"⟩
abbrev cX10_begin : ByteArray := prog_12_method_2_code
def yX10_begin : MethodName := ⟨RX10, "begin", "(II)V"⟩
abbrev cX10_tellOne : ByteArray := prog_12_method_3_code
def yX10_tellOne : MethodName := ⟨RX10, "tellOne", "()V"⟩
abbrev cX10_passOne : ByteArray := prog_12_method_4_code
def yX10_passOne : MethodName := ⟨RX10, "passOne", "([LEarlyGauge$Keeper;)V"⟩
abbrev cX10_drawWeather : ByteArray := prog_12_method_5_code
def yX10_drawWeather : MethodName := ⟨RX10, "drawWeather", "(I)I"⟩
abbrev cX10_draw : ByteArray := prog_12_method_6_code
def yX10_draw : MethodName := ⟨RX10, "draw", "()I"⟩
def RX11 : String := "EarlyGauge"
def TX11 : u_T := fun k => match k with
  | 0 => ("EarlyGauge", "page", "LEarlyGauge$Page;", true)
  | 1 => ("EarlyGauge", "station", "LEarlyGauge$Station;", true)
  | 2 => ("EarlyGauge", "coming", "LEarlyGauge$Outlook;", true)
  | 3 => ("EarlyGauge", "people", "[LEarlyGauge$Keeper;", true)
  | 4 => ("EarlyGauge", "book", "LEarlyGauge$Book;", true)
  | 5 => ("EarlyGauge", "trial", "LEarlyGauge$Trial;", true)
  | 6 => ("EarlyGauge", "image", "LEarlyGauge$Image;", true)
  | _ => ("EarlyGauge", "stationsRead", "I", false)
def tyX11 : Nat → FieldType := fun k => match k with
  | 0 => .object "EarlyGauge$Page"
  | 1 => .object "EarlyGauge$Station"
  | 2 => .object "EarlyGauge$Outlook"
  | 3 => .array (.object "EarlyGauge$Keeper")
  | 4 => .object "EarlyGauge$Book"
  | 5 => .object "EarlyGauge$Trial"
  | 6 => .object "EarlyGauge$Image"
  | _ => .int
abbrev wsX110 : List Cond := u_ws RX11 TX11 8
theorem nmX11 : ∀ a, a < 8 → ∀ b, b < 8 → a ≠ b → (TX11 a).2.1 ≠ (TX11 b).2.1 := by decide +kernel
theorem tyX11_ok : ∀ k, k < 8 → parseFieldDescriptor (TX11 k).2.2.1 = some (tyX11 k) := by decide +kernel
abbrev cX11_init : ByteArray := prog_1_method_1_code
def yX11_init : MethodName := ⟨RX11, "<init>", "()V"⟩
abbrev cX11_letter : ByteArray := prog_1_method_2_code
def yX11_letter : MethodName := ⟨RX11, "letter", "(I)I"⟩
abbrev cX11_blank : ByteArray := prog_1_method_3_code
def yX11_blank : MethodName := ⟨RX11, "blank", "()I"⟩
abbrev cX11_fault : ByteArray := prog_1_method_4_code
def yX11_fault : MethodName := ⟨RX11, "fault", "()I"⟩
abbrev cX11_station : ByteArray := prog_1_method_5_code
def yX11_station : MethodName := ⟨RX11, "station", "()I"⟩
abbrev cX11_follows : ByteArray := prog_1_method_6_code
def yX11_follows : MethodName := ⟨RX11, "follows", "(II)I"⟩
abbrev cX11_reading : ByteArray := prog_1_method_7_code
def yX11_reading : MethodName := ⟨RX11, "reading", "(I)I"⟩
abbrev cX11_told : ByteArray := prog_1_method_8_code
def yX11_told : MethodName := ⟨RX11, "told", "(I)I"⟩
abbrev cX11_day : ByteArray := prog_1_method_9_code
def yX11_day : MethodName := ⟨RX11, "day", "(I)I"⟩
abbrev cX11_person : ByteArray := prog_1_method_10_code
def yX11_person : MethodName := ⟨RX11, "person", "(III)I"⟩
abbrev cX11_about : ByteArray := prog_1_method_11_code
def yX11_about : MethodName := ⟨RX11, "about", "(II)I"⟩
abbrev cX11_as : ByteArray := prog_1_method_12_code
def yX11_as : MethodName := ⟨RX11, "as", "(II)I"⟩
abbrev cX11_likely : ByteArray := prog_1_method_13_code
def yX11_likely : MethodName := ⟨RX11, "likely", "(III)J"⟩
abbrev cX11_likeliest : ByteArray := prog_1_method_14_code
def yX11_likeliest : MethodName := ⟨RX11, "likeliest", "()I"⟩
abbrev cX11_ways : ByteArray := prog_1_method_15_code
def yX11_ways : MethodName := ⟨RX11, "ways", "()I"⟩
abbrev cX11_sure : ByteArray := prog_1_method_16_code
def yX11_sure : MethodName := ⟨RX11, "sure", "(I)I"⟩
abbrev cX11_look : ByteArray := prog_1_method_17_code
def yX11_look : MethodName := ⟨RX11, "look", "(III)J"⟩
abbrev cX11_book : ByteArray := prog_1_method_18_code
def yX11_book : MethodName := ⟨RX11, "book", "(II)I"⟩
abbrev cX11_forget : ByteArray := prog_1_method_19_code
def yX11_forget : MethodName := ⟨RX11, "forget", "()I"⟩
abbrev cX11_wrong : ByteArray := prog_1_method_20_code
def yX11_wrong : MethodName := ⟨RX11, "wrong", "(I)I"⟩
abbrev cX11_earliest : ByteArray := prog_1_method_21_code
def yX11_earliest : MethodName := ⟨RX11, "earliest", "()I"⟩
abbrev cX11_days : ByteArray := prog_1_method_22_code
def yX11_days : MethodName := ⟨RX11, "days", "(III)I"⟩
abbrev cX11_image : ByteArray := prog_1_method_23_code
def yX11_image : MethodName := ⟨RX11, "image", "()I"⟩
abbrev cX11_restore : ByteArray := prog_1_method_24_code
def yX11_restore : MethodName := ⟨RX11, "restore", "()I"⟩
abbrev cX11_count : ByteArray := prog_1_method_25_code
def yX11_count : MethodName := ⟨RX11, "count", "(I)I"⟩
abbrev cX11_digest : ByteArray := prog_1_method_26_code
def yX11_digest : MethodName := ⟨RX11, "digest", "()J"⟩
abbrev cX11_digestOfPeople : ByteArray := prog_1_method_27_code
def yX11_digestOfPeople : MethodName := ⟨RX11, "digestOfPeople", "(J)J"⟩
abbrev cX11_digestOfComing : ByteArray := prog_1_method_28_code
def yX11_digestOfComing : MethodName := ⟨RX11, "digestOfComing", "(J)J"⟩
abbrev cX11_digestOfLikely : ByteArray := prog_1_method_29_code
def yX11_digestOfLikely : MethodName := ⟨RX11, "digestOfLikely", "(JI)J"⟩
abbrev cX11_isWeather : ByteArray := prog_1_method_30_code
def yX11_isWeather : MethodName := ⟨RX11, "isWeather", "(I)Z"⟩
abbrev cX11_isAhead : ByteArray := prog_1_method_31_code
def yX11_isAhead : MethodName := ⟨RX11, "isAhead", "(I)Z"⟩
abbrev cX11_isPart : ByteArray := prog_1_method_32_code
def yX11_isPart : MethodName := ⟨RX11, "isPart", "(I)Z"⟩
abbrev cX11_isPrice : ByteArray := prog_1_method_33_code
def yX11_isPrice : MethodName := ⟨RX11, "isPrice", "(I)Z"⟩
abbrev cX11_lowestTerms : ByteArray := prog_1_method_34_code
def yX11_lowestTerms : MethodName := ⟨RX11, "lowestTerms", "(JJI)J"⟩
abbrev cX11_greatestDivisor : ByteArray := prog_1_method_35_code
def yX11_greatestDivisor : MethodName := ⟨RX11, "greatestDivisor", "(JJ)J"⟩
abbrev cX11_newcomer : ByteArray := prog_1_method_36_code
def yX11_newcomer : MethodName := ⟨RX11, "newcomer", "(III)LEarlyGauge$Keeper;"⟩
abbrev cX11_isOfKind : ByteArray := prog_1_method_37_code
def yX11_isOfKind : MethodName := ⟨RX11, "isOfKind", "(LEarlyGauge$Keeper;I)Z"⟩
abbrev cX11_personOf : ByteArray := prog_1_method_38_code
def yX11_personOf : MethodName := ⟨RX11, "personOf", "(I)LEarlyGauge$Keeper;"⟩
abbrev cX11_countPeople : ByteArray := prog_1_method_39_code
def yX11_countPeople : MethodName := ⟨RX11, "countPeople", "()I"⟩
abbrev cX11_paidByAll : ByteArray := prog_1_method_40_code
def yX11_paidByAll : MethodName := ⟨RX11, "paidByAll", "()I"⟩
def RX12 : String := "EarlyGaugeModel"
def TX12 : u_T := fun k => match k with
  | 0 => ("EarlyGaugeModel", "isStation", "Z", false)
  | 1 => ("EarlyGaugeModel", "stations", "I", false)
  | 2 => ("EarlyGaugeModel", "tenths", "[I", true)
  | 3 => ("EarlyGaugeModel", "early", "I", false)
  | 4 => ("EarlyGaugeModel", "slip", "I", false)
  | 5 => ("EarlyGaugeModel", "dayBy", "I", false)
  | 6 => ("EarlyGaugeModel", "weatherNow", "I", false)
  | 7 => ("EarlyGaugeModel", "toldOf", "[I", true)
  | 8 => ("EarlyGaugeModel", "people", "I", false)
  | 9 => ("EarlyGaugeModel", "kindOf", "[I", true)
  | 10 => ("EarlyGaugeModel", "costOf", "[I", true)
  | 11 => ("EarlyGaugeModel", "lossOf", "[I", true)
  | 12 => ("EarlyGaugeModel", "paidOf", "[I", true)
  | 13 => ("EarlyGaugeModel", "days", "I", false)
  | 14 => ("EarlyGaugeModel", "bookWeather", "[I", true)
  | 15 => ("EarlyGaugeModel", "bookReading", "[I", true)
  | 16 => ("EarlyGaugeModel", "pageLength", "I", false)
  | 17 => ("EarlyGaugeModel", "page", "[B", true)
  | 18 => ("EarlyGaugeModel", "seedNow", "J", false)
  | 19 => ("EarlyGaugeModel", "savedDay", "I", false)
  | 20 => ("EarlyGaugeModel", "savedWeather", "I", false)
  | 21 => ("EarlyGaugeModel", "savedTold", "[I", true)
  | 22 => ("EarlyGaugeModel", "drawnOf", "[I", true)
  | 23 => ("EarlyGaugeModel", "drawnMany", "I", false)
  | 24 => ("EarlyGaugeModel", "slipped", "I", false)
  | 25 => ("EarlyGaugeModel", "isKept", "Z", false)
  | 26 => ("EarlyGaugeModel", "keptStation", "I", false)
  | 27 => ("EarlyGaugeModel", "keptDay", "I", false)
  | 28 => ("EarlyGaugeModel", "keptWeather", "I", false)
  | 29 => ("EarlyGaugeModel", "keptPeople", "I", false)
  | 30 => ("EarlyGaugeModel", "keptDays", "I", false)
  | 31 => ("EarlyGaugeModel", "keptTold", "[I", true)
  | 32 => ("EarlyGaugeModel", "keptPaid", "[I", true)
  | 33 => ("EarlyGaugeModel", "keptBookWeather", "[I", true)
  | 34 => ("EarlyGaugeModel", "keptBookReading", "[I", true)
  | _ => ("EarlyGaugeModel", "h", "J", false)
def tyX12 : Nat → FieldType := fun k => match k with
  | 0 => .boolean
  | 1 => .int
  | 2 => .array .int
  | 3 => .int
  | 4 => .int
  | 5 => .int
  | 6 => .int
  | 7 => .array .int
  | 8 => .int
  | 9 => .array .int
  | 10 => .array .int
  | 11 => .array .int
  | 12 => .array .int
  | 13 => .int
  | 14 => .array .int
  | 15 => .array .int
  | 16 => .int
  | 17 => .array .byte
  | 18 => .long
  | 19 => .int
  | 20 => .int
  | 21 => .array .int
  | 22 => .array .int
  | 23 => .int
  | 24 => .int
  | 25 => .boolean
  | 26 => .int
  | 27 => .int
  | 28 => .int
  | 29 => .int
  | 30 => .int
  | 31 => .array .int
  | 32 => .array .int
  | 33 => .array .int
  | 34 => .array .int
  | _ => .long
abbrev wsX120 : List Cond := u_ws RX12 TX12 36
theorem nmX12 : ∀ a, a < 36 → ∀ b, b < 36 → a ≠ b → (TX12 a).2.1 ≠ (TX12 b).2.1 := by decide +kernel
theorem tyX12_ok : ∀ k, k < 36 → parseFieldDescriptor (TX12 k).2.2.1 = some (tyX12 k) := by decide +kernel
abbrev cX12_init : ByteArray := prog_14_method_1_code
def yX12_init : MethodName := ⟨RX12, "<init>", "()V"⟩
abbrev cX12_within : ByteArray := prog_14_method_3_code
def yX12_within : MethodName := ⟨RX12, "within", "(III)Z"⟩
abbrev cX12_isWeather : ByteArray := prog_14_method_4_code
def yX12_isWeather : MethodName := ⟨RX12, "isWeather", "(I)Z"⟩
abbrev cX12_lowest : ByteArray := prog_14_method_5_code
def yX12_lowest : MethodName := ⟨RX12, "lowest", "(JJI)J"⟩
abbrev cX12_letter : ByteArray := prog_14_method_6_code
def yX12_letter : MethodName := ⟨RX12, "letter", "(I)I"⟩
abbrev cX12_blank : ByteArray := prog_14_method_7_code
def yX12_blank : MethodName := ⟨RX12, "blank", "()I"⟩
abbrev cX12_figure : ByteArray := prog_14_method_8_code
def yX12_figure : MethodName := ⟨RX12, "figure", "(I)I"⟩
abbrev cX12_isGood : ByteArray := prog_14_method_9_code
def yX12_isGood : MethodName := ⟨RX12, "isGood", "(I)Z"⟩
abbrev cX12_faultNow : ByteArray := prog_14_method_10_code
def yX12_faultNow : MethodName := ⟨RX12, "faultNow", "()I"⟩
abbrev cX12_fault : ByteArray := prog_14_method_11_code
def yX12_fault : MethodName := ⟨RX12, "fault", "()I"⟩
abbrev cX12_station : ByteArray := prog_14_method_12_code
def yX12_station : MethodName := ⟨RX12, "station", "()I"⟩
abbrev cX12_follows : ByteArray := prog_14_method_13_code
def yX12_follows : MethodName := ⟨RX12, "follows", "(II)I"⟩
abbrev cX12_weatherIn : ByteArray := prog_14_method_14_code
def yX12_weatherIn : MethodName := ⟨RX12, "weatherIn", "(II)I"⟩
abbrev cX12_tells : ByteArray := prog_14_method_15_code
def yX12_tells : MethodName := ⟨RX12, "tells", "(II)I"⟩
abbrev cX12_oddsOf : ByteArray := prog_14_method_16_code
def yX12_oddsOf : MethodName := ⟨RX12, "oddsOf", "(I)J"⟩
abbrev cX12_weightOf : ByteArray := prog_14_method_17_code
def yX12_weightOf : MethodName := ⟨RX12, "weightOf", "(II)J"⟩
abbrev cX12_toldMany : ByteArray := prog_14_method_18_code
def yX12_toldMany : MethodName := ⟨RX12, "toldMany", "()I"⟩
abbrev cX12_reading : ByteArray := prog_14_method_19_code
def yX12_reading : MethodName := ⟨RX12, "reading", "(I)I"⟩
abbrev cX12_told : ByteArray := prog_14_method_20_code
def yX12_told : MethodName := ⟨RX12, "told", "(I)I"⟩
abbrev cX12_covers : ByteArray := prog_14_method_21_code
def yX12_covers : MethodName := ⟨RX12, "covers", "(I)Z"⟩
abbrev cX12_goDay : ByteArray := prog_14_method_22_code
def yX12_goDay : MethodName := ⟨RX12, "goDay", "(IZ)I"⟩
abbrev cX12_day : ByteArray := prog_14_method_23_code
def yX12_day : MethodName := ⟨RX12, "day", "(I)I"⟩
abbrev cX12_isPerson : ByteArray := prog_14_method_24_code
def yX12_isPerson : MethodName := ⟨RX12, "isPerson", "(I)Z"⟩
abbrev cX12_person : ByteArray := prog_14_method_25_code
def yX12_person : MethodName := ⟨RX12, "person", "(III)I"⟩
abbrev cX12_personNow : ByteArray := prog_14_method_26_code
def yX12_personNow : MethodName := ⟨RX12, "personNow", "(II)I"⟩
abbrev cX12_about : ByteArray := prog_14_method_27_code
def yX12_about : MethodName := ⟨RX12, "about", "(II)I"⟩
abbrev cX12_as : ByteArray := prog_14_method_28_code
def yX12_as : MethodName := ⟨RX12, "as", "(II)I"⟩
abbrev cX12_likelyNow : ByteArray := prog_14_method_29_code
def yX12_likelyNow : MethodName := ⟨RX12, "likelyNow", "(III)J"⟩
abbrev cX12_likely : ByteArray := prog_14_method_30_code
def yX12_likely : MethodName := ⟨RX12, "likely", "(III)J"⟩
abbrev cX12_likeliestNow : ByteArray := prog_14_method_31_code
def yX12_likeliestNow : MethodName := ⟨RX12, "likeliestNow", "()I"⟩
abbrev cX12_likeliest : ByteArray := prog_14_method_32_code
def yX12_likeliest : MethodName := ⟨RX12, "likeliest", "()I"⟩
abbrev cX12_waysNow : ByteArray := prog_14_method_33_code
def yX12_waysNow : MethodName := ⟨RX12, "waysNow", "()I"⟩
abbrev cX12_ways : ByteArray := prog_14_method_34_code
def yX12_ways : MethodName := ⟨RX12, "ways", "()I"⟩
abbrev cX12_sureNow : ByteArray := prog_14_method_35_code
def yX12_sureNow : MethodName := ⟨RX12, "sureNow", "(I)I"⟩
abbrev cX12_sure : ByteArray := prog_14_method_36_code
def yX12_sure : MethodName := ⟨RX12, "sure", "(I)I"⟩
abbrev cX12_less : ByteArray := prog_14_method_37_code
def yX12_less : MethodName := ⟨RX12, "less", "(JJ)J"⟩
abbrev cX12_lookNow : ByteArray := prog_14_method_38_code
def yX12_lookNow : MethodName := ⟨RX12, "lookNow", "(III)J"⟩
abbrev cX12_look : ByteArray := prog_14_method_39_code
def yX12_look : MethodName := ⟨RX12, "look", "(III)J"⟩
abbrev cX12_book : ByteArray := prog_14_method_40_code
def yX12_book : MethodName := ⟨RX12, "book", "(II)I"⟩
abbrev cX12_forget : ByteArray := prog_14_method_41_code
def yX12_forget : MethodName := ⟨RX12, "forget", "()I"⟩
abbrev cX12_lookedAt : ByteArray := prog_14_method_42_code
def yX12_lookedAt : MethodName := ⟨RX12, "lookedAt", "(IZ)I"⟩
abbrev cX12_wrong : ByteArray := prog_14_method_43_code
def yX12_wrong : MethodName := ⟨RX12, "wrong", "(I)I"⟩
abbrev cX12_earliestNow : ByteArray := prog_14_method_44_code
def yX12_earliestNow : MethodName := ⟨RX12, "earliestNow", "()I"⟩
abbrev cX12_earliest : ByteArray := prog_14_method_45_code
def yX12_earliest : MethodName := ⟨RX12, "earliest", "()I"⟩
abbrev cX12_draw : ByteArray := prog_14_method_46_code
def yX12_draw : MethodName := ⟨RX12, "draw", "(I)I"⟩
abbrev cX12_drawDays : ByteArray := prog_14_method_47_code
def yX12_drawDays : MethodName := ⟨RX12, "drawDays", "()V"⟩
abbrev cX12_goSeeded : ByteArray := prog_14_method_48_code
def yX12_goSeeded : MethodName := ⟨RX12, "goSeeded", "()I"⟩
abbrev cX12_daysNow : ByteArray := prog_14_method_49_code
def yX12_daysNow : MethodName := ⟨RX12, "daysNow", "(III)I"⟩
abbrev cX12_days : ByteArray := prog_14_method_50_code
def yX12_days : MethodName := ⟨RX12, "days", "(III)I"⟩
abbrev cX12_image : ByteArray := prog_14_method_51_code
def yX12_image : MethodName := ⟨RX12, "image", "()I"⟩
abbrev cX12_restore : ByteArray := prog_14_method_52_code
def yX12_restore : MethodName := ⟨RX12, "restore", "()I"⟩
abbrev cX12_paidAll : ByteArray := prog_14_method_53_code
def yX12_paidAll : MethodName := ⟨RX12, "paidAll", "()I"⟩
abbrev cX12_howMany : ByteArray := prog_14_method_54_code
def yX12_howMany : MethodName := ⟨RX12, "howMany", "(I)I"⟩
abbrev cX12_count : ByteArray := prog_14_method_55_code
def yX12_count : MethodName := ⟨RX12, "count", "(I)I"⟩
abbrev cX12_mix : ByteArray := prog_14_method_56_code
def yX12_mix : MethodName := ⟨RX12, "mix", "(J)V"⟩
abbrev cX12_mixLikely : ByteArray := prog_14_method_57_code
def yX12_mixLikely : MethodName := ⟨RX12, "mixLikely", "(I)V"⟩
abbrev cX12_digest : ByteArray := prog_14_method_58_code
def yX12_digest : MethodName := ⟨RX12, "digest", "()J"⟩
def RJ9 : String := "java/lang/Math"
def TJ9 : u_T := fun k => match k with
  | _ => ("", "", "", false)
def tyJ9 : Nat → FieldType := fun k => match k with
  | _ => .int
abbrev wsJ90 : List Cond := u_ws RJ9 TJ9 0
theorem nmJ9 : ∀ a, a < 0 → ∀ b, b < 0 → a ≠ b → (TJ9 a).2.1 ≠ (TJ9 b).2.1 := by decide +kernel
theorem tyJ9_ok : ∀ k, k < 0 → parseFieldDescriptor (TJ9 k).2.2.1 = some (tyJ9 k) := by decide +kernel
abbrev cJ9_max_f86c9 : ByteArray := prog_15_method_66_code
def yJ9_max_f86c9 : MethodName := ⟨RJ9, "max", "(JJ)J"⟩
abbrev cJ9_min_f86c9 : ByteArray := prog_15_method_70_code
def yJ9_min_f86c9 : MethodName := ⟨RJ9, "min", "(JJ)J"⟩
def RL : String := "EarlyGaugeLaw"
abbrev cL_law : ByteArray := code
def yL_law : MethodName := ⟨RL, "law", "([I)Z"⟩
abbrev vwCl : List vw_C := [(RX0, TX0, 3), (RX1, TX1, 3), (RX2, TX2, 3), (RX3, TX3, 5), (RX4, TX4, 3), (RX5, TX5, 3), (RX6, TX6, 3), (RX7, TX7, 8), (RX8, TX8, 2), (RX9, TX9, 3), (RX10, TX10, 8), (RX11, TX11, 8), (RX12, TX12, 36)]
end
section
theorem dX0_init_0 : decode cX0_init 0 = .ok (.aload_n 0, 1) := by decide +kernel
theorem dX0_init_1 : decode cX0_init 1 = .ok (.invokespecial 3, 3) := by decide +kernel
theorem dX0_init_4 : decode cX0_init 4 = .ok (.aload_n 0, 1) := by decide +kernel
theorem dX0_init_5 : decode cX0_init 5 = .ok (.bipush 12, 2) := by decide +kernel
theorem dX0_init_7 : decode cX0_init 7 = .ok (.newarray .int, 2) := by decide +kernel
theorem dX0_init_9 : decode cX0_init 9 = .ok (.putfield 11, 3) := by decide +kernel
theorem dX0_init_12 : decode cX0_init 12 = .ok (.aload_n 0, 1) := by decide +kernel
theorem dX0_init_13 : decode cX0_init 13 = .ok (.bipush 12, 2) := by decide +kernel
theorem dX0_init_15 : decode cX0_init 15 = .ok (.newarray .int, 2) := by decide +kernel
theorem dX0_init_17 : decode cX0_init 17 = .ok (.putfield 15, 3) := by decide +kernel
theorem dX0_init_20 : decode cX0_init 20 = .ok (.return_, 1) := by decide +kernel
theorem dX0_append_0 : decode cX0_append 0 = .ok (.aload_n 0, 1) := by decide +kernel
theorem dX0_append_1 : decode cX0_append 1 = .ok (.getfield 18, 3) := by decide +kernel
theorem dX0_append_4 : decode cX0_append 4 = .ok (.ifCond .lt 12, 3) := by decide +kernel
theorem dX0_append_7 : decode cX0_append 7 = .ok (.aload_n 0, 1) := by decide +kernel
theorem dX0_append_8 : decode cX0_append 8 = .ok (.getfield 18, 3) := by decide +kernel
theorem dX0_append_11 : decode cX0_append 11 = .ok (.bipush 12, 2) := by decide +kernel
theorem dX0_append_13 : decode cX0_append 13 = .ok (.if_icmp .lt 5, 3) := by decide +kernel
theorem dX0_append_16 : decode cX0_append 16 = .ok (.iconst 0, 1) := by decide +kernel
theorem dX0_append_17 : decode cX0_append 17 = .ok (.ireturn, 1) := by decide +kernel
theorem dX0_append_18 : decode cX0_append 18 = .ok (.aload_n 0, 1) := by decide +kernel
theorem dX0_append_19 : decode cX0_append 19 = .ok (.getfield 11, 3) := by decide +kernel
theorem dX0_append_22 : decode cX0_append 22 = .ok (.aload_n 0, 1) := by decide +kernel
theorem dX0_append_23 : decode cX0_append 23 = .ok (.getfield 18, 3) := by decide +kernel
theorem dX0_append_26 : decode cX0_append 26 = .ok (.iload_n 1, 1) := by decide +kernel
theorem dX0_append_27 : decode cX0_append 27 = .ok (.iastore, 1) := by decide +kernel
theorem dX0_append_28 : decode cX0_append 28 = .ok (.aload_n 0, 1) := by decide +kernel
theorem dX0_append_29 : decode cX0_append 29 = .ok (.getfield 15, 3) := by decide +kernel
theorem dX0_append_32 : decode cX0_append 32 = .ok (.aload_n 0, 1) := by decide +kernel
theorem dX0_append_33 : decode cX0_append 33 = .ok (.getfield 18, 3) := by decide +kernel
theorem dX0_append_36 : decode cX0_append 36 = .ok (.iload_n 2, 1) := by decide +kernel
theorem dX0_append_37 : decode cX0_append 37 = .ok (.iastore, 1) := by decide +kernel
theorem dX0_append_38 : decode cX0_append 38 = .ok (.aload_n 0, 1) := by decide +kernel
theorem dX0_append_39 : decode cX0_append 39 = .ok (.dup, 1) := by decide +kernel
theorem dX0_append_40 : decode cX0_append 40 = .ok (.getfield 18, 3) := by decide +kernel
theorem dX0_append_43 : decode cX0_append 43 = .ok (.iconst 1, 1) := by decide +kernel
theorem dX0_append_44 : decode cX0_append 44 = .ok (.iadd, 1) := by decide +kernel
theorem dX0_append_45 : decode cX0_append 45 = .ok (.putfield 18, 3) := by decide +kernel
theorem dX0_append_48 : decode cX0_append 48 = .ok (.iconst 1, 1) := by decide +kernel
theorem dX0_append_49 : decode cX0_append 49 = .ok (.ireturn, 1) := by decide +kernel
theorem dX0_copyFrom_0 : decode cX0_copyFrom 0 = .ok (.aload_n 0, 1) := by decide +kernel
theorem dX0_copyFrom_1 : decode cX0_copyFrom 1 = .ok (.aload_n 1, 1) := by decide +kernel
theorem dX0_copyFrom_2 : decode cX0_copyFrom 2 = .ok (.getfield 18, 3) := by decide +kernel
theorem dX0_copyFrom_5 : decode cX0_copyFrom 5 = .ok (.putfield 18, 3) := by decide +kernel
theorem dX0_copyFrom_8 : decode cX0_copyFrom 8 = .ok (.iconst 0, 1) := by decide +kernel
theorem dX0_copyFrom_9 : decode cX0_copyFrom 9 = .ok (.istore_n 2, 1) := by decide +kernel
theorem dX0_copyFrom_10 : decode cX0_copyFrom 10 = .ok (.iload_n 2, 1) := by decide +kernel
theorem dX0_copyFrom_11 : decode cX0_copyFrom 11 = .ok (.bipush 12, 2) := by decide +kernel
theorem dX0_copyFrom_13 : decode cX0_copyFrom 13 = .ok (.if_icmp .ge 33, 3) := by decide +kernel
theorem dX0_copyFrom_16 : decode cX0_copyFrom 16 = .ok (.aload_n 0, 1) := by decide +kernel
theorem dX0_copyFrom_17 : decode cX0_copyFrom 17 = .ok (.getfield 11, 3) := by decide +kernel
theorem dX0_copyFrom_20 : decode cX0_copyFrom 20 = .ok (.iload_n 2, 1) := by decide +kernel
theorem dX0_copyFrom_21 : decode cX0_copyFrom 21 = .ok (.aload_n 1, 1) := by decide +kernel
theorem dX0_copyFrom_22 : decode cX0_copyFrom 22 = .ok (.getfield 11, 3) := by decide +kernel
theorem dX0_copyFrom_25 : decode cX0_copyFrom 25 = .ok (.iload_n 2, 1) := by decide +kernel
theorem dX0_copyFrom_26 : decode cX0_copyFrom 26 = .ok (.iaload, 1) := by decide +kernel
theorem dX0_copyFrom_27 : decode cX0_copyFrom 27 = .ok (.iastore, 1) := by decide +kernel
theorem dX0_copyFrom_28 : decode cX0_copyFrom 28 = .ok (.aload_n 0, 1) := by decide +kernel
theorem dX0_copyFrom_29 : decode cX0_copyFrom 29 = .ok (.getfield 15, 3) := by decide +kernel
theorem dX0_copyFrom_32 : decode cX0_copyFrom 32 = .ok (.iload_n 2, 1) := by decide +kernel
theorem dX0_copyFrom_33 : decode cX0_copyFrom 33 = .ok (.aload_n 1, 1) := by decide +kernel
theorem dX0_copyFrom_34 : decode cX0_copyFrom 34 = .ok (.getfield 15, 3) := by decide +kernel
theorem dX0_copyFrom_37 : decode cX0_copyFrom 37 = .ok (.iload_n 2, 1) := by decide +kernel
theorem dX0_copyFrom_38 : decode cX0_copyFrom 38 = .ok (.iaload, 1) := by decide +kernel
theorem dX0_copyFrom_39 : decode cX0_copyFrom 39 = .ok (.iastore, 1) := by decide +kernel
theorem dX0_copyFrom_40 : decode cX0_copyFrom 40 = .ok (.iinc 2 1, 3) := by decide +kernel
theorem dX0_copyFrom_43 : decode cX0_copyFrom 43 = .ok (.goto (-33), 3) := by decide +kernel
theorem dX0_copyFrom_46 : decode cX0_copyFrom 46 = .ok (.return_, 1) := by decide +kernel
theorem dX0_readingsSeen_0 : decode cX0_readingsSeen 0 = .ok (.iconst 0, 1) := by decide +kernel
theorem dX0_readingsSeen_1 : decode cX0_readingsSeen 1 = .ok (.istore_n 2, 1) := by decide +kernel
theorem dX0_readingsSeen_2 : decode cX0_readingsSeen 2 = .ok (.iconst 0, 1) := by decide +kernel
theorem dX0_readingsSeen_3 : decode cX0_readingsSeen 3 = .ok (.istore_n 3, 1) := by decide +kernel
theorem dX0_readingsSeen_4 : decode cX0_readingsSeen 4 = .ok (.iload_n 3, 1) := by decide +kernel
theorem dX0_readingsSeen_5 : decode cX0_readingsSeen 5 = .ok (.bipush 12, 2) := by decide +kernel
theorem dX0_readingsSeen_7 : decode cX0_readingsSeen 7 = .ok (.if_icmp .ge 26, 3) := by decide +kernel
theorem dX0_readingsSeen_10 : decode cX0_readingsSeen 10 = .ok (.iload_n 2, 1) := by decide +kernel
theorem dX0_readingsSeen_11 : decode cX0_readingsSeen 11 = .ok (.aload_n 0, 1) := by decide +kernel
theorem dX0_readingsSeen_12 : decode cX0_readingsSeen 12 = .ok (.iload_n 3, 1) := by decide +kernel
theorem dX0_readingsSeen_13 : decode cX0_readingsSeen 13 = .ok (.iload_n 1, 1) := by decide +kernel
theorem dX0_readingsSeen_14 : decode cX0_readingsSeen 14 = .ok (.invokevirtual 22, 3) := by decide +kernel
theorem dX0_readingsSeen_17 : decode cX0_readingsSeen 17 = .ok (.ifCond .eq 7, 3) := by decide +kernel
theorem dX0_readingsSeen_20 : decode cX0_readingsSeen 20 = .ok (.iconst 1, 1) := by decide +kernel
theorem dX0_readingsSeen_21 : decode cX0_readingsSeen 21 = .ok (.goto 4, 3) := by decide +kernel
theorem dX0_readingsSeen_24 : decode cX0_readingsSeen 24 = .ok (.iconst 0, 1) := by decide +kernel
theorem dX0_readingsSeen_25 : decode cX0_readingsSeen 25 = .ok (.iadd, 1) := by decide +kernel
theorem dX0_readingsSeen_26 : decode cX0_readingsSeen 26 = .ok (.istore_n 2, 1) := by decide +kernel
theorem dX0_readingsSeen_27 : decode cX0_readingsSeen 27 = .ok (.iinc 3 1, 3) := by decide +kernel
theorem dX0_readingsSeen_30 : decode cX0_readingsSeen 30 = .ok (.goto (-26), 3) := by decide +kernel
theorem dX0_readingsSeen_33 : decode cX0_readingsSeen 33 = .ok (.iload_n 2, 1) := by decide +kernel
theorem dX0_readingsSeen_34 : decode cX0_readingsSeen 34 = .ok (.ireturn, 1) := by decide +kernel
theorem dX0_wrongReadings_0 : decode cX0_wrongReadings 0 = .ok (.iconst 0, 1) := by decide +kernel
theorem dX0_wrongReadings_1 : decode cX0_wrongReadings 1 = .ok (.istore_n 2, 1) := by decide +kernel
theorem dX0_wrongReadings_2 : decode cX0_wrongReadings 2 = .ok (.iconst 0, 1) := by decide +kernel
theorem dX0_wrongReadings_3 : decode cX0_wrongReadings 3 = .ok (.istore_n 3, 1) := by decide +kernel
theorem dX0_wrongReadings_4 : decode cX0_wrongReadings 4 = .ok (.iload_n 3, 1) := by decide +kernel
theorem dX0_wrongReadings_5 : decode cX0_wrongReadings 5 = .ok (.bipush 12, 2) := by decide +kernel
theorem dX0_wrongReadings_7 : decode cX0_wrongReadings 7 = .ok (.if_icmp .ge 54, 3) := by decide +kernel
theorem dX0_wrongReadings_10 : decode cX0_wrongReadings 10 = .ok (.iload_n 3, 1) := by decide +kernel
theorem dX0_wrongReadings_11 : decode cX0_wrongReadings 11 = .ok (.iload_n 1, 1) := by decide +kernel
theorem dX0_wrongReadings_12 : decode cX0_wrongReadings 12 = .ok (.iadd, 1) := by decide +kernel
theorem dX0_wrongReadings_13 : decode cX0_wrongReadings 13 = .ok (.istore 4, 2) := by decide +kernel
theorem dX0_wrongReadings_15 : decode cX0_wrongReadings 15 = .ok (.aload_n 0, 1) := by decide +kernel
theorem dX0_wrongReadings_16 : decode cX0_wrongReadings 16 = .ok (.iload_n 3, 1) := by decide +kernel
theorem dX0_wrongReadings_17 : decode cX0_wrongReadings 17 = .ok (.iload_n 1, 1) := by decide +kernel
theorem dX0_wrongReadings_18 : decode cX0_wrongReadings 18 = .ok (.invokevirtual 22, 3) := by decide +kernel
theorem dX0_wrongReadings_21 : decode cX0_wrongReadings 21 = .ok (.ifCond .eq 34, 3) := by decide +kernel
theorem dX0_wrongReadings_24 : decode cX0_wrongReadings 24 = .ok (.iload 4, 2) := by decide +kernel
theorem dX0_wrongReadings_26 : decode cX0_wrongReadings 26 = .ok (.ifCond .lt 29, 3) := by decide +kernel
theorem dX0_wrongReadings_29 : decode cX0_wrongReadings 29 = .ok (.iload 4, 2) := by decide +kernel
theorem dX0_wrongReadings_31 : decode cX0_wrongReadings 31 = .ok (.bipush 12, 2) := by decide +kernel
theorem dX0_wrongReadings_33 : decode cX0_wrongReadings 33 = .ok (.if_icmp .ge 22, 3) := by decide +kernel
theorem dX0_wrongReadings_36 : decode cX0_wrongReadings 36 = .ok (.aload_n 0, 1) := by decide +kernel
theorem dX0_wrongReadings_37 : decode cX0_wrongReadings 37 = .ok (.getfield 15, 3) := by decide +kernel
theorem dX0_wrongReadings_40 : decode cX0_wrongReadings 40 = .ok (.iload_n 3, 1) := by decide +kernel
theorem dX0_wrongReadings_41 : decode cX0_wrongReadings 41 = .ok (.iaload, 1) := by decide +kernel
theorem dX0_wrongReadings_42 : decode cX0_wrongReadings 42 = .ok (.aload_n 0, 1) := by decide +kernel
theorem dX0_wrongReadings_43 : decode cX0_wrongReadings 43 = .ok (.getfield 11, 3) := by decide +kernel
theorem dX0_wrongReadings_46 : decode cX0_wrongReadings 46 = .ok (.iload 4, 2) := by decide +kernel
theorem dX0_wrongReadings_48 : decode cX0_wrongReadings 48 = .ok (.iaload, 1) := by decide +kernel
theorem dX0_wrongReadings_49 : decode cX0_wrongReadings 49 = .ok (.if_icmp .eq 6, 3) := by decide +kernel
theorem dX0_wrongReadings_52 : decode cX0_wrongReadings 52 = .ok (.iinc 2 1, 3) := by decide +kernel
theorem dX0_wrongReadings_55 : decode cX0_wrongReadings 55 = .ok (.iinc 3 1, 3) := by decide +kernel
theorem dX0_wrongReadings_58 : decode cX0_wrongReadings 58 = .ok (.goto (-54), 3) := by decide +kernel
theorem dX0_wrongReadings_61 : decode cX0_wrongReadings 61 = .ok (.iload_n 2, 1) := by decide +kernel
theorem dX0_wrongReadings_62 : decode cX0_wrongReadings 62 = .ok (.ireturn, 1) := by decide +kernel
theorem dX0_isSeen_0 : decode cX0_isSeen 0 = .ok (.iload_n 1, 1) := by decide +kernel
theorem dX0_isSeen_1 : decode cX0_isSeen 1 = .ok (.ifCond .lt 33, 3) := by decide +kernel
theorem dX0_isSeen_4 : decode cX0_isSeen 4 = .ok (.iload_n 1, 1) := by decide +kernel
theorem dX0_isSeen_5 : decode cX0_isSeen 5 = .ok (.bipush 12, 2) := by decide +kernel
theorem dX0_isSeen_7 : decode cX0_isSeen 7 = .ok (.if_icmp .ge 27, 3) := by decide +kernel
theorem dX0_isSeen_10 : decode cX0_isSeen 10 = .ok (.iload_n 1, 1) := by decide +kernel
theorem dX0_isSeen_11 : decode cX0_isSeen 11 = .ok (.iload_n 2, 1) := by decide +kernel
theorem dX0_isSeen_12 : decode cX0_isSeen 12 = .ok (.iadd, 1) := by decide +kernel
theorem dX0_isSeen_13 : decode cX0_isSeen 13 = .ok (.aload_n 0, 1) := by decide +kernel
theorem dX0_isSeen_14 : decode cX0_isSeen 14 = .ok (.getfield 18, 3) := by decide +kernel
theorem dX0_isSeen_17 : decode cX0_isSeen 17 = .ok (.if_icmp .ge 17, 3) := by decide +kernel
theorem dX0_isSeen_20 : decode cX0_isSeen 20 = .ok (.aload_n 0, 1) := by decide +kernel
theorem dX0_isSeen_21 : decode cX0_isSeen 21 = .ok (.getfield 15, 3) := by decide +kernel
theorem dX0_isSeen_24 : decode cX0_isSeen 24 = .ok (.iload_n 1, 1) := by decide +kernel
theorem dX0_isSeen_25 : decode cX0_isSeen 25 = .ok (.iaload, 1) := by decide +kernel
theorem dX0_isSeen_26 : decode cX0_isSeen 26 = .ok (.iconst (-1), 1) := by decide +kernel
theorem dX0_isSeen_27 : decode cX0_isSeen 27 = .ok (.if_icmp .eq 7, 3) := by decide +kernel
theorem dX0_isSeen_30 : decode cX0_isSeen 30 = .ok (.iconst 1, 1) := by decide +kernel
theorem dX0_isSeen_31 : decode cX0_isSeen 31 = .ok (.goto 4, 3) := by decide +kernel
theorem dX0_isSeen_34 : decode cX0_isSeen 34 = .ok (.iconst 0, 1) := by decide +kernel
theorem dX0_isSeen_35 : decode cX0_isSeen 35 = .ok (.ireturn, 1) := by decide +kernel
theorem dX1_init_0 : decode cX1_init 0 = .ok (.aload_n 0, 1) := by decide +kernel
theorem dX1_init_1 : decode cX1_init 1 = .ok (.iload_n 1, 1) := by decide +kernel
theorem dX1_init_2 : decode cX1_init 2 = .ok (.iload_n 2, 1) := by decide +kernel
theorem dX1_init_3 : decode cX1_init 3 = .ok (.invokespecial 1, 3) := by decide +kernel
theorem dX1_init_6 : decode cX1_init 6 = .ok (.return_, 1) := by decide +kernel
theorem dX1_kindNumber_0 : decode cX1_kindNumber 0 = .ok (.iconst 3, 1) := by decide +kernel
theorem dX1_kindNumber_1 : decode cX1_kindNumber 1 = .ok (.ireturn, 1) := by decide +kernel
theorem dX1_covers_0 : decode cX1_covers 0 = .ok (.aload_n 0, 1) := by decide +kernel
theorem dX1_covers_1 : decode cX1_covers 1 = .ok (.aload_n 1, 1) := by decide +kernel
theorem dX1_covers_2 : decode cX1_covers 2 = .ok (.invokespecial 7, 3) := by decide +kernel
theorem dX1_covers_5 : decode cX1_covers 5 = .ok (.ifCond .ne 7, 3) := by decide +kernel
theorem dX1_covers_8 : decode cX1_covers 8 = .ok (.iconst 1, 1) := by decide +kernel
theorem dX1_covers_9 : decode cX1_covers 9 = .ok (.goto 4, 3) := by decide +kernel
theorem dX1_covers_12 : decode cX1_covers 12 = .ok (.iconst 0, 1) := by decide +kernel
theorem dX1_covers_13 : decode cX1_covers 13 = .ok (.ireturn, 1) := by decide +kernel
theorem dX2_init_0 : decode cX2_init 0 = .ok (.aload_n 0, 1) := by decide +kernel
theorem dX2_init_1 : decode cX2_init 1 = .ok (.iload_n 1, 1) := by decide +kernel
theorem dX2_init_2 : decode cX2_init 2 = .ok (.iload_n 2, 1) := by decide +kernel
theorem dX2_init_3 : decode cX2_init 3 = .ok (.invokespecial 3, 3) := by decide +kernel
theorem dX2_init_6 : decode cX2_init 6 = .ok (.return_, 1) := by decide +kernel
theorem dX2_kindNumber_0 : decode cX2_kindNumber 0 = .ok (.iconst 1, 1) := by decide +kernel
theorem dX2_kindNumber_1 : decode cX2_kindNumber 1 = .ok (.ireturn, 1) := by decide +kernel
theorem dX2_covers_0 : decode cX2_covers 0 = .ok (.aload_n 0, 1) := by decide +kernel
theorem dX2_covers_1 : decode cX2_covers 1 = .ok (.getfield 9, 3) := by decide +kernel
theorem dX2_covers_4 : decode cX2_covers 4 = .ok (.i2l, 1) := by decide +kernel
theorem dX2_covers_5 : decode cX2_covers 5 = .ok (.aload_n 1, 1) := by decide +kernel
theorem dX2_covers_6 : decode cX2_covers 6 = .ok (.iconst 1, 1) := by decide +kernel
theorem dX2_covers_7 : decode cX2_covers 7 = .ok (.iconst 1, 1) := by decide +kernel
theorem dX2_covers_8 : decode cX2_covers 8 = .ok (.invokevirtual 15, 3) := by decide +kernel
theorem dX2_covers_11 : decode cX2_covers 11 = .ok (.lmul, 1) := by decide +kernel
theorem dX2_covers_12 : decode cX2_covers 12 = .ok (.aload_n 0, 1) := by decide +kernel
theorem dX2_covers_13 : decode cX2_covers 13 = .ok (.getfield 21, 3) := by decide +kernel
theorem dX2_covers_16 : decode cX2_covers 16 = .ok (.i2l, 1) := by decide +kernel
theorem dX2_covers_17 : decode cX2_covers 17 = .ok (.aload_n 1, 1) := by decide +kernel
theorem dX2_covers_18 : decode cX2_covers 18 = .ok (.invokevirtual 24, 3) := by decide +kernel
theorem dX2_covers_21 : decode cX2_covers 21 = .ok (.lmul, 1) := by decide +kernel
theorem dX2_covers_22 : decode cX2_covers 22 = .ok (.lcmp, 1) := by decide +kernel
theorem dX2_covers_23 : decode cX2_covers 23 = .ok (.ifCond .le 7, 3) := by decide +kernel
theorem dX2_covers_26 : decode cX2_covers 26 = .ok (.iconst 1, 1) := by decide +kernel
theorem dX2_covers_27 : decode cX2_covers 27 = .ok (.goto 4, 3) := by decide +kernel
theorem dX2_covers_30 : decode cX2_covers 30 = .ok (.iconst 0, 1) := by decide +kernel
theorem dX2_covers_31 : decode cX2_covers 31 = .ok (.ireturn, 1) := by decide +kernel
theorem dX3_init_0 : decode cX3_init 0 = .ok (.aload_n 0, 1) := by decide +kernel
theorem dX3_init_1 : decode cX3_init 1 = .ok (.invokespecial 3, 3) := by decide +kernel
theorem dX3_init_4 : decode cX3_init 4 = .ok (.aload_n 0, 1) := by decide +kernel
theorem dX3_init_5 : decode cX3_init 5 = .ok (.iconst 4, 1) := by decide +kernel
theorem dX3_init_6 : decode cX3_init 6 = .ok (.newarray .int, 2) := by decide +kernel
theorem dX3_init_8 : decode cX3_init 8 = .ok (.putfield 9, 3) := by decide +kernel
theorem dX3_init_11 : decode cX3_init 11 = .ok (.aload_n 0, 1) := by decide +kernel
theorem dX3_init_12 : decode cX3_init 12 = .ok (.aload_n 1, 1) := by decide +kernel
theorem dX3_init_13 : decode cX3_init 13 = .ok (.putfield 15, 3) := by decide +kernel
theorem dX3_init_16 : decode cX3_init 16 = .ok (.aload_n 0, 1) := by decide +kernel
theorem dX3_init_17 : decode cX3_init 17 = .ok (.aload_n 2, 1) := by decide +kernel
theorem dX3_init_18 : decode cX3_init 18 = .ok (.putfield 19, 3) := by decide +kernel
theorem dX3_init_21 : decode cX3_init 21 = .ok (.return_, 1) := by decide +kernel
theorem dX4_init_0 : decode cX4_init 0 = .ok (.aload_n 0, 1) := by decide +kernel
theorem dX4_init_1 : decode cX4_init 1 = .ok (.invokespecial 3, 3) := by decide +kernel
theorem dX4_init_4 : decode cX4_init 4 = .ok (.aload_n 0, 1) := by decide +kernel
theorem dX4_init_5 : decode cX4_init 5 = .ok (.iload_n 1, 1) := by decide +kernel
theorem dX4_init_6 : decode cX4_init 6 = .ok (.putfield 9, 3) := by decide +kernel
theorem dX4_init_9 : decode cX4_init 9 = .ok (.aload_n 0, 1) := by decide +kernel
theorem dX4_init_10 : decode cX4_init 10 = .ok (.iload_n 2, 1) := by decide +kernel
theorem dX4_init_11 : decode cX4_init 11 = .ok (.putfield 15, 3) := by decide +kernel
theorem dX4_init_14 : decode cX4_init 14 = .ok (.return_, 1) := by decide +kernel
theorem dX4_kindNumber_0 : decode cX4_kindNumber 0 = .ok (.iconst 0, 1) := by decide +kernel
theorem dX4_kindNumber_1 : decode cX4_kindNumber 1 = .ok (.ireturn, 1) := by decide +kernel
theorem dX4_covers_0 : decode cX4_covers 0 = .ok (.aload_n 1, 1) := by decide +kernel
theorem dX4_covers_1 : decode cX4_covers 1 = .ok (.iconst 1, 1) := by decide +kernel
theorem dX4_covers_2 : decode cX4_covers 2 = .ok (.invokevirtual 18, 3) := by decide +kernel
theorem dX4_covers_5 : decode cX4_covers 5 = .ok (.iconst 1, 1) := by decide +kernel
theorem dX4_covers_6 : decode cX4_covers 6 = .ok (.if_icmp .ne 7, 3) := by decide +kernel
theorem dX4_covers_9 : decode cX4_covers 9 = .ok (.iconst 1, 1) := by decide +kernel
theorem dX4_covers_10 : decode cX4_covers 10 = .ok (.goto 4, 3) := by decide +kernel
theorem dX4_covers_13 : decode cX4_covers 13 = .ok (.iconst 0, 1) := by decide +kernel
theorem dX4_covers_14 : decode cX4_covers 14 = .ok (.ireturn, 1) := by decide +kernel
theorem dX4_payment_0 : decode cX4_payment 0 = .ok (.aload_n 0, 1) := by decide +kernel
theorem dX4_payment_1 : decode cX4_payment 1 = .ok (.aload_n 1, 1) := by decide +kernel
theorem dX4_payment_2 : decode cX4_payment 2 = .ok (.invokevirtual 24, 3) := by decide +kernel
theorem dX4_payment_5 : decode cX4_payment 5 = .ok (.ifCond .eq 8, 3) := by decide +kernel
theorem dX4_payment_8 : decode cX4_payment 8 = .ok (.aload_n 0, 1) := by decide +kernel
theorem dX4_payment_9 : decode cX4_payment 9 = .ok (.getfield 9, 3) := by decide +kernel
theorem dX4_payment_12 : decode cX4_payment 12 = .ok (.ireturn, 1) := by decide +kernel
theorem dX4_payment_13 : decode cX4_payment 13 = .ok (.iload_n 2, 1) := by decide +kernel
theorem dX4_payment_14 : decode cX4_payment 14 = .ok (.iconst 1, 1) := by decide +kernel
theorem dX4_payment_15 : decode cX4_payment 15 = .ok (.if_icmp .ne 10, 3) := by decide +kernel
theorem dX4_payment_18 : decode cX4_payment 18 = .ok (.aload_n 0, 1) := by decide +kernel
theorem dX4_payment_19 : decode cX4_payment 19 = .ok (.getfield 15, 3) := by decide +kernel
theorem dX4_payment_22 : decode cX4_payment 22 = .ok (.goto 4, 3) := by decide +kernel
theorem dX4_payment_25 : decode cX4_payment 25 = .ok (.iconst 0, 1) := by decide +kernel
theorem dX4_payment_26 : decode cX4_payment 26 = .ok (.ireturn, 1) := by decide +kernel
theorem dX5_init_0 : decode cX5_init 0 = .ok (.aload_n 0, 1) := by decide +kernel
theorem dX5_init_1 : decode cX5_init 1 = .ok (.iload_n 1, 1) := by decide +kernel
theorem dX5_init_2 : decode cX5_init 2 = .ok (.iload_n 2, 1) := by decide +kernel
theorem dX5_init_3 : decode cX5_init 3 = .ok (.invokespecial 3, 3) := by decide +kernel
theorem dX5_init_6 : decode cX5_init 6 = .ok (.return_, 1) := by decide +kernel
theorem dX5_kindNumber_0 : decode cX5_kindNumber 0 = .ok (.iconst 4, 1) := by decide +kernel
theorem dX5_kindNumber_1 : decode cX5_kindNumber 1 = .ok (.ireturn, 1) := by decide +kernel
theorem dX5_covers_0 : decode cX5_covers 0 = .ok (.aload_n 1, 1) := by decide +kernel
theorem dX5_covers_1 : decode cX5_covers 1 = .ok (.iconst 1, 1) := by decide +kernel
theorem dX5_covers_2 : decode cX5_covers 2 = .ok (.invokevirtual 9, 3) := by decide +kernel
theorem dX5_covers_5 : decode cX5_covers 5 = .ok (.iconst (-1), 1) := by decide +kernel
theorem dX5_covers_6 : decode cX5_covers 6 = .ok (.if_icmp .eq 15, 3) := by decide +kernel
theorem dX5_covers_9 : decode cX5_covers 9 = .ok (.aload_n 0, 1) := by decide +kernel
theorem dX5_covers_10 : decode cX5_covers 10 = .ok (.aload_n 1, 1) := by decide +kernel
theorem dX5_covers_11 : decode cX5_covers 11 = .ok (.invokespecial 15, 3) := by decide +kernel
theorem dX5_covers_14 : decode cX5_covers 14 = .ok (.ifCond .eq 7, 3) := by decide +kernel
theorem dX5_covers_17 : decode cX5_covers 17 = .ok (.iconst 1, 1) := by decide +kernel
theorem dX5_covers_18 : decode cX5_covers 18 = .ok (.goto 4, 3) := by decide +kernel
theorem dX5_covers_21 : decode cX5_covers 21 = .ok (.iconst 0, 1) := by decide +kernel
theorem dX5_covers_22 : decode cX5_covers 22 = .ok (.ireturn, 1) := by decide +kernel
theorem dX6_init_0 : decode cX6_init 0 = .ok (.aload_n 0, 1) := by decide +kernel
theorem dX6_init_1 : decode cX6_init 1 = .ok (.iload_n 1, 1) := by decide +kernel
theorem dX6_init_2 : decode cX6_init 2 = .ok (.iload_n 2, 1) := by decide +kernel
theorem dX6_init_3 : decode cX6_init 3 = .ok (.invokespecial 3, 3) := by decide +kernel
theorem dX6_init_6 : decode cX6_init 6 = .ok (.return_, 1) := by decide +kernel
theorem dX6_kindNumber_0 : decode cX6_kindNumber 0 = .ok (.iconst 2, 1) := by decide +kernel
theorem dX6_kindNumber_1 : decode cX6_kindNumber 1 = .ok (.ireturn, 1) := by decide +kernel
theorem dX6_covers_0 : decode cX6_covers 0 = .ok (.aload_n 1, 1) := by decide +kernel
theorem dX6_covers_1 : decode cX6_covers 1 = .ok (.iconst 1, 1) := by decide +kernel
theorem dX6_covers_2 : decode cX6_covers 2 = .ok (.invokevirtual 9, 3) := by decide +kernel
theorem dX6_covers_5 : decode cX6_covers 5 = .ok (.iconst 1, 1) := by decide +kernel
theorem dX6_covers_6 : decode cX6_covers 6 = .ok (.if_icmp .ne 7, 3) := by decide +kernel
theorem dX6_covers_9 : decode cX6_covers 9 = .ok (.iconst 1, 1) := by decide +kernel
theorem dX6_covers_10 : decode cX6_covers 10 = .ok (.goto 4, 3) := by decide +kernel
theorem dX6_covers_13 : decode cX6_covers 13 = .ok (.iconst 0, 1) := by decide +kernel
theorem dX6_covers_14 : decode cX6_covers 14 = .ok (.ireturn, 1) := by decide +kernel
theorem dX7_init_0 : decode cX7_init 0 = .ok (.aload_n 0, 1) := by decide +kernel
theorem dX7_init_1 : decode cX7_init 1 = .ok (.invokespecial 3, 3) := by decide +kernel
theorem dX7_init_4 : decode cX7_init 4 = .ok (.aload_n 0, 1) := by decide +kernel
theorem dX7_init_5 : decode cX7_init 5 = .ok (.iconst 5, 1) := by decide +kernel
theorem dX7_init_6 : decode cX7_init 6 = .ok (.newarray .int, 2) := by decide +kernel
theorem dX7_init_8 : decode cX7_init 8 = .ok (.putfield 9, 3) := by decide +kernel
theorem dX7_init_11 : decode cX7_init 11 = .ok (.aload_n 0, 1) := by decide +kernel
theorem dX7_init_12 : decode cX7_init 12 = .ok (.bipush 7, 2) := by decide +kernel
theorem dX7_init_14 : decode cX7_init 14 = .ok (.iconst 3, 1) := by decide +kernel
theorem dX7_init_15 : decode cX7_init 15 = .ok (.multianewarray 15 2, 4) := by decide +kernel
theorem dX7_init_19 : decode cX7_init 19 = .ok (.putfield 17, 3) := by decide +kernel
theorem dX7_init_22 : decode cX7_init 22 = .ok (.aload_n 0, 1) := by decide +kernel
theorem dX7_init_23 : decode cX7_init 23 = .ok (.bipush 7, 2) := by decide +kernel
theorem dX7_init_25 : decode cX7_init 25 = .ok (.iconst 3, 1) := by decide +kernel
theorem dX7_init_26 : decode cX7_init 26 = .ok (.multianewarray 15 2, 4) := by decide +kernel
theorem dX7_init_30 : decode cX7_init 30 = .ok (.putfield 20, 3) := by decide +kernel
theorem dX7_init_33 : decode cX7_init 33 = .ok (.aload_n 0, 1) := by decide +kernel
theorem dX7_init_34 : decode cX7_init 34 = .ok (.bipush 7, 2) := by decide +kernel
theorem dX7_init_36 : decode cX7_init 36 = .ok (.iconst 3, 1) := by decide +kernel
theorem dX7_init_37 : decode cX7_init 37 = .ok (.multianewarray 15 2, 4) := by decide +kernel
theorem dX7_init_41 : decode cX7_init 41 = .ok (.putfield 23, 3) := by decide +kernel
theorem dX7_init_44 : decode cX7_init 44 = .ok (.aload_n 0, 1) := by decide +kernel
theorem dX7_init_45 : decode cX7_init 45 = .ok (.bipush 7, 2) := by decide +kernel
theorem dX7_init_47 : decode cX7_init 47 = .ok (.iconst 3, 1) := by decide +kernel
theorem dX7_init_48 : decode cX7_init 48 = .ok (.multianewarray 26 2, 4) := by decide +kernel
theorem dX7_init_52 : decode cX7_init 52 = .ok (.putfield 28, 3) := by decide +kernel
theorem dX7_init_55 : decode cX7_init 55 = .ok (.aload_n 0, 1) := by decide +kernel
theorem dX7_init_56 : decode cX7_init 56 = .ok (.aload_n 1, 1) := by decide +kernel
theorem dX7_init_57 : decode cX7_init 57 = .ok (.putfield 31, 3) := by decide +kernel
theorem dX7_init_60 : decode cX7_init 60 = .ok (.iconst 0, 1) := by decide +kernel
theorem dX7_init_61 : decode cX7_init 61 = .ok (.istore_n 2, 1) := by decide +kernel
theorem dX7_init_62 : decode cX7_init 62 = .ok (.iload_n 2, 1) := by decide +kernel
theorem dX7_init_63 : decode cX7_init 63 = .ok (.iconst 4, 1) := by decide +kernel
theorem dX7_init_64 : decode cX7_init 64 = .ok (.if_icmp .gt 16, 3) := by decide +kernel
theorem dX7_init_67 : decode cX7_init 67 = .ok (.aload_n 0, 1) := by decide +kernel
theorem dX7_init_68 : decode cX7_init 68 = .ok (.getfield 9, 3) := by decide +kernel
theorem dX7_init_71 : decode cX7_init 71 = .ok (.iload_n 2, 1) := by decide +kernel
theorem dX7_init_72 : decode cX7_init 72 = .ok (.iconst (-1), 1) := by decide +kernel
theorem dX7_init_73 : decode cX7_init 73 = .ok (.iastore, 1) := by decide +kernel
theorem dX7_init_74 : decode cX7_init 74 = .ok (.iinc 2 1, 3) := by decide +kernel
theorem dX7_init_77 : decode cX7_init 77 = .ok (.goto (-15), 3) := by decide +kernel
theorem dX7_init_80 : decode cX7_init 80 = .ok (.return_, 1) := by decide +kernel
theorem dX7_startAnew_0 : decode cX7_startAnew 0 = .ok (.aload_n 0, 1) := by decide +kernel
theorem dX7_startAnew_1 : decode cX7_startAnew 1 = .ok (.iconst 0, 1) := by decide +kernel
theorem dX7_startAnew_2 : decode cX7_startAnew 2 = .ok (.putfield 35, 3) := by decide +kernel
theorem dX7_startAnew_5 : decode cX7_startAnew 5 = .ok (.aload_n 0, 1) := by decide +kernel
theorem dX7_startAnew_6 : decode cX7_startAnew 6 = .ok (.iload_n 1, 1) := by decide +kernel
theorem dX7_startAnew_7 : decode cX7_startAnew 7 = .ok (.putfield 39, 3) := by decide +kernel
theorem dX7_startAnew_10 : decode cX7_startAnew 10 = .ok (.iconst 0, 1) := by decide +kernel
theorem dX7_startAnew_11 : decode cX7_startAnew 11 = .ok (.istore_n 2, 1) := by decide +kernel
theorem dX7_startAnew_12 : decode cX7_startAnew 12 = .ok (.iload_n 2, 1) := by decide +kernel
theorem dX7_startAnew_13 : decode cX7_startAnew 13 = .ok (.iconst 4, 1) := by decide +kernel
theorem dX7_startAnew_14 : decode cX7_startAnew 14 = .ok (.if_icmp .gt 16, 3) := by decide +kernel
theorem dX7_startAnew_17 : decode cX7_startAnew 17 = .ok (.aload_n 0, 1) := by decide +kernel
theorem dX7_startAnew_18 : decode cX7_startAnew 18 = .ok (.getfield 9, 3) := by decide +kernel
theorem dX7_startAnew_21 : decode cX7_startAnew 21 = .ok (.iload_n 2, 1) := by decide +kernel
theorem dX7_startAnew_22 : decode cX7_startAnew 22 = .ok (.iconst (-1), 1) := by decide +kernel
theorem dX7_startAnew_23 : decode cX7_startAnew 23 = .ok (.iastore, 1) := by decide +kernel
theorem dX7_startAnew_24 : decode cX7_startAnew 24 = .ok (.iinc 2 1, 3) := by decide +kernel
theorem dX7_startAnew_27 : decode cX7_startAnew 27 = .ok (.goto (-15), 3) := by decide +kernel
theorem dX7_startAnew_30 : decode cX7_startAnew 30 = .ok (.aload_n 0, 1) := by decide +kernel
theorem dX7_startAnew_31 : decode cX7_startAnew 31 = .ok (.invokevirtual 42, 3) := by decide +kernel
theorem dX7_startAnew_34 : decode cX7_startAnew 34 = .ok (.return_, 1) := by decide +kernel
theorem dX7_copyFrom_0 : decode cX7_copyFrom 0 = .ok (.aload_n 0, 1) := by decide +kernel
theorem dX7_copyFrom_1 : decode cX7_copyFrom 1 = .ok (.aload_n 1, 1) := by decide +kernel
theorem dX7_copyFrom_2 : decode cX7_copyFrom 2 = .ok (.getfield 35, 3) := by decide +kernel
theorem dX7_copyFrom_5 : decode cX7_copyFrom 5 = .ok (.putfield 35, 3) := by decide +kernel
theorem dX7_copyFrom_8 : decode cX7_copyFrom 8 = .ok (.aload_n 0, 1) := by decide +kernel
theorem dX7_copyFrom_9 : decode cX7_copyFrom 9 = .ok (.aload_n 1, 1) := by decide +kernel
theorem dX7_copyFrom_10 : decode cX7_copyFrom 10 = .ok (.getfield 39, 3) := by decide +kernel
theorem dX7_copyFrom_13 : decode cX7_copyFrom 13 = .ok (.putfield 39, 3) := by decide +kernel
theorem dX7_copyFrom_16 : decode cX7_copyFrom 16 = .ok (.iconst 0, 1) := by decide +kernel
theorem dX7_copyFrom_17 : decode cX7_copyFrom 17 = .ok (.istore_n 2, 1) := by decide +kernel
theorem dX7_copyFrom_18 : decode cX7_copyFrom 18 = .ok (.iload_n 2, 1) := by decide +kernel
theorem dX7_copyFrom_19 : decode cX7_copyFrom 19 = .ok (.iconst 4, 1) := by decide +kernel
theorem dX7_copyFrom_20 : decode cX7_copyFrom 20 = .ok (.if_icmp .gt 21, 3) := by decide +kernel
theorem dX7_copyFrom_23 : decode cX7_copyFrom 23 = .ok (.aload_n 0, 1) := by decide +kernel
theorem dX7_copyFrom_24 : decode cX7_copyFrom 24 = .ok (.getfield 9, 3) := by decide +kernel
theorem dX7_copyFrom_27 : decode cX7_copyFrom 27 = .ok (.iload_n 2, 1) := by decide +kernel
theorem dX7_copyFrom_28 : decode cX7_copyFrom 28 = .ok (.aload_n 1, 1) := by decide +kernel
theorem dX7_copyFrom_29 : decode cX7_copyFrom 29 = .ok (.getfield 9, 3) := by decide +kernel
theorem dX7_copyFrom_32 : decode cX7_copyFrom 32 = .ok (.iload_n 2, 1) := by decide +kernel
theorem dX7_copyFrom_33 : decode cX7_copyFrom 33 = .ok (.iaload, 1) := by decide +kernel
theorem dX7_copyFrom_34 : decode cX7_copyFrom 34 = .ok (.iastore, 1) := by decide +kernel
theorem dX7_copyFrom_35 : decode cX7_copyFrom 35 = .ok (.iinc 2 1, 3) := by decide +kernel
theorem dX7_copyFrom_38 : decode cX7_copyFrom 38 = .ok (.goto (-20), 3) := by decide +kernel
theorem dX7_copyFrom_41 : decode cX7_copyFrom 41 = .ok (.aload_n 0, 1) := by decide +kernel
theorem dX7_copyFrom_42 : decode cX7_copyFrom 42 = .ok (.invokevirtual 42, 3) := by decide +kernel
theorem dX7_copyFrom_45 : decode cX7_copyFrom 45 = .ok (.return_, 1) := by decide +kernel
theorem dX7_passDay_0 : decode cX7_passDay 0 = .ok (.aload_n 0, 1) := by decide +kernel
theorem dX7_passDay_1 : decode cX7_passDay 1 = .ok (.dup, 1) := by decide +kernel
theorem dX7_passDay_2 : decode cX7_passDay 2 = .ok (.getfield 35, 3) := by decide +kernel
theorem dX7_passDay_5 : decode cX7_passDay 5 = .ok (.iconst 1, 1) := by decide +kernel
theorem dX7_passDay_6 : decode cX7_passDay 6 = .ok (.iadd, 1) := by decide +kernel
theorem dX7_passDay_7 : decode cX7_passDay 7 = .ok (.putfield 35, 3) := by decide +kernel
theorem dX7_passDay_10 : decode cX7_passDay 10 = .ok (.aload_n 0, 1) := by decide +kernel
theorem dX7_passDay_11 : decode cX7_passDay 11 = .ok (.iload_n 1, 1) := by decide +kernel
theorem dX7_passDay_12 : decode cX7_passDay 12 = .ok (.putfield 39, 3) := by decide +kernel
theorem dX7_passDay_15 : decode cX7_passDay 15 = .ok (.iconst 1, 1) := by decide +kernel
theorem dX7_passDay_16 : decode cX7_passDay 16 = .ok (.istore_n 2, 1) := by decide +kernel
theorem dX7_passDay_17 : decode cX7_passDay 17 = .ok (.iload_n 2, 1) := by decide +kernel
theorem dX7_passDay_18 : decode cX7_passDay 18 = .ok (.iconst 4, 1) := by decide +kernel
theorem dX7_passDay_19 : decode cX7_passDay 19 = .ok (.if_icmp .ge 23, 3) := by decide +kernel
theorem dX7_passDay_22 : decode cX7_passDay 22 = .ok (.aload_n 0, 1) := by decide +kernel
theorem dX7_passDay_23 : decode cX7_passDay 23 = .ok (.getfield 9, 3) := by decide +kernel
theorem dX7_passDay_26 : decode cX7_passDay 26 = .ok (.iload_n 2, 1) := by decide +kernel
theorem dX7_passDay_27 : decode cX7_passDay 27 = .ok (.aload_n 0, 1) := by decide +kernel
theorem dX7_passDay_28 : decode cX7_passDay 28 = .ok (.getfield 9, 3) := by decide +kernel
theorem dX7_passDay_31 : decode cX7_passDay 31 = .ok (.iload_n 2, 1) := by decide +kernel
theorem dX7_passDay_32 : decode cX7_passDay 32 = .ok (.iconst 1, 1) := by decide +kernel
theorem dX7_passDay_33 : decode cX7_passDay 33 = .ok (.iadd, 1) := by decide +kernel
theorem dX7_passDay_34 : decode cX7_passDay 34 = .ok (.iaload, 1) := by decide +kernel
theorem dX7_passDay_35 : decode cX7_passDay 35 = .ok (.iastore, 1) := by decide +kernel
theorem dX7_passDay_36 : decode cX7_passDay 36 = .ok (.iinc 2 1, 3) := by decide +kernel
theorem dX7_passDay_39 : decode cX7_passDay 39 = .ok (.goto (-22), 3) := by decide +kernel
theorem dX7_passDay_42 : decode cX7_passDay 42 = .ok (.aload_n 0, 1) := by decide +kernel
theorem dX7_passDay_43 : decode cX7_passDay 43 = .ok (.getfield 9, 3) := by decide +kernel
theorem dX7_passDay_46 : decode cX7_passDay 46 = .ok (.iconst 4, 1) := by decide +kernel
theorem dX7_passDay_47 : decode cX7_passDay 47 = .ok (.iconst (-1), 1) := by decide +kernel
theorem dX7_passDay_48 : decode cX7_passDay 48 = .ok (.iastore, 1) := by decide +kernel
theorem dX7_passDay_49 : decode cX7_passDay 49 = .ok (.aload_n 0, 1) := by decide +kernel
theorem dX7_passDay_50 : decode cX7_passDay 50 = .ok (.invokevirtual 42, 3) := by decide +kernel
theorem dX7_passDay_53 : decode cX7_passDay 53 = .ok (.return_, 1) := by decide +kernel
theorem dX7_tell_0 : decode cX7_tell 0 = .ok (.aload_n 0, 1) := by decide +kernel
theorem dX7_tell_1 : decode cX7_tell 1 = .ok (.getfield 31, 3) := by decide +kernel
theorem dX7_tell_4 : decode cX7_tell 4 = .ok (.getfield 45, 3) := by decide +kernel
theorem dX7_tell_7 : decode cX7_tell 7 = .ok (.istore_n 2, 1) := by decide +kernel
theorem dX7_tell_8 : decode cX7_tell 8 = .ok (.iload_n 2, 1) := by decide +kernel
theorem dX7_tell_9 : decode cX7_tell 9 = .ok (.iconst 1, 1) := by decide +kernel
theorem dX7_tell_10 : decode cX7_tell 10 = .ok (.if_icmp .lt 8, 3) := by decide +kernel
theorem dX7_tell_13 : decode cX7_tell 13 = .ok (.iload_n 2, 1) := by decide +kernel
theorem dX7_tell_14 : decode cX7_tell 14 = .ok (.iconst 4, 1) := by decide +kernel
theorem dX7_tell_15 : decode cX7_tell 15 = .ok (.if_icmp .le 5, 3) := by decide +kernel
theorem dX7_tell_18 : decode cX7_tell 18 = .ok (.iconst 0, 1) := by decide +kernel
theorem dX7_tell_19 : decode cX7_tell 19 = .ok (.ireturn, 1) := by decide +kernel
theorem dX7_tell_20 : decode cX7_tell 20 = .ok (.aload_n 0, 1) := by decide +kernel
theorem dX7_tell_21 : decode cX7_tell 21 = .ok (.getfield 9, 3) := by decide +kernel
theorem dX7_tell_24 : decode cX7_tell 24 = .ok (.iload_n 2, 1) := by decide +kernel
theorem dX7_tell_25 : decode cX7_tell 25 = .ok (.iaload, 1) := by decide +kernel
theorem dX7_tell_26 : decode cX7_tell 26 = .ok (.istore_n 3, 1) := by decide +kernel
theorem dX7_tell_27 : decode cX7_tell 27 = .ok (.aload_n 0, 1) := by decide +kernel
theorem dX7_tell_28 : decode cX7_tell 28 = .ok (.getfield 9, 3) := by decide +kernel
theorem dX7_tell_31 : decode cX7_tell 31 = .ok (.iload_n 2, 1) := by decide +kernel
theorem dX7_tell_32 : decode cX7_tell 32 = .ok (.iload_n 1, 1) := by decide +kernel
theorem dX7_tell_33 : decode cX7_tell 33 = .ok (.iastore, 1) := by decide +kernel
theorem dX7_tell_34 : decode cX7_tell 34 = .ok (.aload_n 0, 1) := by decide +kernel
theorem dX7_tell_35 : decode cX7_tell 35 = .ok (.invokevirtual 42, 3) := by decide +kernel
theorem dX7_tell_38 : decode cX7_tell 38 = .ok (.aload_n 0, 1) := by decide +kernel
theorem dX7_tell_39 : decode cX7_tell 39 = .ok (.invokevirtual 50, 3) := by decide +kernel
theorem dX7_tell_42 : decode cX7_tell 42 = .ok (.lconst 0, 1) := by decide +kernel
theorem dX7_tell_43 : decode cX7_tell 43 = .ok (.lcmp, 1) := by decide +kernel
theorem dX7_tell_44 : decode cX7_tell 44 = .ok (.ifCond .le 5, 3) := by decide +kernel
theorem dX7_tell_47 : decode cX7_tell 47 = .ok (.iconst 1, 1) := by decide +kernel
theorem dX7_tell_48 : decode cX7_tell 48 = .ok (.ireturn, 1) := by decide +kernel
theorem dX7_tell_49 : decode cX7_tell 49 = .ok (.aload_n 0, 1) := by decide +kernel
theorem dX7_tell_50 : decode cX7_tell 50 = .ok (.getfield 9, 3) := by decide +kernel
theorem dX7_tell_53 : decode cX7_tell 53 = .ok (.iload_n 2, 1) := by decide +kernel
theorem dX7_tell_54 : decode cX7_tell 54 = .ok (.iload_n 3, 1) := by decide +kernel
theorem dX7_tell_55 : decode cX7_tell 55 = .ok (.iastore, 1) := by decide +kernel
theorem dX7_tell_56 : decode cX7_tell 56 = .ok (.aload_n 0, 1) := by decide +kernel
theorem dX7_tell_57 : decode cX7_tell 57 = .ok (.invokevirtual 42, 3) := by decide +kernel
theorem dX7_tell_60 : decode cX7_tell 60 = .ok (.iconst 0, 1) := by decide +kernel
theorem dX7_tell_61 : decode cX7_tell 61 = .ok (.ireturn, 1) := by decide +kernel
theorem dX7_readingOf_0 : decode cX7_readingOf 0 = .ok (.iload_n 1, 1) := by decide +kernel
theorem dX7_readingOf_1 : decode cX7_readingOf 1 = .ok (.iconst 1, 1) := by decide +kernel
theorem dX7_readingOf_2 : decode cX7_readingOf 2 = .ok (.if_icmp .lt 17, 3) := by decide +kernel
theorem dX7_readingOf_5 : decode cX7_readingOf 5 = .ok (.iload_n 1, 1) := by decide +kernel
theorem dX7_readingOf_6 : decode cX7_readingOf 6 = .ok (.iconst 4, 1) := by decide +kernel
theorem dX7_readingOf_7 : decode cX7_readingOf 7 = .ok (.if_icmp .gt 12, 3) := by decide +kernel
theorem dX7_readingOf_10 : decode cX7_readingOf 10 = .ok (.aload_n 0, 1) := by decide +kernel
theorem dX7_readingOf_11 : decode cX7_readingOf 11 = .ok (.getfield 9, 3) := by decide +kernel
theorem dX7_readingOf_14 : decode cX7_readingOf 14 = .ok (.iload_n 1, 1) := by decide +kernel
theorem dX7_readingOf_15 : decode cX7_readingOf 15 = .ok (.iaload, 1) := by decide +kernel
theorem dX7_readingOf_16 : decode cX7_readingOf 16 = .ok (.goto 4, 3) := by decide +kernel
theorem dX7_readingOf_19 : decode cX7_readingOf 19 = .ok (.iconst (-1), 1) := by decide +kernel
theorem dX7_readingOf_20 : decode cX7_readingOf 20 = .ok (.ireturn, 1) := by decide +kernel
theorem dX7_readingsTold_0 : decode cX7_readingsTold 0 = .ok (.iconst 0, 1) := by decide +kernel
theorem dX7_readingsTold_1 : decode cX7_readingsTold 1 = .ok (.istore_n 1, 1) := by decide +kernel
theorem dX7_readingsTold_2 : decode cX7_readingsTold 2 = .ok (.iconst 1, 1) := by decide +kernel
theorem dX7_readingsTold_3 : decode cX7_readingsTold 3 = .ok (.istore_n 2, 1) := by decide +kernel
theorem dX7_readingsTold_4 : decode cX7_readingsTold 4 = .ok (.iload_n 2, 1) := by decide +kernel
theorem dX7_readingsTold_5 : decode cX7_readingsTold 5 = .ok (.iconst 4, 1) := by decide +kernel
theorem dX7_readingsTold_6 : decode cX7_readingsTold 6 = .ok (.if_icmp .gt 27, 3) := by decide +kernel
theorem dX7_readingsTold_9 : decode cX7_readingsTold 9 = .ok (.iload_n 1, 1) := by decide +kernel
theorem dX7_readingsTold_10 : decode cX7_readingsTold 10 = .ok (.aload_n 0, 1) := by decide +kernel
theorem dX7_readingsTold_11 : decode cX7_readingsTold 11 = .ok (.getfield 9, 3) := by decide +kernel
theorem dX7_readingsTold_14 : decode cX7_readingsTold 14 = .ok (.iload_n 2, 1) := by decide +kernel
theorem dX7_readingsTold_15 : decode cX7_readingsTold 15 = .ok (.iaload, 1) := by decide +kernel
theorem dX7_readingsTold_16 : decode cX7_readingsTold 16 = .ok (.iconst (-1), 1) := by decide +kernel
theorem dX7_readingsTold_17 : decode cX7_readingsTold 17 = .ok (.if_icmp .ne 7, 3) := by decide +kernel
theorem dX7_readingsTold_20 : decode cX7_readingsTold 20 = .ok (.iconst 0, 1) := by decide +kernel
theorem dX7_readingsTold_21 : decode cX7_readingsTold 21 = .ok (.goto 4, 3) := by decide +kernel
theorem dX7_readingsTold_24 : decode cX7_readingsTold 24 = .ok (.iconst 1, 1) := by decide +kernel
theorem dX7_readingsTold_25 : decode cX7_readingsTold 25 = .ok (.iadd, 1) := by decide +kernel
theorem dX7_readingsTold_26 : decode cX7_readingsTold 26 = .ok (.istore_n 1, 1) := by decide +kernel
theorem dX7_readingsTold_27 : decode cX7_readingsTold 27 = .ok (.iinc 2 1, 3) := by decide +kernel
theorem dX7_readingsTold_30 : decode cX7_readingsTold 30 = .ok (.goto (-26), 3) := by decide +kernel
theorem dX7_readingsTold_33 : decode cX7_readingsTold 33 = .ok (.iload_n 1, 1) := by decide +kernel
theorem dX7_readingsTold_34 : decode cX7_readingsTold 34 = .ok (.ireturn, 1) := by decide +kernel
theorem dX7_oddsOf_0 : decode cX7_oddsOf 0 = .ok (.iload_n 1, 1) := by decide +kernel
theorem dX7_oddsOf_1 : decode cX7_oddsOf 1 = .ok (.invokestatic 54, 3) := by decide +kernel
theorem dX7_oddsOf_4 : decode cX7_oddsOf 4 = .ok (.ifCond .eq 10, 3) := by decide +kernel
theorem dX7_oddsOf_7 : decode cX7_oddsOf 7 = .ok (.iload_n 2, 1) := by decide +kernel
theorem dX7_oddsOf_8 : decode cX7_oddsOf 8 = .ok (.invokestatic 58, 3) := by decide +kernel
theorem dX7_oddsOf_11 : decode cX7_oddsOf 11 = .ok (.ifCond .ne 5, 3) := by decide +kernel
theorem dX7_oddsOf_14 : decode cX7_oddsOf 14 = .ok (.lconst 0, 1) := by decide +kernel
theorem dX7_oddsOf_15 : decode cX7_oddsOf 15 = .ok (.lreturn, 1) := by decide +kernel
theorem dX7_oddsOf_16 : decode cX7_oddsOf 16 = .ok (.aload_n 0, 1) := by decide +kernel
theorem dX7_oddsOf_17 : decode cX7_oddsOf 17 = .ok (.getfield 17, 3) := by decide +kernel
theorem dX7_oddsOf_20 : decode cX7_oddsOf 20 = .ok (.iload_n 1, 1) := by decide +kernel
theorem dX7_oddsOf_21 : decode cX7_oddsOf 21 = .ok (.aaload, 1) := by decide +kernel
theorem dX7_oddsOf_22 : decode cX7_oddsOf 22 = .ok (.iload_n 2, 1) := by decide +kernel
theorem dX7_oddsOf_23 : decode cX7_oddsOf 23 = .ok (.laload, 1) := by decide +kernel
theorem dX7_oddsOf_24 : decode cX7_oddsOf 24 = .ok (.aload_n 0, 1) := by decide +kernel
theorem dX7_oddsOf_25 : decode cX7_oddsOf 25 = .ok (.getfield 20, 3) := by decide +kernel
theorem dX7_oddsOf_28 : decode cX7_oddsOf 28 = .ok (.iload_n 1, 1) := by decide +kernel
theorem dX7_oddsOf_29 : decode cX7_oddsOf 29 = .ok (.aaload, 1) := by decide +kernel
theorem dX7_oddsOf_30 : decode cX7_oddsOf 30 = .ok (.iload_n 2, 1) := by decide +kernel
theorem dX7_oddsOf_31 : decode cX7_oddsOf 31 = .ok (.laload, 1) := by decide +kernel
theorem dX7_oddsOf_32 : decode cX7_oddsOf 32 = .ok (.lmul, 1) := by decide +kernel
theorem dX7_oddsOf_33 : decode cX7_oddsOf 33 = .ok (.lreturn, 1) := by decide +kernel
theorem dX7_allOdds_0 : decode cX7_allOdds 0 = .ok (.lconst 0, 1) := by decide +kernel
theorem dX7_allOdds_1 : decode cX7_allOdds 1 = .ok (.lstore_n 1, 1) := by decide +kernel
theorem dX7_allOdds_2 : decode cX7_allOdds 2 = .ok (.iconst 0, 1) := by decide +kernel
theorem dX7_allOdds_3 : decode cX7_allOdds 3 = .ok (.istore_n 3, 1) := by decide +kernel
theorem dX7_allOdds_4 : decode cX7_allOdds 4 = .ok (.iload_n 3, 1) := by decide +kernel
theorem dX7_allOdds_5 : decode cX7_allOdds 5 = .ok (.iconst 3, 1) := by decide +kernel
theorem dX7_allOdds_6 : decode cX7_allOdds 6 = .ok (.if_icmp .ge 21, 3) := by decide +kernel
theorem dX7_allOdds_9 : decode cX7_allOdds 9 = .ok (.lload_n 1, 1) := by decide +kernel
theorem dX7_allOdds_10 : decode cX7_allOdds 10 = .ok (.aload_n 0, 1) := by decide +kernel
theorem dX7_allOdds_11 : decode cX7_allOdds 11 = .ok (.getfield 17, 3) := by decide +kernel
theorem dX7_allOdds_14 : decode cX7_allOdds 14 = .ok (.bipush 6, 2) := by decide +kernel
theorem dX7_allOdds_16 : decode cX7_allOdds 16 = .ok (.aaload, 1) := by decide +kernel
theorem dX7_allOdds_17 : decode cX7_allOdds 17 = .ok (.iload_n 3, 1) := by decide +kernel
theorem dX7_allOdds_18 : decode cX7_allOdds 18 = .ok (.laload, 1) := by decide +kernel
theorem dX7_allOdds_19 : decode cX7_allOdds 19 = .ok (.ladd, 1) := by decide +kernel
theorem dX7_allOdds_20 : decode cX7_allOdds 20 = .ok (.lstore_n 1, 1) := by decide +kernel
theorem dX7_allOdds_21 : decode cX7_allOdds 21 = .ok (.iinc 3 1, 3) := by decide +kernel
theorem dX7_allOdds_24 : decode cX7_allOdds 24 = .ok (.goto (-20), 3) := by decide +kernel
theorem dX7_allOdds_27 : decode cX7_allOdds 27 = .ok (.lload_n 1, 1) := by decide +kernel
theorem dX7_allOdds_28 : decode cX7_allOdds 28 = .ok (.lreturn, 1) := by decide +kernel
theorem dX7_possibleDays_0 : decode cX7_possibleDays 0 = .ok (.aload_n 0, 1) := by decide +kernel
theorem dX7_possibleDays_1 : decode cX7_possibleDays 1 = .ok (.getfield 39, 3) := by decide +kernel
theorem dX7_possibleDays_4 : decode cX7_possibleDays 4 = .ok (.invokestatic 58, 3) := by decide +kernel
theorem dX7_possibleDays_7 : decode cX7_possibleDays 7 = .ok (.ifCond .eq 17, 3) := by decide +kernel
theorem dX7_possibleDays_10 : decode cX7_possibleDays 10 = .ok (.aload_n 0, 1) := by decide +kernel
theorem dX7_possibleDays_11 : decode cX7_possibleDays 11 = .ok (.getfield 28, 3) := by decide +kernel
theorem dX7_possibleDays_14 : decode cX7_possibleDays 14 = .ok (.iconst 0, 1) := by decide +kernel
theorem dX7_possibleDays_15 : decode cX7_possibleDays 15 = .ok (.aaload, 1) := by decide +kernel
theorem dX7_possibleDays_16 : decode cX7_possibleDays 16 = .ok (.aload_n 0, 1) := by decide +kernel
theorem dX7_possibleDays_17 : decode cX7_possibleDays 17 = .ok (.getfield 39, 3) := by decide +kernel
theorem dX7_possibleDays_20 : decode cX7_possibleDays 20 = .ok (.iaload, 1) := by decide +kernel
theorem dX7_possibleDays_21 : decode cX7_possibleDays 21 = .ok (.goto 4, 3) := by decide +kernel
theorem dX7_possibleDays_24 : decode cX7_possibleDays 24 = .ok (.iconst 0, 1) := by decide +kernel
theorem dX7_possibleDays_25 : decode cX7_possibleDays 25 = .ok (.ireturn, 1) := by decide +kernel
theorem dX7_sureWeather_0 : decode cX7_sureWeather 0 = .ok (.iconst (-1), 1) := by decide +kernel
theorem dX7_sureWeather_1 : decode cX7_sureWeather 1 = .ok (.istore_n 2, 1) := by decide +kernel
theorem dX7_sureWeather_2 : decode cX7_sureWeather 2 = .ok (.iconst 0, 1) := by decide +kernel
theorem dX7_sureWeather_3 : decode cX7_sureWeather 3 = .ok (.istore_n 3, 1) := by decide +kernel
theorem dX7_sureWeather_4 : decode cX7_sureWeather 4 = .ok (.iload_n 3, 1) := by decide +kernel
theorem dX7_sureWeather_5 : decode cX7_sureWeather 5 = .ok (.iconst 3, 1) := by decide +kernel
theorem dX7_sureWeather_6 : decode cX7_sureWeather 6 = .ok (.if_icmp .ge 29, 3) := by decide +kernel
theorem dX7_sureWeather_9 : decode cX7_sureWeather 9 = .ok (.aload_n 0, 1) := by decide +kernel
theorem dX7_sureWeather_10 : decode cX7_sureWeather 10 = .ok (.iload_n 1, 1) := by decide +kernel
theorem dX7_sureWeather_11 : decode cX7_sureWeather 11 = .ok (.iload_n 3, 1) := by decide +kernel
theorem dX7_sureWeather_12 : decode cX7_sureWeather 12 = .ok (.invokevirtual 61, 3) := by decide +kernel
theorem dX7_sureWeather_15 : decode cX7_sureWeather 15 = .ok (.lconst 0, 1) := by decide +kernel
theorem dX7_sureWeather_16 : decode cX7_sureWeather 16 = .ok (.lcmp, 1) := by decide +kernel
theorem dX7_sureWeather_17 : decode cX7_sureWeather 17 = .ok (.ifCond .le 12, 3) := by decide +kernel
theorem dX7_sureWeather_20 : decode cX7_sureWeather 20 = .ok (.iload_n 2, 1) := by decide +kernel
theorem dX7_sureWeather_21 : decode cX7_sureWeather 21 = .ok (.iconst (-1), 1) := by decide +kernel
theorem dX7_sureWeather_22 : decode cX7_sureWeather 22 = .ok (.if_icmp .eq 5, 3) := by decide +kernel
theorem dX7_sureWeather_25 : decode cX7_sureWeather 25 = .ok (.iconst (-1), 1) := by decide +kernel
theorem dX7_sureWeather_26 : decode cX7_sureWeather 26 = .ok (.ireturn, 1) := by decide +kernel
theorem dX7_sureWeather_27 : decode cX7_sureWeather 27 = .ok (.iload_n 3, 1) := by decide +kernel
theorem dX7_sureWeather_28 : decode cX7_sureWeather 28 = .ok (.istore_n 2, 1) := by decide +kernel
theorem dX7_sureWeather_29 : decode cX7_sureWeather 29 = .ok (.iinc 3 1, 3) := by decide +kernel
theorem dX7_sureWeather_32 : decode cX7_sureWeather 32 = .ok (.goto (-28), 3) := by decide +kernel
theorem dX7_sureWeather_35 : decode cX7_sureWeather 35 = .ok (.iload_n 2, 1) := by decide +kernel
theorem dX7_sureWeather_36 : decode cX7_sureWeather 36 = .ok (.ireturn, 1) := by decide +kernel
theorem dX7_numberOfMostOdds_0 : decode cX7_numberOfMostOdds 0 = .ok (.iconst 0, 1) := by decide +kernel
theorem dX7_numberOfMostOdds_1 : decode cX7_numberOfMostOdds 1 = .ok (.istore_n 1, 1) := by decide +kernel
theorem dX7_numberOfMostOdds_2 : decode cX7_numberOfMostOdds 2 = .ok (.aload_n 0, 1) := by decide +kernel
theorem dX7_numberOfMostOdds_3 : decode cX7_numberOfMostOdds 3 = .ok (.getfield 39, 3) := by decide +kernel
theorem dX7_numberOfMostOdds_6 : decode cX7_numberOfMostOdds 6 = .ok (.istore_n 2, 1) := by decide +kernel
theorem dX7_numberOfMostOdds_7 : decode cX7_numberOfMostOdds 7 = .ok (.iconst 1, 1) := by decide +kernel
theorem dX7_numberOfMostOdds_8 : decode cX7_numberOfMostOdds 8 = .ok (.istore_n 3, 1) := by decide +kernel
theorem dX7_numberOfMostOdds_9 : decode cX7_numberOfMostOdds 9 = .ok (.iload_n 3, 1) := by decide +kernel
theorem dX7_numberOfMostOdds_10 : decode cX7_numberOfMostOdds 10 = .ok (.bipush 6, 2) := by decide +kernel
theorem dX7_numberOfMostOdds_12 : decode cX7_numberOfMostOdds 12 = .ok (.if_icmp .gt 76, 3) := by decide +kernel
theorem dX7_numberOfMostOdds_15 : decode cX7_numberOfMostOdds 15 = .ok (.iconst 0, 1) := by decide +kernel
theorem dX7_numberOfMostOdds_16 : decode cX7_numberOfMostOdds 16 = .ok (.istore 4, 2) := by decide +kernel
theorem dX7_numberOfMostOdds_18 : decode cX7_numberOfMostOdds 18 = .ok (.lconst 0, 1) := by decide +kernel
theorem dX7_numberOfMostOdds_19 : decode cX7_numberOfMostOdds 19 = .ok (.lstore 5, 2) := by decide +kernel
theorem dX7_numberOfMostOdds_21 : decode cX7_numberOfMostOdds 21 = .ok (.iconst 0, 1) := by decide +kernel
theorem dX7_numberOfMostOdds_22 : decode cX7_numberOfMostOdds 22 = .ok (.istore 7, 2) := by decide +kernel
theorem dX7_numberOfMostOdds_24 : decode cX7_numberOfMostOdds 24 = .ok (.iload 7, 2) := by decide +kernel
theorem dX7_numberOfMostOdds_26 : decode cX7_numberOfMostOdds 26 = .ok (.iconst 3, 1) := by decide +kernel
theorem dX7_numberOfMostOdds_27 : decode cX7_numberOfMostOdds 27 = .ok (.if_icmp .ge 45, 3) := by decide +kernel
theorem dX7_numberOfMostOdds_30 : decode cX7_numberOfMostOdds 30 = .ok (.aload_n 0, 1) := by decide +kernel
theorem dX7_numberOfMostOdds_31 : decode cX7_numberOfMostOdds 31 = .ok (.iload_n 3, 1) := by decide +kernel
theorem dX7_numberOfMostOdds_32 : decode cX7_numberOfMostOdds 32 = .ok (.iload_n 2, 1) := by decide +kernel
theorem dX7_numberOfMostOdds_33 : decode cX7_numberOfMostOdds 33 = .ok (.iload 7, 2) := by decide +kernel
theorem dX7_numberOfMostOdds_35 : decode cX7_numberOfMostOdds 35 = .ok (.invokevirtual 65, 3) := by decide +kernel
theorem dX7_numberOfMostOdds_38 : decode cX7_numberOfMostOdds 38 = .ok (.aload_n 0, 1) := by decide +kernel
theorem dX7_numberOfMostOdds_39 : decode cX7_numberOfMostOdds 39 = .ok (.getfield 23, 3) := by decide +kernel
theorem dX7_numberOfMostOdds_42 : decode cX7_numberOfMostOdds 42 = .ok (.iload_n 3, 1) := by decide +kernel
theorem dX7_numberOfMostOdds_43 : decode cX7_numberOfMostOdds 43 = .ok (.aaload, 1) := by decide +kernel
theorem dX7_numberOfMostOdds_44 : decode cX7_numberOfMostOdds 44 = .ok (.iload 7, 2) := by decide +kernel
theorem dX7_numberOfMostOdds_46 : decode cX7_numberOfMostOdds 46 = .ok (.laload, 1) := by decide +kernel
theorem dX7_numberOfMostOdds_47 : decode cX7_numberOfMostOdds 47 = .ok (.lmul, 1) := by decide +kernel
theorem dX7_numberOfMostOdds_48 : decode cX7_numberOfMostOdds 48 = .ok (.lstore 8, 2) := by decide +kernel
theorem dX7_numberOfMostOdds_50 : decode cX7_numberOfMostOdds 50 = .ok (.lload 8, 2) := by decide +kernel
theorem dX7_numberOfMostOdds_52 : decode cX7_numberOfMostOdds 52 = .ok (.lload 5, 2) := by decide +kernel
theorem dX7_numberOfMostOdds_54 : decode cX7_numberOfMostOdds 54 = .ok (.lcmp, 1) := by decide +kernel
theorem dX7_numberOfMostOdds_55 : decode cX7_numberOfMostOdds 55 = .ok (.ifCond .le 11, 3) := by decide +kernel
theorem dX7_numberOfMostOdds_58 : decode cX7_numberOfMostOdds 58 = .ok (.lload 8, 2) := by decide +kernel
theorem dX7_numberOfMostOdds_60 : decode cX7_numberOfMostOdds 60 = .ok (.lstore 5, 2) := by decide +kernel
theorem dX7_numberOfMostOdds_62 : decode cX7_numberOfMostOdds 62 = .ok (.iload 7, 2) := by decide +kernel
theorem dX7_numberOfMostOdds_64 : decode cX7_numberOfMostOdds 64 = .ok (.istore 4, 2) := by decide +kernel
theorem dX7_numberOfMostOdds_66 : decode cX7_numberOfMostOdds 66 = .ok (.iinc 7 1, 3) := by decide +kernel
theorem dX7_numberOfMostOdds_69 : decode cX7_numberOfMostOdds 69 = .ok (.goto (-45), 3) := by decide +kernel
theorem dX7_numberOfMostOdds_72 : decode cX7_numberOfMostOdds 72 = .ok (.iload_n 1, 1) := by decide +kernel
theorem dX7_numberOfMostOdds_73 : decode cX7_numberOfMostOdds 73 = .ok (.iconst 3, 1) := by decide +kernel
theorem dX7_numberOfMostOdds_74 : decode cX7_numberOfMostOdds 74 = .ok (.imul, 1) := by decide +kernel
theorem dX7_numberOfMostOdds_75 : decode cX7_numberOfMostOdds 75 = .ok (.iload 4, 2) := by decide +kernel
theorem dX7_numberOfMostOdds_77 : decode cX7_numberOfMostOdds 77 = .ok (.iadd, 1) := by decide +kernel
theorem dX7_numberOfMostOdds_78 : decode cX7_numberOfMostOdds 78 = .ok (.istore_n 1, 1) := by decide +kernel
theorem dX7_numberOfMostOdds_79 : decode cX7_numberOfMostOdds 79 = .ok (.iload 4, 2) := by decide +kernel
theorem dX7_numberOfMostOdds_81 : decode cX7_numberOfMostOdds 81 = .ok (.istore_n 2, 1) := by decide +kernel
theorem dX7_numberOfMostOdds_82 : decode cX7_numberOfMostOdds 82 = .ok (.iinc 3 1, 3) := by decide +kernel
theorem dX7_numberOfMostOdds_85 : decode cX7_numberOfMostOdds 85 = .ok (.goto (-76), 3) := by decide +kernel
theorem dX7_numberOfMostOdds_88 : decode cX7_numberOfMostOdds 88 = .ok (.iload_n 1, 1) := by decide +kernel
theorem dX7_numberOfMostOdds_89 : decode cX7_numberOfMostOdds 89 = .ok (.ireturn, 1) := by decide +kernel
theorem dX7_meanByKnowing_0 : decode cX7_meanByKnowing 0 = .ok (.lconst 0, 1) := by decide +kernel
theorem dX7_meanByKnowing_1 : decode cX7_meanByKnowing 1 = .ok (.lstore 4, 2) := by decide +kernel
theorem dX7_meanByKnowing_3 : decode cX7_meanByKnowing 3 = .ok (.iconst 0, 1) := by decide +kernel
theorem dX7_meanByKnowing_4 : decode cX7_meanByKnowing 4 = .ok (.istore 6, 2) := by decide +kernel
theorem dX7_meanByKnowing_6 : decode cX7_meanByKnowing 6 = .ok (.iload 6, 2) := by decide +kernel
theorem dX7_meanByKnowing_8 : decode cX7_meanByKnowing 8 = .ok (.iconst 3, 1) := by decide +kernel
theorem dX7_meanByKnowing_9 : decode cX7_meanByKnowing 9 = .ok (.if_icmp .ge 33, 3) := by decide +kernel
theorem dX7_meanByKnowing_12 : decode cX7_meanByKnowing 12 = .ok (.lload 4, 2) := by decide +kernel
theorem dX7_meanByKnowing_14 : decode cX7_meanByKnowing 14 = .ok (.aload_n 0, 1) := by decide +kernel
theorem dX7_meanByKnowing_15 : decode cX7_meanByKnowing 15 = .ok (.iconst 1, 1) := by decide +kernel
theorem dX7_meanByKnowing_16 : decode cX7_meanByKnowing 16 = .ok (.iload 6, 2) := by decide +kernel
theorem dX7_meanByKnowing_18 : decode cX7_meanByKnowing 18 = .ok (.invokevirtual 61, 3) := by decide +kernel
theorem dX7_meanByKnowing_21 : decode cX7_meanByKnowing 21 = .ok (.aload_n 0, 1) := by decide +kernel
theorem dX7_meanByKnowing_22 : decode cX7_meanByKnowing 22 = .ok (.getfield 31, 3) := by decide +kernel
theorem dX7_meanByKnowing_25 : decode cX7_meanByKnowing 25 = .ok (.iload_n 1, 1) := by decide +kernel
theorem dX7_meanByKnowing_26 : decode cX7_meanByKnowing 26 = .ok (.iload 6, 2) := by decide +kernel
theorem dX7_meanByKnowing_28 : decode cX7_meanByKnowing 28 = .ok (.invokevirtual 69, 3) := by decide +kernel
theorem dX7_meanByKnowing_31 : decode cX7_meanByKnowing 31 = .ok (.i2l, 1) := by decide +kernel
theorem dX7_meanByKnowing_32 : decode cX7_meanByKnowing 32 = .ok (.lmul, 1) := by decide +kernel
theorem dX7_meanByKnowing_33 : decode cX7_meanByKnowing 33 = .ok (.ladd, 1) := by decide +kernel
theorem dX7_meanByKnowing_34 : decode cX7_meanByKnowing 34 = .ok (.lstore 4, 2) := by decide +kernel
theorem dX7_meanByKnowing_36 : decode cX7_meanByKnowing 36 = .ok (.iinc 6 1, 3) := by decide +kernel
theorem dX7_meanByKnowing_39 : decode cX7_meanByKnowing 39 = .ok (.goto (-33), 3) := by decide +kernel
theorem dX7_meanByKnowing_42 : decode cX7_meanByKnowing 42 = .ok (.aload_n 0, 1) := by decide +kernel
theorem dX7_meanByKnowing_43 : decode cX7_meanByKnowing 43 = .ok (.iconst 1, 1) := by decide +kernel
theorem dX7_meanByKnowing_44 : decode cX7_meanByKnowing 44 = .ok (.iconst 1, 1) := by decide +kernel
theorem dX7_meanByKnowing_45 : decode cX7_meanByKnowing 45 = .ok (.invokevirtual 61, 3) := by decide +kernel
theorem dX7_meanByKnowing_48 : decode cX7_meanByKnowing 48 = .ok (.aload_n 0, 1) := by decide +kernel
theorem dX7_meanByKnowing_49 : decode cX7_meanByKnowing 49 = .ok (.getfield 31, 3) := by decide +kernel
theorem dX7_meanByKnowing_52 : decode cX7_meanByKnowing 52 = .ok (.iload_n 1, 1) := by decide +kernel
theorem dX7_meanByKnowing_53 : decode cX7_meanByKnowing 53 = .ok (.iconst 1, 1) := by decide +kernel
theorem dX7_meanByKnowing_54 : decode cX7_meanByKnowing 54 = .ok (.invokevirtual 69, 3) := by decide +kernel
theorem dX7_meanByKnowing_57 : decode cX7_meanByKnowing 57 = .ok (.i2l, 1) := by decide +kernel
theorem dX7_meanByKnowing_58 : decode cX7_meanByKnowing 58 = .ok (.lmul, 1) := by decide +kernel
theorem dX7_meanByKnowing_59 : decode cX7_meanByKnowing 59 = .ok (.lstore 6, 2) := by decide +kernel
theorem dX7_meanByKnowing_61 : decode cX7_meanByKnowing 61 = .ok (.iload_n 2, 1) := by decide +kernel
theorem dX7_meanByKnowing_62 : decode cX7_meanByKnowing 62 = .ok (.i2l, 1) := by decide +kernel
theorem dX7_meanByKnowing_63 : decode cX7_meanByKnowing 63 = .ok (.lload 4, 2) := by decide +kernel
theorem dX7_meanByKnowing_65 : decode cX7_meanByKnowing 65 = .ok (.lmul, 1) := by decide +kernel
theorem dX7_meanByKnowing_66 : decode cX7_meanByKnowing 66 = .ok (.iload_n 3, 1) := by decide +kernel
theorem dX7_meanByKnowing_67 : decode cX7_meanByKnowing 67 = .ok (.i2l, 1) := by decide +kernel
theorem dX7_meanByKnowing_68 : decode cX7_meanByKnowing 68 = .ok (.lload 6, 2) := by decide +kernel
theorem dX7_meanByKnowing_70 : decode cX7_meanByKnowing 70 = .ok (.lmul, 1) := by decide +kernel
theorem dX7_meanByKnowing_71 : decode cX7_meanByKnowing 71 = .ok (.invokestatic 73, 3) := by decide +kernel
theorem dX7_meanByKnowing_74 : decode cX7_meanByKnowing 74 = .ok (.lreturn, 1) := by decide +kernel
theorem dX7_reckon_0 : decode cX7_reckon 0 = .ok (.aload_n 0, 1) := by decide +kernel
theorem dX7_reckon_1 : decode cX7_reckon 1 = .ok (.invokevirtual 79, 3) := by decide +kernel
theorem dX7_reckon_4 : decode cX7_reckon 4 = .ok (.aload_n 0, 1) := by decide +kernel
theorem dX7_reckon_5 : decode cX7_reckon 5 = .ok (.invokevirtual 82, 3) := by decide +kernel
theorem dX7_reckon_8 : decode cX7_reckon 8 = .ok (.return_, 1) := by decide +kernel
theorem dX7_reckonBehind_0 : decode cX7_reckonBehind 0 = .ok (.iconst 0, 1) := by decide +kernel
theorem dX7_reckonBehind_1 : decode cX7_reckonBehind 1 = .ok (.istore_n 1, 1) := by decide +kernel
theorem dX7_reckonBehind_2 : decode cX7_reckonBehind 2 = .ok (.iload_n 1, 1) := by decide +kernel
theorem dX7_reckonBehind_3 : decode cX7_reckonBehind 3 = .ok (.iconst 3, 1) := by decide +kernel
theorem dX7_reckonBehind_4 : decode cX7_reckonBehind 4 = .ok (.if_icmp .ge 39, 3) := by decide +kernel
theorem dX7_reckonBehind_7 : decode cX7_reckonBehind 7 = .ok (.aload_n 0, 1) := by decide +kernel
theorem dX7_reckonBehind_8 : decode cX7_reckonBehind 8 = .ok (.getfield 20, 3) := by decide +kernel
theorem dX7_reckonBehind_11 : decode cX7_reckonBehind 11 = .ok (.bipush 6, 2) := by decide +kernel
theorem dX7_reckonBehind_13 : decode cX7_reckonBehind 13 = .ok (.aaload, 1) := by decide +kernel
theorem dX7_reckonBehind_14 : decode cX7_reckonBehind 14 = .ok (.iload_n 1, 1) := by decide +kernel
theorem dX7_reckonBehind_15 : decode cX7_reckonBehind 15 = .ok (.lconst 1, 1) := by decide +kernel
theorem dX7_reckonBehind_16 : decode cX7_reckonBehind 16 = .ok (.lastore, 1) := by decide +kernel
theorem dX7_reckonBehind_17 : decode cX7_reckonBehind 17 = .ok (.aload_n 0, 1) := by decide +kernel
theorem dX7_reckonBehind_18 : decode cX7_reckonBehind 18 = .ok (.getfield 23, 3) := by decide +kernel
theorem dX7_reckonBehind_21 : decode cX7_reckonBehind 21 = .ok (.bipush 6, 2) := by decide +kernel
theorem dX7_reckonBehind_23 : decode cX7_reckonBehind 23 = .ok (.aaload, 1) := by decide +kernel
theorem dX7_reckonBehind_24 : decode cX7_reckonBehind 24 = .ok (.iload_n 1, 1) := by decide +kernel
theorem dX7_reckonBehind_25 : decode cX7_reckonBehind 25 = .ok (.lconst 1, 1) := by decide +kernel
theorem dX7_reckonBehind_26 : decode cX7_reckonBehind 26 = .ok (.lastore, 1) := by decide +kernel
theorem dX7_reckonBehind_27 : decode cX7_reckonBehind 27 = .ok (.aload_n 0, 1) := by decide +kernel
theorem dX7_reckonBehind_28 : decode cX7_reckonBehind 28 = .ok (.getfield 28, 3) := by decide +kernel
theorem dX7_reckonBehind_31 : decode cX7_reckonBehind 31 = .ok (.bipush 6, 2) := by decide +kernel
theorem dX7_reckonBehind_33 : decode cX7_reckonBehind 33 = .ok (.aaload, 1) := by decide +kernel
theorem dX7_reckonBehind_34 : decode cX7_reckonBehind 34 = .ok (.iload_n 1, 1) := by decide +kernel
theorem dX7_reckonBehind_35 : decode cX7_reckonBehind 35 = .ok (.iconst 1, 1) := by decide +kernel
theorem dX7_reckonBehind_36 : decode cX7_reckonBehind 36 = .ok (.iastore, 1) := by decide +kernel
theorem dX7_reckonBehind_37 : decode cX7_reckonBehind 37 = .ok (.iinc 1 1, 3) := by decide +kernel
theorem dX7_reckonBehind_40 : decode cX7_reckonBehind 40 = .ok (.goto (-38), 3) := by decide +kernel
theorem dX7_reckonBehind_43 : decode cX7_reckonBehind 43 = .ok (.iconst 5, 1) := by decide +kernel
theorem dX7_reckonBehind_44 : decode cX7_reckonBehind 44 = .ok (.istore_n 1, 1) := by decide +kernel
theorem dX7_reckonBehind_45 : decode cX7_reckonBehind 45 = .ok (.iload_n 1, 1) := by decide +kernel
theorem dX7_reckonBehind_46 : decode cX7_reckonBehind 46 = .ok (.ifCond .lt 161, 3) := by decide +kernel
theorem dX7_reckonBehind_49 : decode cX7_reckonBehind 49 = .ok (.iconst 0, 1) := by decide +kernel
theorem dX7_reckonBehind_50 : decode cX7_reckonBehind 50 = .ok (.istore_n 2, 1) := by decide +kernel
theorem dX7_reckonBehind_51 : decode cX7_reckonBehind 51 = .ok (.iload_n 2, 1) := by decide +kernel
theorem dX7_reckonBehind_52 : decode cX7_reckonBehind 52 = .ok (.iconst 3, 1) := by decide +kernel
theorem dX7_reckonBehind_53 : decode cX7_reckonBehind 53 = .ok (.if_icmp .ge 148, 3) := by decide +kernel
theorem dX7_reckonBehind_56 : decode cX7_reckonBehind 56 = .ok (.aload_n 0, 1) := by decide +kernel
theorem dX7_reckonBehind_57 : decode cX7_reckonBehind 57 = .ok (.getfield 20, 3) := by decide +kernel
theorem dX7_reckonBehind_60 : decode cX7_reckonBehind 60 = .ok (.iload_n 1, 1) := by decide +kernel
theorem dX7_reckonBehind_61 : decode cX7_reckonBehind 61 = .ok (.aaload, 1) := by decide +kernel
theorem dX7_reckonBehind_62 : decode cX7_reckonBehind 62 = .ok (.iload_n 2, 1) := by decide +kernel
theorem dX7_reckonBehind_63 : decode cX7_reckonBehind 63 = .ok (.lconst 0, 1) := by decide +kernel
theorem dX7_reckonBehind_64 : decode cX7_reckonBehind 64 = .ok (.lastore, 1) := by decide +kernel
theorem dX7_reckonBehind_65 : decode cX7_reckonBehind 65 = .ok (.aload_n 0, 1) := by decide +kernel
theorem dX7_reckonBehind_66 : decode cX7_reckonBehind 66 = .ok (.getfield 23, 3) := by decide +kernel
theorem dX7_reckonBehind_69 : decode cX7_reckonBehind 69 = .ok (.iload_n 1, 1) := by decide +kernel
theorem dX7_reckonBehind_70 : decode cX7_reckonBehind 70 = .ok (.aaload, 1) := by decide +kernel
theorem dX7_reckonBehind_71 : decode cX7_reckonBehind 71 = .ok (.iload_n 2, 1) := by decide +kernel
theorem dX7_reckonBehind_72 : decode cX7_reckonBehind 72 = .ok (.lconst 0, 1) := by decide +kernel
theorem dX7_reckonBehind_73 : decode cX7_reckonBehind 73 = .ok (.lastore, 1) := by decide +kernel
theorem dX7_reckonBehind_74 : decode cX7_reckonBehind 74 = .ok (.aload_n 0, 1) := by decide +kernel
theorem dX7_reckonBehind_75 : decode cX7_reckonBehind 75 = .ok (.getfield 28, 3) := by decide +kernel
theorem dX7_reckonBehind_78 : decode cX7_reckonBehind 78 = .ok (.iload_n 1, 1) := by decide +kernel
theorem dX7_reckonBehind_79 : decode cX7_reckonBehind 79 = .ok (.aaload, 1) := by decide +kernel
theorem dX7_reckonBehind_80 : decode cX7_reckonBehind 80 = .ok (.iload_n 2, 1) := by decide +kernel
theorem dX7_reckonBehind_81 : decode cX7_reckonBehind 81 = .ok (.iconst 0, 1) := by decide +kernel
theorem dX7_reckonBehind_82 : decode cX7_reckonBehind 82 = .ok (.iastore, 1) := by decide +kernel
theorem dX7_reckonBehind_83 : decode cX7_reckonBehind 83 = .ok (.iconst 0, 1) := by decide +kernel
theorem dX7_reckonBehind_84 : decode cX7_reckonBehind 84 = .ok (.istore_n 3, 1) := by decide +kernel
theorem dX7_reckonBehind_85 : decode cX7_reckonBehind 85 = .ok (.iload_n 3, 1) := by decide +kernel
theorem dX7_reckonBehind_86 : decode cX7_reckonBehind 86 = .ok (.iconst 3, 1) := by decide +kernel
theorem dX7_reckonBehind_87 : decode cX7_reckonBehind 87 = .ok (.if_icmp .ge 108, 3) := by decide +kernel
theorem dX7_reckonBehind_90 : decode cX7_reckonBehind 90 = .ok (.aload_n 0, 1) := by decide +kernel
theorem dX7_reckonBehind_91 : decode cX7_reckonBehind 91 = .ok (.iload_n 1, 1) := by decide +kernel
theorem dX7_reckonBehind_92 : decode cX7_reckonBehind 92 = .ok (.iconst 1, 1) := by decide +kernel
theorem dX7_reckonBehind_93 : decode cX7_reckonBehind 93 = .ok (.iadd, 1) := by decide +kernel
theorem dX7_reckonBehind_94 : decode cX7_reckonBehind 94 = .ok (.iload_n 2, 1) := by decide +kernel
theorem dX7_reckonBehind_95 : decode cX7_reckonBehind 95 = .ok (.iload_n 3, 1) := by decide +kernel
theorem dX7_reckonBehind_96 : decode cX7_reckonBehind 96 = .ok (.invokevirtual 65, 3) := by decide +kernel
theorem dX7_reckonBehind_99 : decode cX7_reckonBehind 99 = .ok (.lstore 4, 2) := by decide +kernel
theorem dX7_reckonBehind_101 : decode cX7_reckonBehind 101 = .ok (.aload_n 0, 1) := by decide +kernel
theorem dX7_reckonBehind_102 : decode cX7_reckonBehind 102 = .ok (.getfield 20, 3) := by decide +kernel
theorem dX7_reckonBehind_105 : decode cX7_reckonBehind 105 = .ok (.iload_n 1, 1) := by decide +kernel
theorem dX7_reckonBehind_106 : decode cX7_reckonBehind 106 = .ok (.aaload, 1) := by decide +kernel
theorem dX7_reckonBehind_107 : decode cX7_reckonBehind 107 = .ok (.iload_n 2, 1) := by decide +kernel
theorem dX7_reckonBehind_108 : decode cX7_reckonBehind 108 = .ok (.dup2, 1) := by decide +kernel
theorem dX7_reckonBehind_109 : decode cX7_reckonBehind 109 = .ok (.laload, 1) := by decide +kernel
theorem dX7_reckonBehind_110 : decode cX7_reckonBehind 110 = .ok (.lload 4, 2) := by decide +kernel
theorem dX7_reckonBehind_112 : decode cX7_reckonBehind 112 = .ok (.aload_n 0, 1) := by decide +kernel
theorem dX7_reckonBehind_113 : decode cX7_reckonBehind 113 = .ok (.getfield 20, 3) := by decide +kernel
theorem dX7_reckonBehind_116 : decode cX7_reckonBehind 116 = .ok (.iload_n 1, 1) := by decide +kernel
theorem dX7_reckonBehind_117 : decode cX7_reckonBehind 117 = .ok (.iconst 1, 1) := by decide +kernel
theorem dX7_reckonBehind_118 : decode cX7_reckonBehind 118 = .ok (.iadd, 1) := by decide +kernel
theorem dX7_reckonBehind_119 : decode cX7_reckonBehind 119 = .ok (.aaload, 1) := by decide +kernel
theorem dX7_reckonBehind_120 : decode cX7_reckonBehind 120 = .ok (.iload_n 3, 1) := by decide +kernel
theorem dX7_reckonBehind_121 : decode cX7_reckonBehind 121 = .ok (.laload, 1) := by decide +kernel
theorem dX7_reckonBehind_122 : decode cX7_reckonBehind 122 = .ok (.lmul, 1) := by decide +kernel
theorem dX7_reckonBehind_123 : decode cX7_reckonBehind 123 = .ok (.ladd, 1) := by decide +kernel
theorem dX7_reckonBehind_124 : decode cX7_reckonBehind 124 = .ok (.lastore, 1) := by decide +kernel
theorem dX7_reckonBehind_125 : decode cX7_reckonBehind 125 = .ok (.aload_n 0, 1) := by decide +kernel
theorem dX7_reckonBehind_126 : decode cX7_reckonBehind 126 = .ok (.getfield 23, 3) := by decide +kernel
theorem dX7_reckonBehind_129 : decode cX7_reckonBehind 129 = .ok (.iload_n 1, 1) := by decide +kernel
theorem dX7_reckonBehind_130 : decode cX7_reckonBehind 130 = .ok (.aaload, 1) := by decide +kernel
theorem dX7_reckonBehind_131 : decode cX7_reckonBehind 131 = .ok (.iload_n 2, 1) := by decide +kernel
theorem dX7_reckonBehind_132 : decode cX7_reckonBehind 132 = .ok (.aload_n 0, 1) := by decide +kernel
theorem dX7_reckonBehind_133 : decode cX7_reckonBehind 133 = .ok (.getfield 23, 3) := by decide +kernel
theorem dX7_reckonBehind_136 : decode cX7_reckonBehind 136 = .ok (.iload_n 1, 1) := by decide +kernel
theorem dX7_reckonBehind_137 : decode cX7_reckonBehind 137 = .ok (.aaload, 1) := by decide +kernel
theorem dX7_reckonBehind_138 : decode cX7_reckonBehind 138 = .ok (.iload_n 2, 1) := by decide +kernel
theorem dX7_reckonBehind_139 : decode cX7_reckonBehind 139 = .ok (.laload, 1) := by decide +kernel
theorem dX7_reckonBehind_140 : decode cX7_reckonBehind 140 = .ok (.lload 4, 2) := by decide +kernel
theorem dX7_reckonBehind_142 : decode cX7_reckonBehind 142 = .ok (.aload_n 0, 1) := by decide +kernel
theorem dX7_reckonBehind_143 : decode cX7_reckonBehind 143 = .ok (.getfield 23, 3) := by decide +kernel
theorem dX7_reckonBehind_146 : decode cX7_reckonBehind 146 = .ok (.iload_n 1, 1) := by decide +kernel
theorem dX7_reckonBehind_147 : decode cX7_reckonBehind 147 = .ok (.iconst 1, 1) := by decide +kernel
theorem dX7_reckonBehind_148 : decode cX7_reckonBehind 148 = .ok (.iadd, 1) := by decide +kernel
theorem dX7_reckonBehind_149 : decode cX7_reckonBehind 149 = .ok (.aaload, 1) := by decide +kernel
theorem dX7_reckonBehind_150 : decode cX7_reckonBehind 150 = .ok (.iload_n 3, 1) := by decide +kernel
theorem dX7_reckonBehind_151 : decode cX7_reckonBehind 151 = .ok (.laload, 1) := by decide +kernel
theorem dX7_reckonBehind_152 : decode cX7_reckonBehind 152 = .ok (.lmul, 1) := by decide +kernel
theorem dX7_reckonBehind_153 : decode cX7_reckonBehind 153 = .ok (.invokestatic 85, 3) := by decide +kernel
theorem dX7_reckonBehind_156 : decode cX7_reckonBehind 156 = .ok (.lastore, 1) := by decide +kernel
theorem dX7_reckonBehind_157 : decode cX7_reckonBehind 157 = .ok (.aload_n 0, 1) := by decide +kernel
theorem dX7_reckonBehind_158 : decode cX7_reckonBehind 158 = .ok (.getfield 28, 3) := by decide +kernel
theorem dX7_reckonBehind_161 : decode cX7_reckonBehind 161 = .ok (.iload_n 1, 1) := by decide +kernel
theorem dX7_reckonBehind_162 : decode cX7_reckonBehind 162 = .ok (.aaload, 1) := by decide +kernel
theorem dX7_reckonBehind_163 : decode cX7_reckonBehind 163 = .ok (.iload_n 2, 1) := by decide +kernel
theorem dX7_reckonBehind_164 : decode cX7_reckonBehind 164 = .ok (.dup2, 1) := by decide +kernel
theorem dX7_reckonBehind_165 : decode cX7_reckonBehind 165 = .ok (.iaload, 1) := by decide +kernel
theorem dX7_reckonBehind_166 : decode cX7_reckonBehind 166 = .ok (.lload 4, 2) := by decide +kernel
theorem dX7_reckonBehind_168 : decode cX7_reckonBehind 168 = .ok (.lconst 0, 1) := by decide +kernel
theorem dX7_reckonBehind_169 : decode cX7_reckonBehind 169 = .ok (.lcmp, 1) := by decide +kernel
theorem dX7_reckonBehind_170 : decode cX7_reckonBehind 170 = .ok (.ifCond .le 16, 3) := by decide +kernel
theorem dX7_reckonBehind_173 : decode cX7_reckonBehind 173 = .ok (.aload_n 0, 1) := by decide +kernel
theorem dX7_reckonBehind_174 : decode cX7_reckonBehind 174 = .ok (.getfield 28, 3) := by decide +kernel
theorem dX7_reckonBehind_177 : decode cX7_reckonBehind 177 = .ok (.iload_n 1, 1) := by decide +kernel
theorem dX7_reckonBehind_178 : decode cX7_reckonBehind 178 = .ok (.iconst 1, 1) := by decide +kernel
theorem dX7_reckonBehind_179 : decode cX7_reckonBehind 179 = .ok (.iadd, 1) := by decide +kernel
theorem dX7_reckonBehind_180 : decode cX7_reckonBehind 180 = .ok (.aaload, 1) := by decide +kernel
theorem dX7_reckonBehind_181 : decode cX7_reckonBehind 181 = .ok (.iload_n 3, 1) := by decide +kernel
theorem dX7_reckonBehind_182 : decode cX7_reckonBehind 182 = .ok (.iaload, 1) := by decide +kernel
theorem dX7_reckonBehind_183 : decode cX7_reckonBehind 183 = .ok (.goto 4, 3) := by decide +kernel
theorem dX7_reckonBehind_186 : decode cX7_reckonBehind 186 = .ok (.iconst 0, 1) := by decide +kernel
theorem dX7_reckonBehind_187 : decode cX7_reckonBehind 187 = .ok (.iadd, 1) := by decide +kernel
theorem dX7_reckonBehind_188 : decode cX7_reckonBehind 188 = .ok (.iastore, 1) := by decide +kernel
theorem dX7_reckonBehind_189 : decode cX7_reckonBehind 189 = .ok (.iinc 3 1, 3) := by decide +kernel
theorem dX7_reckonBehind_192 : decode cX7_reckonBehind 192 = .ok (.goto (-107), 3) := by decide +kernel
theorem dX7_reckonBehind_195 : decode cX7_reckonBehind 195 = .ok (.iinc 2 1, 3) := by decide +kernel
theorem dX7_reckonBehind_198 : decode cX7_reckonBehind 198 = .ok (.goto (-147), 3) := by decide +kernel
theorem dX7_reckonBehind_201 : decode cX7_reckonBehind 201 = .ok (.iinc 1 (-1), 3) := by decide +kernel
theorem dX7_reckonBehind_204 : decode cX7_reckonBehind 204 = .ok (.goto (-159), 3) := by decide +kernel
theorem dX7_reckonBehind_207 : decode cX7_reckonBehind 207 = .ok (.return_, 1) := by decide +kernel
theorem dX7_reckonUntil_0 : decode cX7_reckonUntil 0 = .ok (.iconst 0, 1) := by decide +kernel
theorem dX7_reckonUntil_1 : decode cX7_reckonUntil 1 = .ok (.istore_n 1, 1) := by decide +kernel
theorem dX7_reckonUntil_2 : decode cX7_reckonUntil 2 = .ok (.iload_n 1, 1) := by decide +kernel
theorem dX7_reckonUntil_3 : decode cX7_reckonUntil 3 = .ok (.iconst 3, 1) := by decide +kernel
theorem dX7_reckonUntil_4 : decode cX7_reckonUntil 4 = .ok (.if_icmp .ge 30, 3) := by decide +kernel
theorem dX7_reckonUntil_7 : decode cX7_reckonUntil 7 = .ok (.aload_n 0, 1) := by decide +kernel
theorem dX7_reckonUntil_8 : decode cX7_reckonUntil 8 = .ok (.getfield 17, 3) := by decide +kernel
theorem dX7_reckonUntil_11 : decode cX7_reckonUntil 11 = .ok (.iconst 0, 1) := by decide +kernel
theorem dX7_reckonUntil_12 : decode cX7_reckonUntil 12 = .ok (.aaload, 1) := by decide +kernel
theorem dX7_reckonUntil_13 : decode cX7_reckonUntil 13 = .ok (.iload_n 1, 1) := by decide +kernel
theorem dX7_reckonUntil_14 : decode cX7_reckonUntil 14 = .ok (.iload_n 1, 1) := by decide +kernel
theorem dX7_reckonUntil_15 : decode cX7_reckonUntil 15 = .ok (.aload_n 0, 1) := by decide +kernel
theorem dX7_reckonUntil_16 : decode cX7_reckonUntil 16 = .ok (.getfield 39, 3) := by decide +kernel
theorem dX7_reckonUntil_19 : decode cX7_reckonUntil 19 = .ok (.if_icmp .ne 7, 3) := by decide +kernel
theorem dX7_reckonUntil_22 : decode cX7_reckonUntil 22 = .ok (.lconst 1, 1) := by decide +kernel
theorem dX7_reckonUntil_23 : decode cX7_reckonUntil 23 = .ok (.goto 4, 3) := by decide +kernel
theorem dX7_reckonUntil_26 : decode cX7_reckonUntil 26 = .ok (.lconst 0, 1) := by decide +kernel
theorem dX7_reckonUntil_27 : decode cX7_reckonUntil 27 = .ok (.lastore, 1) := by decide +kernel
theorem dX7_reckonUntil_28 : decode cX7_reckonUntil 28 = .ok (.iinc 1 1, 3) := by decide +kernel
theorem dX7_reckonUntil_31 : decode cX7_reckonUntil 31 = .ok (.goto (-29), 3) := by decide +kernel
theorem dX7_reckonUntil_34 : decode cX7_reckonUntil 34 = .ok (.iconst 1, 1) := by decide +kernel
theorem dX7_reckonUntil_35 : decode cX7_reckonUntil 35 = .ok (.istore_n 1, 1) := by decide +kernel
theorem dX7_reckonUntil_36 : decode cX7_reckonUntil 36 = .ok (.iload_n 1, 1) := by decide +kernel
theorem dX7_reckonUntil_37 : decode cX7_reckonUntil 37 = .ok (.bipush 6, 2) := by decide +kernel
theorem dX7_reckonUntil_39 : decode cX7_reckonUntil 39 = .ok (.if_icmp .gt 73, 3) := by decide +kernel
theorem dX7_reckonUntil_42 : decode cX7_reckonUntil 42 = .ok (.iconst 0, 1) := by decide +kernel
theorem dX7_reckonUntil_43 : decode cX7_reckonUntil 43 = .ok (.istore_n 2, 1) := by decide +kernel
theorem dX7_reckonUntil_44 : decode cX7_reckonUntil 44 = .ok (.iload_n 2, 1) := by decide +kernel
theorem dX7_reckonUntil_45 : decode cX7_reckonUntil 45 = .ok (.iconst 3, 1) := by decide +kernel
theorem dX7_reckonUntil_46 : decode cX7_reckonUntil 46 = .ok (.if_icmp .ge 60, 3) := by decide +kernel
theorem dX7_reckonUntil_49 : decode cX7_reckonUntil 49 = .ok (.aload_n 0, 1) := by decide +kernel
theorem dX7_reckonUntil_50 : decode cX7_reckonUntil 50 = .ok (.getfield 17, 3) := by decide +kernel
theorem dX7_reckonUntil_53 : decode cX7_reckonUntil 53 = .ok (.iload_n 1, 1) := by decide +kernel
theorem dX7_reckonUntil_54 : decode cX7_reckonUntil 54 = .ok (.aaload, 1) := by decide +kernel
theorem dX7_reckonUntil_55 : decode cX7_reckonUntil 55 = .ok (.iload_n 2, 1) := by decide +kernel
theorem dX7_reckonUntil_56 : decode cX7_reckonUntil 56 = .ok (.lconst 0, 1) := by decide +kernel
theorem dX7_reckonUntil_57 : decode cX7_reckonUntil 57 = .ok (.lastore, 1) := by decide +kernel
theorem dX7_reckonUntil_58 : decode cX7_reckonUntil 58 = .ok (.iconst 0, 1) := by decide +kernel
theorem dX7_reckonUntil_59 : decode cX7_reckonUntil 59 = .ok (.istore_n 3, 1) := by decide +kernel
theorem dX7_reckonUntil_60 : decode cX7_reckonUntil 60 = .ok (.iload_n 3, 1) := by decide +kernel
theorem dX7_reckonUntil_61 : decode cX7_reckonUntil 61 = .ok (.iconst 3, 1) := by decide +kernel
theorem dX7_reckonUntil_62 : decode cX7_reckonUntil 62 = .ok (.if_icmp .ge 38, 3) := by decide +kernel
theorem dX7_reckonUntil_65 : decode cX7_reckonUntil 65 = .ok (.aload_n 0, 1) := by decide +kernel
theorem dX7_reckonUntil_66 : decode cX7_reckonUntil 66 = .ok (.getfield 17, 3) := by decide +kernel
theorem dX7_reckonUntil_69 : decode cX7_reckonUntil 69 = .ok (.iload_n 1, 1) := by decide +kernel
theorem dX7_reckonUntil_70 : decode cX7_reckonUntil 70 = .ok (.aaload, 1) := by decide +kernel
theorem dX7_reckonUntil_71 : decode cX7_reckonUntil 71 = .ok (.iload_n 2, 1) := by decide +kernel
theorem dX7_reckonUntil_72 : decode cX7_reckonUntil 72 = .ok (.dup2, 1) := by decide +kernel
theorem dX7_reckonUntil_73 : decode cX7_reckonUntil 73 = .ok (.laload, 1) := by decide +kernel
theorem dX7_reckonUntil_74 : decode cX7_reckonUntil 74 = .ok (.aload_n 0, 1) := by decide +kernel
theorem dX7_reckonUntil_75 : decode cX7_reckonUntil 75 = .ok (.getfield 17, 3) := by decide +kernel
theorem dX7_reckonUntil_78 : decode cX7_reckonUntil 78 = .ok (.iload_n 1, 1) := by decide +kernel
theorem dX7_reckonUntil_79 : decode cX7_reckonUntil 79 = .ok (.iconst 1, 1) := by decide +kernel
theorem dX7_reckonUntil_80 : decode cX7_reckonUntil 80 = .ok (.isub, 1) := by decide +kernel
theorem dX7_reckonUntil_81 : decode cX7_reckonUntil 81 = .ok (.aaload, 1) := by decide +kernel
theorem dX7_reckonUntil_82 : decode cX7_reckonUntil 82 = .ok (.iload_n 3, 1) := by decide +kernel
theorem dX7_reckonUntil_83 : decode cX7_reckonUntil 83 = .ok (.laload, 1) := by decide +kernel
theorem dX7_reckonUntil_84 : decode cX7_reckonUntil 84 = .ok (.aload_n 0, 1) := by decide +kernel
theorem dX7_reckonUntil_85 : decode cX7_reckonUntil 85 = .ok (.iload_n 1, 1) := by decide +kernel
theorem dX7_reckonUntil_86 : decode cX7_reckonUntil 86 = .ok (.iload_n 3, 1) := by decide +kernel
theorem dX7_reckonUntil_87 : decode cX7_reckonUntil 87 = .ok (.iload_n 2, 1) := by decide +kernel
theorem dX7_reckonUntil_88 : decode cX7_reckonUntil 88 = .ok (.invokevirtual 65, 3) := by decide +kernel
theorem dX7_reckonUntil_91 : decode cX7_reckonUntil 91 = .ok (.lmul, 1) := by decide +kernel
theorem dX7_reckonUntil_92 : decode cX7_reckonUntil 92 = .ok (.ladd, 1) := by decide +kernel
theorem dX7_reckonUntil_93 : decode cX7_reckonUntil 93 = .ok (.lastore, 1) := by decide +kernel
theorem dX7_reckonUntil_94 : decode cX7_reckonUntil 94 = .ok (.iinc 3 1, 3) := by decide +kernel
theorem dX7_reckonUntil_97 : decode cX7_reckonUntil 97 = .ok (.goto (-37), 3) := by decide +kernel
theorem dX7_reckonUntil_100 : decode cX7_reckonUntil 100 = .ok (.iinc 2 1, 3) := by decide +kernel
theorem dX7_reckonUntil_103 : decode cX7_reckonUntil 103 = .ok (.goto (-59), 3) := by decide +kernel
theorem dX7_reckonUntil_106 : decode cX7_reckonUntil 106 = .ok (.iinc 1 1, 3) := by decide +kernel
theorem dX7_reckonUntil_109 : decode cX7_reckonUntil 109 = .ok (.goto (-73), 3) := by decide +kernel
theorem dX7_reckonUntil_112 : decode cX7_reckonUntil 112 = .ok (.return_, 1) := by decide +kernel
theorem dX7_stepOdds_0 : decode cX7_stepOdds 0 = .ok (.aload_n 0, 1) := by decide +kernel
theorem dX7_stepOdds_1 : decode cX7_stepOdds 1 = .ok (.getfield 31, 3) := by decide +kernel
theorem dX7_stepOdds_4 : decode cX7_stepOdds 4 = .ok (.iload_n 2, 1) := by decide +kernel
theorem dX7_stepOdds_5 : decode cX7_stepOdds 5 = .ok (.iload_n 3, 1) := by decide +kernel
theorem dX7_stepOdds_6 : decode cX7_stepOdds 6 = .ok (.invokevirtual 88, 3) := by decide +kernel
theorem dX7_stepOdds_9 : decode cX7_stepOdds 9 = .ok (.i2l, 1) := by decide +kernel
theorem dX7_stepOdds_10 : decode cX7_stepOdds 10 = .ok (.aload_n 0, 1) := by decide +kernel
theorem dX7_stepOdds_11 : decode cX7_stepOdds 11 = .ok (.getfield 31, 3) := by decide +kernel
theorem dX7_stepOdds_14 : decode cX7_stepOdds 14 = .ok (.aload_n 0, 1) := by decide +kernel
theorem dX7_stepOdds_15 : decode cX7_stepOdds 15 = .ok (.iload_n 1, 1) := by decide +kernel
theorem dX7_stepOdds_16 : decode cX7_stepOdds 16 = .ok (.invokevirtual 91, 3) := by decide +kernel
theorem dX7_stepOdds_19 : decode cX7_stepOdds 19 = .ok (.iload_n 3, 1) := by decide +kernel
theorem dX7_stepOdds_20 : decode cX7_stepOdds 20 = .ok (.invokevirtual 69, 3) := by decide +kernel
theorem dX7_stepOdds_23 : decode cX7_stepOdds 23 = .ok (.i2l, 1) := by decide +kernel
theorem dX7_stepOdds_24 : decode cX7_stepOdds 24 = .ok (.lmul, 1) := by decide +kernel
theorem dX7_stepOdds_25 : decode cX7_stepOdds 25 = .ok (.lreturn, 1) := by decide +kernel
theorem dX8_init_0 : decode cX8_init 0 = .ok (.aload_n 0, 1) := by decide +kernel
theorem dX8_init_1 : decode cX8_init 1 = .ok (.invokespecial 3, 3) := by decide +kernel
theorem dX8_init_4 : decode cX8_init 4 = .ok (.aload_n 0, 1) := by decide +kernel
theorem dX8_init_5 : decode cX8_init 5 = .ok (.bipush 16, 2) := by decide +kernel
theorem dX8_init_7 : decode cX8_init 7 = .ok (.newarray .int, 2) := by decide +kernel
theorem dX8_init_9 : decode cX8_init 9 = .ok (.putfield 11, 3) := by decide +kernel
theorem dX8_init_12 : decode cX8_init 12 = .ok (.return_, 1) := by decide +kernel
theorem dX8_append_0 : decode cX8_append 0 = .ok (.aload_n 0, 1) := by decide +kernel
theorem dX8_append_1 : decode cX8_append 1 = .ok (.getfield 15, 3) := by decide +kernel
theorem dX8_append_4 : decode cX8_append 4 = .ok (.ifCond .lt 12, 3) := by decide +kernel
theorem dX8_append_7 : decode cX8_append 7 = .ok (.aload_n 0, 1) := by decide +kernel
theorem dX8_append_8 : decode cX8_append 8 = .ok (.getfield 15, 3) := by decide +kernel
theorem dX8_append_11 : decode cX8_append 11 = .ok (.bipush 16, 2) := by decide +kernel
theorem dX8_append_13 : decode cX8_append 13 = .ok (.if_icmp .lt 5, 3) := by decide +kernel
theorem dX8_append_16 : decode cX8_append 16 = .ok (.iconst 0, 1) := by decide +kernel
theorem dX8_append_17 : decode cX8_append 17 = .ok (.ireturn, 1) := by decide +kernel
theorem dX8_append_18 : decode cX8_append 18 = .ok (.aload_n 0, 1) := by decide +kernel
theorem dX8_append_19 : decode cX8_append 19 = .ok (.getfield 11, 3) := by decide +kernel
theorem dX8_append_22 : decode cX8_append 22 = .ok (.aload_n 0, 1) := by decide +kernel
theorem dX8_append_23 : decode cX8_append 23 = .ok (.getfield 15, 3) := by decide +kernel
theorem dX8_append_26 : decode cX8_append 26 = .ok (.iload_n 1, 1) := by decide +kernel
theorem dX8_append_27 : decode cX8_append 27 = .ok (.iastore, 1) := by decide +kernel
theorem dX8_append_28 : decode cX8_append 28 = .ok (.aload_n 0, 1) := by decide +kernel
theorem dX8_append_29 : decode cX8_append 29 = .ok (.dup, 1) := by decide +kernel
theorem dX8_append_30 : decode cX8_append 30 = .ok (.getfield 15, 3) := by decide +kernel
theorem dX8_append_33 : decode cX8_append 33 = .ok (.iconst 1, 1) := by decide +kernel
theorem dX8_append_34 : decode cX8_append 34 = .ok (.iadd, 1) := by decide +kernel
theorem dX8_append_35 : decode cX8_append 35 = .ok (.putfield 15, 3) := by decide +kernel
theorem dX8_append_38 : decode cX8_append 38 = .ok (.iconst 1, 1) := by decide +kernel
theorem dX8_append_39 : decode cX8_append 39 = .ok (.ireturn, 1) := by decide +kernel
theorem dX8_codeAt_0 : decode cX8_codeAt 0 = .ok (.iload_n 1, 1) := by decide +kernel
theorem dX8_codeAt_1 : decode cX8_codeAt 1 = .ok (.ifCond .lt 26, 3) := by decide +kernel
theorem dX8_codeAt_4 : decode cX8_codeAt 4 = .ok (.iload_n 1, 1) := by decide +kernel
theorem dX8_codeAt_5 : decode cX8_codeAt 5 = .ok (.aload_n 0, 1) := by decide +kernel
theorem dX8_codeAt_6 : decode cX8_codeAt 6 = .ok (.getfield 15, 3) := by decide +kernel
theorem dX8_codeAt_9 : decode cX8_codeAt 9 = .ok (.if_icmp .ge 18, 3) := by decide +kernel
theorem dX8_codeAt_12 : decode cX8_codeAt 12 = .ok (.iload_n 1, 1) := by decide +kernel
theorem dX8_codeAt_13 : decode cX8_codeAt 13 = .ok (.bipush 16, 2) := by decide +kernel
theorem dX8_codeAt_15 : decode cX8_codeAt 15 = .ok (.if_icmp .ge 12, 3) := by decide +kernel
theorem dX8_codeAt_18 : decode cX8_codeAt 18 = .ok (.aload_n 0, 1) := by decide +kernel
theorem dX8_codeAt_19 : decode cX8_codeAt 19 = .ok (.getfield 11, 3) := by decide +kernel
theorem dX8_codeAt_22 : decode cX8_codeAt 22 = .ok (.iload_n 1, 1) := by decide +kernel
theorem dX8_codeAt_23 : decode cX8_codeAt 23 = .ok (.iaload, 1) := by decide +kernel
theorem dX8_codeAt_24 : decode cX8_codeAt 24 = .ok (.goto 4, 3) := by decide +kernel
theorem dX8_codeAt_27 : decode cX8_codeAt 27 = .ok (.iconst (-1), 1) := by decide +kernel
theorem dX8_codeAt_28 : decode cX8_codeAt 28 = .ok (.ireturn, 1) := by decide +kernel
theorem dX8_digitAt_0 : decode cX8_digitAt 0 = .ok (.aload_n 0, 1) := by decide +kernel
theorem dX8_digitAt_1 : decode cX8_digitAt 1 = .ok (.iload_n 1, 1) := by decide +kernel
theorem dX8_digitAt_2 : decode cX8_digitAt 2 = .ok (.invokevirtual 19, 3) := by decide +kernel
theorem dX8_digitAt_5 : decode cX8_digitAt 5 = .ok (.istore_n 2, 1) := by decide +kernel
theorem dX8_digitAt_6 : decode cX8_digitAt 6 = .ok (.iload_n 2, 1) := by decide +kernel
theorem dX8_digitAt_7 : decode cX8_digitAt 7 = .ok (.bipush 48, 2) := by decide +kernel
theorem dX8_digitAt_9 : decode cX8_digitAt 9 = .ok (.if_icmp .lt 16, 3) := by decide +kernel
theorem dX8_digitAt_12 : decode cX8_digitAt 12 = .ok (.iload_n 2, 1) := by decide +kernel
theorem dX8_digitAt_13 : decode cX8_digitAt 13 = .ok (.bipush 57, 2) := by decide +kernel
theorem dX8_digitAt_15 : decode cX8_digitAt 15 = .ok (.if_icmp .gt 10, 3) := by decide +kernel
theorem dX8_digitAt_18 : decode cX8_digitAt 18 = .ok (.iload_n 2, 1) := by decide +kernel
theorem dX8_digitAt_19 : decode cX8_digitAt 19 = .ok (.bipush 48, 2) := by decide +kernel
theorem dX8_digitAt_21 : decode cX8_digitAt 21 = .ok (.isub, 1) := by decide +kernel
theorem dX8_digitAt_22 : decode cX8_digitAt 22 = .ok (.goto 4, 3) := by decide +kernel
theorem dX8_digitAt_25 : decode cX8_digitAt 25 = .ok (.iconst (-1), 1) := by decide +kernel
theorem dX8_digitAt_26 : decode cX8_digitAt 26 = .ok (.ireturn, 1) := by decide +kernel
theorem dX8_isStation_0 : decode cX8_isStation 0 = .ok (.aload_n 0, 1) := by decide +kernel
theorem dX8_isStation_1 : decode cX8_isStation 1 = .ok (.getfield 15, 3) := by decide +kernel
theorem dX8_isStation_4 : decode cX8_isStation 4 = .ok (.bipush 14, 2) := by decide +kernel
theorem dX8_isStation_6 : decode cX8_isStation 6 = .ok (.if_icmp .ne 16, 3) := by decide +kernel
theorem dX8_isStation_9 : decode cX8_isStation 9 = .ok (.aload_n 0, 1) := by decide +kernel
theorem dX8_isStation_10 : decode cX8_isStation 10 = .ok (.invokevirtual 23, 3) := by decide +kernel
theorem dX8_isStation_13 : decode cX8_isStation 13 = .ok (.bipush 14, 2) := by decide +kernel
theorem dX8_isStation_15 : decode cX8_isStation 15 = .ok (.if_icmp .ne 7, 3) := by decide +kernel
theorem dX8_isStation_18 : decode cX8_isStation 18 = .ok (.iconst 1, 1) := by decide +kernel
theorem dX8_isStation_19 : decode cX8_isStation 19 = .ok (.goto 4, 3) := by decide +kernel
theorem dX8_isStation_22 : decode cX8_isStation 22 = .ok (.iconst 0, 1) := by decide +kernel
theorem dX8_isStation_23 : decode cX8_isStation 23 = .ok (.ireturn, 1) := by decide +kernel
theorem dX8_firstFault_0 : decode cX8_firstFault 0 = .ok (.iconst 0, 1) := by decide +kernel
theorem dX8_firstFault_1 : decode cX8_firstFault 1 = .ok (.istore_n 1, 1) := by decide +kernel
theorem dX8_firstFault_2 : decode cX8_firstFault 2 = .ok (.iload_n 1, 1) := by decide +kernel
theorem dX8_firstFault_3 : decode cX8_firstFault 3 = .ok (.aload_n 0, 1) := by decide +kernel
theorem dX8_firstFault_4 : decode cX8_firstFault 4 = .ok (.getfield 15, 3) := by decide +kernel
theorem dX8_firstFault_7 : decode cX8_firstFault 7 = .ok (.if_icmp .ge 19, 3) := by decide +kernel
theorem dX8_firstFault_10 : decode cX8_firstFault 10 = .ok (.aload_n 0, 1) := by decide +kernel
theorem dX8_firstFault_11 : decode cX8_firstFault 11 = .ok (.iload_n 1, 1) := by decide +kernel
theorem dX8_firstFault_12 : decode cX8_firstFault 12 = .ok (.invokevirtual 27, 3) := by decide +kernel
theorem dX8_firstFault_15 : decode cX8_firstFault 15 = .ok (.ifCond .ne 5, 3) := by decide +kernel
theorem dX8_firstFault_18 : decode cX8_firstFault 18 = .ok (.iload_n 1, 1) := by decide +kernel
theorem dX8_firstFault_19 : decode cX8_firstFault 19 = .ok (.ireturn, 1) := by decide +kernel
theorem dX8_firstFault_20 : decode cX8_firstFault 20 = .ok (.iinc 1 1, 3) := by decide +kernel
theorem dX8_firstFault_23 : decode cX8_firstFault 23 = .ok (.goto (-21), 3) := by decide +kernel
theorem dX8_firstFault_26 : decode cX8_firstFault 26 = .ok (.aload_n 0, 1) := by decide +kernel
theorem dX8_firstFault_27 : decode cX8_firstFault 27 = .ok (.getfield 15, 3) := by decide +kernel
theorem dX8_firstFault_30 : decode cX8_firstFault 30 = .ok (.ireturn, 1) := by decide +kernel
theorem dX8_isGoodAt_0 : decode cX8_isGoodAt 0 = .ok (.iload_n 1, 1) := by decide +kernel
theorem dX8_isGoodAt_1 : decode cX8_isGoodAt 1 = .ok (.bipush 13, 2) := by decide +kernel
theorem dX8_isGoodAt_3 : decode cX8_isGoodAt 3 = .ok (.if_icmp .le 5, 3) := by decide +kernel
theorem dX8_isGoodAt_6 : decode cX8_isGoodAt 6 = .ok (.iconst 0, 1) := by decide +kernel
theorem dX8_isGoodAt_7 : decode cX8_isGoodAt 7 = .ok (.ireturn, 1) := by decide +kernel
theorem dX8_isGoodAt_8 : decode cX8_isGoodAt 8 = .ok (.iload_n 1, 1) := by decide +kernel
theorem dX8_isGoodAt_9 : decode cX8_isGoodAt 9 = .ok (.bipush 13, 2) := by decide +kernel
theorem dX8_isGoodAt_11 : decode cX8_isGoodAt 11 = .ok (.if_icmp .ne 18, 3) := by decide +kernel
theorem dX8_isGoodAt_14 : decode cX8_isGoodAt 14 = .ok (.aload_n 0, 1) := by decide +kernel
theorem dX8_isGoodAt_15 : decode cX8_isGoodAt 15 = .ok (.iload_n 1, 1) := by decide +kernel
theorem dX8_isGoodAt_16 : decode cX8_isGoodAt 16 = .ok (.invokevirtual 31, 3) := by decide +kernel
theorem dX8_isGoodAt_19 : decode cX8_isGoodAt 19 = .ok (.iconst (-1), 1) := by decide +kernel
theorem dX8_isGoodAt_20 : decode cX8_isGoodAt 20 = .ok (.if_icmp .eq 7, 3) := by decide +kernel
theorem dX8_isGoodAt_23 : decode cX8_isGoodAt 23 = .ok (.iconst 1, 1) := by decide +kernel
theorem dX8_isGoodAt_24 : decode cX8_isGoodAt 24 = .ok (.goto 4, 3) := by decide +kernel
theorem dX8_isGoodAt_27 : decode cX8_isGoodAt 27 = .ok (.iconst 0, 1) := by decide +kernel
theorem dX8_isGoodAt_28 : decode cX8_isGoodAt 28 = .ok (.ireturn, 1) := by decide +kernel
theorem dX8_isGoodAt_29 : decode cX8_isGoodAt 29 = .ok (.iload_n 1, 1) := by decide +kernel
theorem dX8_isGoodAt_30 : decode cX8_isGoodAt 30 = .ok (.bipush 12, 2) := by decide +kernel
theorem dX8_isGoodAt_32 : decode cX8_isGoodAt 32 = .ok (.if_icmp .ne 27, 3) := by decide +kernel
theorem dX8_isGoodAt_35 : decode cX8_isGoodAt 35 = .ok (.aload_n 0, 1) := by decide +kernel
theorem dX8_isGoodAt_36 : decode cX8_isGoodAt 36 = .ok (.iload_n 1, 1) := by decide +kernel
theorem dX8_isGoodAt_37 : decode cX8_isGoodAt 37 = .ok (.invokevirtual 31, 3) := by decide +kernel
theorem dX8_isGoodAt_40 : decode cX8_isGoodAt 40 = .ok (.iconst 1, 1) := by decide +kernel
theorem dX8_isGoodAt_41 : decode cX8_isGoodAt 41 = .ok (.if_icmp .lt 16, 3) := by decide +kernel
theorem dX8_isGoodAt_44 : decode cX8_isGoodAt 44 = .ok (.aload_n 0, 1) := by decide +kernel
theorem dX8_isGoodAt_45 : decode cX8_isGoodAt 45 = .ok (.iload_n 1, 1) := by decide +kernel
theorem dX8_isGoodAt_46 : decode cX8_isGoodAt 46 = .ok (.invokevirtual 31, 3) := by decide +kernel
theorem dX8_isGoodAt_49 : decode cX8_isGoodAt 49 = .ok (.iconst 4, 1) := by decide +kernel
theorem dX8_isGoodAt_50 : decode cX8_isGoodAt 50 = .ok (.if_icmp .gt 7, 3) := by decide +kernel
theorem dX8_isGoodAt_53 : decode cX8_isGoodAt 53 = .ok (.iconst 1, 1) := by decide +kernel
theorem dX8_isGoodAt_54 : decode cX8_isGoodAt 54 = .ok (.goto 4, 3) := by decide +kernel
theorem dX8_isGoodAt_57 : decode cX8_isGoodAt 57 = .ok (.iconst 0, 1) := by decide +kernel
theorem dX8_isGoodAt_58 : decode cX8_isGoodAt 58 = .ok (.ireturn, 1) := by decide +kernel
theorem dX8_isGoodAt_59 : decode cX8_isGoodAt 59 = .ok (.iload_n 1, 1) := by decide +kernel
theorem dX8_isGoodAt_60 : decode cX8_isGoodAt 60 = .ok (.bipush 11, 2) := by decide +kernel
theorem dX8_isGoodAt_62 : decode cX8_isGoodAt 62 = .ok (.if_icmp .ne 19, 3) := by decide +kernel
theorem dX8_isGoodAt_65 : decode cX8_isGoodAt 65 = .ok (.aload_n 0, 1) := by decide +kernel
theorem dX8_isGoodAt_66 : decode cX8_isGoodAt 66 = .ok (.iload_n 1, 1) := by decide +kernel
theorem dX8_isGoodAt_67 : decode cX8_isGoodAt 67 = .ok (.invokevirtual 19, 3) := by decide +kernel
theorem dX8_isGoodAt_70 : decode cX8_isGoodAt 70 = .ok (.bipush 59, 2) := by decide +kernel
theorem dX8_isGoodAt_72 : decode cX8_isGoodAt 72 = .ok (.if_icmp .ne 7, 3) := by decide +kernel
theorem dX8_isGoodAt_75 : decode cX8_isGoodAt 75 = .ok (.iconst 1, 1) := by decide +kernel
theorem dX8_isGoodAt_76 : decode cX8_isGoodAt 76 = .ok (.goto 4, 3) := by decide +kernel
theorem dX8_isGoodAt_79 : decode cX8_isGoodAt 79 = .ok (.iconst 0, 1) := by decide +kernel
theorem dX8_isGoodAt_80 : decode cX8_isGoodAt 80 = .ok (.ireturn, 1) := by decide +kernel
theorem dX8_isGoodAt_81 : decode cX8_isGoodAt 81 = .ok (.iload_n 1, 1) := by decide +kernel
theorem dX8_isGoodAt_82 : decode cX8_isGoodAt 82 = .ok (.iconst 4, 1) := by decide +kernel
theorem dX8_isGoodAt_83 : decode cX8_isGoodAt 83 = .ok (.irem, 1) := by decide +kernel
theorem dX8_isGoodAt_84 : decode cX8_isGoodAt 84 = .ok (.iconst 3, 1) := by decide +kernel
theorem dX8_isGoodAt_85 : decode cX8_isGoodAt 85 = .ok (.if_icmp .ne 21, 3) := by decide +kernel
theorem dX8_isGoodAt_88 : decode cX8_isGoodAt 88 = .ok (.aload_n 0, 1) := by decide +kernel
theorem dX8_isGoodAt_89 : decode cX8_isGoodAt 89 = .ok (.iload_n 1, 1) := by decide +kernel
theorem dX8_isGoodAt_90 : decode cX8_isGoodAt 90 = .ok (.invokevirtual 19, 3) := by decide +kernel
theorem dX8_isGoodAt_93 : decode cX8_isGoodAt 93 = .ok (.bipush 47, 2) := by decide +kernel
theorem dX8_isGoodAt_95 : decode cX8_isGoodAt 95 = .ok (.if_icmp .ne 7, 3) := by decide +kernel
theorem dX8_isGoodAt_98 : decode cX8_isGoodAt 98 = .ok (.iconst 1, 1) := by decide +kernel
theorem dX8_isGoodAt_99 : decode cX8_isGoodAt 99 = .ok (.goto 12, 3) := by decide +kernel
theorem dX8_isGoodAt_102 : decode cX8_isGoodAt 102 = .ok (.iconst 0, 1) := by decide +kernel
theorem dX8_isGoodAt_103 : decode cX8_isGoodAt 103 = .ok (.goto 8, 3) := by decide +kernel
theorem dX8_isGoodAt_106 : decode cX8_isGoodAt 106 = .ok (.aload_n 0, 1) := by decide +kernel
theorem dX8_isGoodAt_107 : decode cX8_isGoodAt 107 = .ok (.iload_n 1, 1) := by decide +kernel
theorem dX8_isGoodAt_108 : decode cX8_isGoodAt 108 = .ok (.invokevirtual 34, 3) := by decide +kernel
theorem dX8_isGoodAt_111 : decode cX8_isGoodAt 111 = .ok (.ireturn, 1) := by decide +kernel
theorem dX8_isGoodTenths_0 : decode cX8_isGoodTenths 0 = .ok (.iconst 0, 1) := by decide +kernel
theorem dX8_isGoodTenths_1 : decode cX8_isGoodTenths 1 = .ok (.istore_n 2, 1) := by decide +kernel
theorem dX8_isGoodTenths_2 : decode cX8_isGoodTenths 2 = .ok (.iload_n 1, 1) := by decide +kernel
theorem dX8_isGoodTenths_3 : decode cX8_isGoodTenths 3 = .ok (.iload_n 1, 1) := by decide +kernel
theorem dX8_isGoodTenths_4 : decode cX8_isGoodTenths 4 = .ok (.iconst 4, 1) := by decide +kernel
theorem dX8_isGoodTenths_5 : decode cX8_isGoodTenths 5 = .ok (.irem, 1) := by decide +kernel
theorem dX8_isGoodTenths_6 : decode cX8_isGoodTenths 6 = .ok (.isub, 1) := by decide +kernel
theorem dX8_isGoodTenths_7 : decode cX8_isGoodTenths 7 = .ok (.istore_n 3, 1) := by decide +kernel
theorem dX8_isGoodTenths_8 : decode cX8_isGoodTenths 8 = .ok (.iload_n 3, 1) := by decide +kernel
theorem dX8_isGoodTenths_9 : decode cX8_isGoodTenths 9 = .ok (.iload_n 1, 1) := by decide +kernel
theorem dX8_isGoodTenths_10 : decode cX8_isGoodTenths 10 = .ok (.if_icmp .gt 28, 3) := by decide +kernel
theorem dX8_isGoodTenths_13 : decode cX8_isGoodTenths 13 = .ok (.aload_n 0, 1) := by decide +kernel
theorem dX8_isGoodTenths_14 : decode cX8_isGoodTenths 14 = .ok (.iload_n 3, 1) := by decide +kernel
theorem dX8_isGoodTenths_15 : decode cX8_isGoodTenths 15 = .ok (.invokevirtual 31, 3) := by decide +kernel
theorem dX8_isGoodTenths_18 : decode cX8_isGoodTenths 18 = .ok (.iconst (-1), 1) := by decide +kernel
theorem dX8_isGoodTenths_19 : decode cX8_isGoodTenths 19 = .ok (.if_icmp .ne 5, 3) := by decide +kernel
theorem dX8_isGoodTenths_22 : decode cX8_isGoodTenths 22 = .ok (.iconst 0, 1) := by decide +kernel
theorem dX8_isGoodTenths_23 : decode cX8_isGoodTenths 23 = .ok (.ireturn, 1) := by decide +kernel
theorem dX8_isGoodTenths_24 : decode cX8_isGoodTenths 24 = .ok (.iload_n 2, 1) := by decide +kernel
theorem dX8_isGoodTenths_25 : decode cX8_isGoodTenths 25 = .ok (.aload_n 0, 1) := by decide +kernel
theorem dX8_isGoodTenths_26 : decode cX8_isGoodTenths 26 = .ok (.iload_n 3, 1) := by decide +kernel
theorem dX8_isGoodTenths_27 : decode cX8_isGoodTenths 27 = .ok (.invokevirtual 31, 3) := by decide +kernel
theorem dX8_isGoodTenths_30 : decode cX8_isGoodTenths 30 = .ok (.iadd, 1) := by decide +kernel
theorem dX8_isGoodTenths_31 : decode cX8_isGoodTenths 31 = .ok (.istore_n 2, 1) := by decide +kernel
theorem dX8_isGoodTenths_32 : decode cX8_isGoodTenths 32 = .ok (.iinc 3 1, 3) := by decide +kernel
theorem dX8_isGoodTenths_35 : decode cX8_isGoodTenths 35 = .ok (.goto (-27), 3) := by decide +kernel
theorem dX8_isGoodTenths_38 : decode cX8_isGoodTenths 38 = .ok (.iload_n 1, 1) := by decide +kernel
theorem dX8_isGoodTenths_39 : decode cX8_isGoodTenths 39 = .ok (.iconst 4, 1) := by decide +kernel
theorem dX8_isGoodTenths_40 : decode cX8_isGoodTenths 40 = .ok (.irem, 1) := by decide +kernel
theorem dX8_isGoodTenths_41 : decode cX8_isGoodTenths 41 = .ok (.iconst 2, 1) := by decide +kernel
theorem dX8_isGoodTenths_42 : decode cX8_isGoodTenths 42 = .ok (.if_icmp .ne 17, 3) := by decide +kernel
theorem dX8_isGoodTenths_45 : decode cX8_isGoodTenths 45 = .ok (.iload_n 2, 1) := by decide +kernel
theorem dX8_isGoodTenths_46 : decode cX8_isGoodTenths 46 = .ok (.bipush 10, 2) := by decide +kernel
theorem dX8_isGoodTenths_48 : decode cX8_isGoodTenths 48 = .ok (.if_icmp .ne 7, 3) := by decide +kernel
theorem dX8_isGoodTenths_51 : decode cX8_isGoodTenths 51 = .ok (.iconst 1, 1) := by decide +kernel
theorem dX8_isGoodTenths_52 : decode cX8_isGoodTenths 52 = .ok (.goto 18, 3) := by decide +kernel
theorem dX8_isGoodTenths_55 : decode cX8_isGoodTenths 55 = .ok (.iconst 0, 1) := by decide +kernel
theorem dX8_isGoodTenths_56 : decode cX8_isGoodTenths 56 = .ok (.goto 14, 3) := by decide +kernel
theorem dX8_isGoodTenths_59 : decode cX8_isGoodTenths 59 = .ok (.iload_n 2, 1) := by decide +kernel
theorem dX8_isGoodTenths_60 : decode cX8_isGoodTenths 60 = .ok (.bipush 10, 2) := by decide +kernel
theorem dX8_isGoodTenths_62 : decode cX8_isGoodTenths 62 = .ok (.if_icmp .gt 7, 3) := by decide +kernel
theorem dX8_isGoodTenths_65 : decode cX8_isGoodTenths 65 = .ok (.iconst 1, 1) := by decide +kernel
theorem dX8_isGoodTenths_66 : decode cX8_isGoodTenths 66 = .ok (.goto 4, 3) := by decide +kernel
theorem dX8_isGoodTenths_69 : decode cX8_isGoodTenths 69 = .ok (.iconst 0, 1) := by decide +kernel
theorem dX8_isGoodTenths_70 : decode cX8_isGoodTenths 70 = .ok (.ireturn, 1) := by decide +kernel
theorem dX9_init_0 : decode cX9_init 0 = .ok (.aload_n 0, 1) := by decide +kernel
theorem dX9_init_1 : decode cX9_init 1 = .ok (.invokespecial 3, 3) := by decide +kernel
theorem dX9_init_4 : decode cX9_init 4 = .ok (.aload_n 0, 1) := by decide +kernel
theorem dX9_init_5 : decode cX9_init 5 = .ok (.bipush 9, 2) := by decide +kernel
theorem dX9_init_7 : decode cX9_init 7 = .ok (.newarray .int, 2) := by decide +kernel
theorem dX9_init_9 : decode cX9_init 9 = .ok (.putfield 9, 3) := by decide +kernel
theorem dX9_init_12 : decode cX9_init 12 = .ok (.return_, 1) := by decide +kernel
theorem dX9_isRead_0 : decode cX9_isRead 0 = .ok (.aload_n 0, 1) := by decide +kernel
theorem dX9_isRead_1 : decode cX9_isRead 1 = .ok (.getfield 15, 3) := by decide +kernel
theorem dX9_isRead_4 : decode cX9_isRead 4 = .ok (.ifCond .le 7, 3) := by decide +kernel
theorem dX9_isRead_7 : decode cX9_isRead 7 = .ok (.iconst 1, 1) := by decide +kernel
theorem dX9_isRead_8 : decode cX9_isRead 8 = .ok (.goto 4, 3) := by decide +kernel
theorem dX9_isRead_11 : decode cX9_isRead 11 = .ok (.iconst 0, 1) := by decide +kernel
theorem dX9_isRead_12 : decode cX9_isRead 12 = .ok (.ireturn, 1) := by decide +kernel
theorem dX9_read_0 : decode cX9_read 0 = .ok (.iconst 0, 1) := by decide +kernel
theorem dX9_read_1 : decode cX9_read 1 = .ok (.istore_n 2, 1) := by decide +kernel
theorem dX9_read_2 : decode cX9_read 2 = .ok (.iload_n 2, 1) := by decide +kernel
theorem dX9_read_3 : decode cX9_read 3 = .ok (.iconst 3, 1) := by decide +kernel
theorem dX9_read_4 : decode cX9_read 4 = .ok (.if_icmp .ge 41, 3) := by decide +kernel
theorem dX9_read_7 : decode cX9_read 7 = .ok (.iconst 0, 1) := by decide +kernel
theorem dX9_read_8 : decode cX9_read 8 = .ok (.istore_n 3, 1) := by decide +kernel
theorem dX9_read_9 : decode cX9_read 9 = .ok (.iload_n 3, 1) := by decide +kernel
theorem dX9_read_10 : decode cX9_read 10 = .ok (.iconst 3, 1) := by decide +kernel
theorem dX9_read_11 : decode cX9_read 11 = .ok (.if_icmp .ge 28, 3) := by decide +kernel
theorem dX9_read_14 : decode cX9_read 14 = .ok (.aload_n 0, 1) := by decide +kernel
theorem dX9_read_15 : decode cX9_read 15 = .ok (.getfield 9, 3) := by decide +kernel
theorem dX9_read_18 : decode cX9_read 18 = .ok (.iload_n 2, 1) := by decide +kernel
theorem dX9_read_19 : decode cX9_read 19 = .ok (.iconst 3, 1) := by decide +kernel
theorem dX9_read_20 : decode cX9_read 20 = .ok (.imul, 1) := by decide +kernel
theorem dX9_read_21 : decode cX9_read 21 = .ok (.iload_n 3, 1) := by decide +kernel
theorem dX9_read_22 : decode cX9_read 22 = .ok (.iadd, 1) := by decide +kernel
theorem dX9_read_23 : decode cX9_read 23 = .ok (.aload_n 1, 1) := by decide +kernel
theorem dX9_read_24 : decode cX9_read 24 = .ok (.iload_n 2, 1) := by decide +kernel
theorem dX9_read_25 : decode cX9_read 25 = .ok (.iconst 4, 1) := by decide +kernel
theorem dX9_read_26 : decode cX9_read 26 = .ok (.imul, 1) := by decide +kernel
theorem dX9_read_27 : decode cX9_read 27 = .ok (.iload_n 3, 1) := by decide +kernel
theorem dX9_read_28 : decode cX9_read 28 = .ok (.iadd, 1) := by decide +kernel
theorem dX9_read_29 : decode cX9_read 29 = .ok (.invokevirtual 21, 3) := by decide +kernel
theorem dX9_read_32 : decode cX9_read 32 = .ok (.iastore, 1) := by decide +kernel
theorem dX9_read_33 : decode cX9_read 33 = .ok (.iinc 3 1, 3) := by decide +kernel
theorem dX9_read_36 : decode cX9_read 36 = .ok (.goto (-27), 3) := by decide +kernel
theorem dX9_read_39 : decode cX9_read 39 = .ok (.iinc 2 1, 3) := by decide +kernel
theorem dX9_read_42 : decode cX9_read 42 = .ok (.goto (-40), 3) := by decide +kernel
theorem dX9_read_45 : decode cX9_read 45 = .ok (.aload_n 0, 1) := by decide +kernel
theorem dX9_read_46 : decode cX9_read 46 = .ok (.aload_n 1, 1) := by decide +kernel
theorem dX9_read_47 : decode cX9_read 47 = .ok (.bipush 12, 2) := by decide +kernel
theorem dX9_read_49 : decode cX9_read 49 = .ok (.invokevirtual 21, 3) := by decide +kernel
theorem dX9_read_52 : decode cX9_read 52 = .ok (.putfield 15, 3) := by decide +kernel
theorem dX9_read_55 : decode cX9_read 55 = .ok (.aload_n 0, 1) := by decide +kernel
theorem dX9_read_56 : decode cX9_read 56 = .ok (.aload_n 1, 1) := by decide +kernel
theorem dX9_read_57 : decode cX9_read 57 = .ok (.bipush 13, 2) := by decide +kernel
theorem dX9_read_59 : decode cX9_read 59 = .ok (.invokevirtual 21, 3) := by decide +kernel
theorem dX9_read_62 : decode cX9_read 62 = .ok (.putfield 25, 3) := by decide +kernel
theorem dX9_read_65 : decode cX9_read 65 = .ok (.return_, 1) := by decide +kernel
theorem dX9_tenthsFrom_0 : decode cX9_tenthsFrom 0 = .ok (.iload_n 1, 1) := by decide +kernel
theorem dX9_tenthsFrom_1 : decode cX9_tenthsFrom 1 = .ok (.ifCond .lt 21, 3) := by decide +kernel
theorem dX9_tenthsFrom_4 : decode cX9_tenthsFrom 4 = .ok (.iload_n 1, 1) := by decide +kernel
theorem dX9_tenthsFrom_5 : decode cX9_tenthsFrom 5 = .ok (.iconst 3, 1) := by decide +kernel
theorem dX9_tenthsFrom_6 : decode cX9_tenthsFrom 6 = .ok (.if_icmp .ge 16, 3) := by decide +kernel
theorem dX9_tenthsFrom_9 : decode cX9_tenthsFrom 9 = .ok (.iload_n 2, 1) := by decide +kernel
theorem dX9_tenthsFrom_10 : decode cX9_tenthsFrom 10 = .ok (.ifCond .lt 12, 3) := by decide +kernel
theorem dX9_tenthsFrom_13 : decode cX9_tenthsFrom 13 = .ok (.iload_n 2, 1) := by decide +kernel
theorem dX9_tenthsFrom_14 : decode cX9_tenthsFrom 14 = .ok (.iconst 3, 1) := by decide +kernel
theorem dX9_tenthsFrom_15 : decode cX9_tenthsFrom 15 = .ok (.if_icmp .ge 7, 3) := by decide +kernel
theorem dX9_tenthsFrom_18 : decode cX9_tenthsFrom 18 = .ok (.iconst 1, 1) := by decide +kernel
theorem dX9_tenthsFrom_19 : decode cX9_tenthsFrom 19 = .ok (.goto 4, 3) := by decide +kernel
theorem dX9_tenthsFrom_22 : decode cX9_tenthsFrom 22 = .ok (.iconst 0, 1) := by decide +kernel
theorem dX9_tenthsFrom_23 : decode cX9_tenthsFrom 23 = .ok (.istore_n 3, 1) := by decide +kernel
theorem dX9_tenthsFrom_24 : decode cX9_tenthsFrom 24 = .ok (.iload_n 3, 1) := by decide +kernel
theorem dX9_tenthsFrom_25 : decode cX9_tenthsFrom 25 = .ok (.ifCond .eq 16, 3) := by decide +kernel
theorem dX9_tenthsFrom_28 : decode cX9_tenthsFrom 28 = .ok (.aload_n 0, 1) := by decide +kernel
theorem dX9_tenthsFrom_29 : decode cX9_tenthsFrom 29 = .ok (.getfield 9, 3) := by decide +kernel
theorem dX9_tenthsFrom_32 : decode cX9_tenthsFrom 32 = .ok (.iload_n 1, 1) := by decide +kernel
theorem dX9_tenthsFrom_33 : decode cX9_tenthsFrom 33 = .ok (.iconst 3, 1) := by decide +kernel
theorem dX9_tenthsFrom_34 : decode cX9_tenthsFrom 34 = .ok (.imul, 1) := by decide +kernel
theorem dX9_tenthsFrom_35 : decode cX9_tenthsFrom 35 = .ok (.iload_n 2, 1) := by decide +kernel
theorem dX9_tenthsFrom_36 : decode cX9_tenthsFrom 36 = .ok (.iadd, 1) := by decide +kernel
theorem dX9_tenthsFrom_37 : decode cX9_tenthsFrom 37 = .ok (.iaload, 1) := by decide +kernel
theorem dX9_tenthsFrom_38 : decode cX9_tenthsFrom 38 = .ok (.goto 4, 3) := by decide +kernel
theorem dX9_tenthsFrom_41 : decode cX9_tenthsFrom 41 = .ok (.iconst 0, 1) := by decide +kernel
theorem dX9_tenthsFrom_42 : decode cX9_tenthsFrom 42 = .ok (.ireturn, 1) := by decide +kernel
theorem dX9_fit_0 : decode cX9_fit 0 = .ok (.iload_n 1, 1) := by decide +kernel
theorem dX9_fit_1 : decode cX9_fit 1 = .ok (.iconst (-1), 1) := by decide +kernel
theorem dX9_fit_2 : decode cX9_fit 2 = .ok (.if_icmp .ne 5, 3) := by decide +kernel
theorem dX9_fit_5 : decode cX9_fit 5 = .ok (.iconst 1, 1) := by decide +kernel
theorem dX9_fit_6 : decode cX9_fit 6 = .ok (.ireturn, 1) := by decide +kernel
theorem dX9_fit_7 : decode cX9_fit 7 = .ok (.iload_n 1, 1) := by decide +kernel
theorem dX9_fit_8 : decode cX9_fit 8 = .ok (.iload_n 2, 1) := by decide +kernel
theorem dX9_fit_9 : decode cX9_fit 9 = .ok (.if_icmp .ne 11, 3) := by decide +kernel
theorem dX9_fit_12 : decode cX9_fit 12 = .ok (.bipush 10, 2) := by decide +kernel
theorem dX9_fit_14 : decode cX9_fit 14 = .ok (.aload_n 0, 1) := by decide +kernel
theorem dX9_fit_15 : decode cX9_fit 15 = .ok (.getfield 25, 3) := by decide +kernel
theorem dX9_fit_18 : decode cX9_fit 18 = .ok (.isub, 1) := by decide +kernel
theorem dX9_fit_19 : decode cX9_fit 19 = .ok (.ireturn, 1) := by decide +kernel
theorem dX9_fit_20 : decode cX9_fit 20 = .ok (.iload_n 1, 1) := by decide +kernel
theorem dX9_fit_21 : decode cX9_fit 21 = .ok (.iload_n 2, 1) := by decide +kernel
theorem dX9_fit_22 : decode cX9_fit 22 = .ok (.iconst 1, 1) := by decide +kernel
theorem dX9_fit_23 : decode cX9_fit 23 = .ok (.iadd, 1) := by decide +kernel
theorem dX9_fit_24 : decode cX9_fit 24 = .ok (.iconst 3, 1) := by decide +kernel
theorem dX9_fit_25 : decode cX9_fit 25 = .ok (.irem, 1) := by decide +kernel
theorem dX9_fit_26 : decode cX9_fit 26 = .ok (.if_icmp .ne 10, 3) := by decide +kernel
theorem dX9_fit_29 : decode cX9_fit 29 = .ok (.aload_n 0, 1) := by decide +kernel
theorem dX9_fit_30 : decode cX9_fit 30 = .ok (.getfield 25, 3) := by decide +kernel
theorem dX9_fit_33 : decode cX9_fit 33 = .ok (.goto 4, 3) := by decide +kernel
theorem dX9_fit_36 : decode cX9_fit 36 = .ok (.iconst 0, 1) := by decide +kernel
theorem dX9_fit_37 : decode cX9_fit 37 = .ok (.ireturn, 1) := by decide +kernel
theorem dX10_init_0 : decode cX10_init 0 = .ok (.aload_n 0, 1) := by decide +kernel
theorem dX10_init_1 : decode cX10_init 1 = .ok (.invokespecial 3, 3) := by decide +kernel
theorem dX10_init_4 : decode cX10_init 4 = .ok (.aload_n 0, 1) := by decide +kernel
theorem dX10_init_5 : decode cX10_init 5 = .ok (.iconst 5, 1) := by decide +kernel
theorem dX10_init_6 : decode cX10_init 6 = .ok (.newarray .int, 2) := by decide +kernel
theorem dX10_init_8 : decode cX10_init 8 = .ok (.putfield 9, 3) := by decide +kernel
theorem dX10_init_11 : decode cX10_init 11 = .ok (.aload_n 0, 1) := by decide +kernel
theorem dX10_init_12 : decode cX10_init 12 = .ok (.aload_n 1, 1) := by decide +kernel
theorem dX10_init_13 : decode cX10_init 13 = .ok (.putfield 15, 3) := by decide +kernel
theorem dX10_init_16 : decode cX10_init 16 = .ok (.aload_n 0, 1) := by decide +kernel
theorem dX10_init_17 : decode cX10_init 17 = .ok (.aload_n 2, 1) := by decide +kernel
theorem dX10_init_18 : decode cX10_init 18 = .ok (.putfield 19, 3) := by decide +kernel
theorem dX10_init_21 : decode cX10_init 21 = .ok (.return_, 1) := by decide +kernel
theorem dX10_begin_0 : decode cX10_begin 0 = .ok (.aload_n 0, 1) := by decide +kernel
theorem dX10_begin_1 : decode cX10_begin 1 = .ok (.getfield 19, 3) := by decide +kernel
theorem dX10_begin_4 : decode cX10_begin 4 = .ok (.iload_n 2, 1) := by decide +kernel
theorem dX10_begin_5 : decode cX10_begin 5 = .ok (.invokevirtual 23, 3) := by decide +kernel
theorem dX10_begin_8 : decode cX10_begin 8 = .ok (.aload_n 0, 1) := by decide +kernel
theorem dX10_begin_9 : decode cX10_begin 9 = .ok (.getfield 9, 3) := by decide +kernel
theorem dX10_begin_12 : decode cX10_begin 12 = .ok (.iconst 0, 1) := by decide +kernel
theorem dX10_begin_13 : decode cX10_begin 13 = .ok (.iload_n 2, 1) := by decide +kernel
theorem dX10_begin_14 : decode cX10_begin 14 = .ok (.iastore, 1) := by decide +kernel
theorem dX10_begin_15 : decode cX10_begin 15 = .ok (.aload_n 0, 1) := by decide +kernel
theorem dX10_begin_16 : decode cX10_begin 16 = .ok (.iconst 0, 1) := by decide +kernel
theorem dX10_begin_17 : decode cX10_begin 17 = .ok (.putfield 29, 3) := by decide +kernel
theorem dX10_begin_20 : decode cX10_begin 20 = .ok (.aload_n 0, 1) := by decide +kernel
theorem dX10_begin_21 : decode cX10_begin 21 = .ok (.iload_n 1, 1) := by decide +kernel
theorem dX10_begin_22 : decode cX10_begin 22 = .ok (.i2l, 1) := by decide +kernel
theorem dX10_begin_23 : decode cX10_begin 23 = .ok (.putfield 33, 3) := by decide +kernel
theorem dX10_begin_26 : decode cX10_begin 26 = .ok (.aload_n 0, 1) := by decide +kernel
theorem dX10_begin_27 : decode cX10_begin 27 = .ok (.iconst 0, 1) := by decide +kernel
theorem dX10_begin_28 : decode cX10_begin 28 = .ok (.putfield 37, 3) := by decide +kernel
theorem dX10_begin_31 : decode cX10_begin 31 = .ok (.aload_n 0, 1) := by decide +kernel
theorem dX10_begin_32 : decode cX10_begin 32 = .ok (.iconst 0, 1) := by decide +kernel
theorem dX10_begin_33 : decode cX10_begin 33 = .ok (.putfield 40, 3) := by decide +kernel
theorem dX10_begin_36 : decode cX10_begin 36 = .ok (.aload_n 0, 1) := by decide +kernel
theorem dX10_begin_37 : decode cX10_begin 37 = .ok (.iconst 0, 1) := by decide +kernel
theorem dX10_begin_38 : decode cX10_begin 38 = .ok (.putfield 43, 3) := by decide +kernel
theorem dX10_begin_41 : decode cX10_begin 41 = .ok (.return_, 1) := by decide +kernel
theorem dX10_tellOne_0 : decode cX10_tellOne 0 = .ok (.iconst 0, 1) := by decide +kernel
theorem dX10_tellOne_1 : decode cX10_tellOne 1 = .ok (.istore_n 1, 1) := by decide +kernel
theorem dX10_tellOne_2 : decode cX10_tellOne 2 = .ok (.iconst 1, 1) := by decide +kernel
theorem dX10_tellOne_3 : decode cX10_tellOne 3 = .ok (.istore_n 2, 1) := by decide +kernel
theorem dX10_tellOne_4 : decode cX10_tellOne 4 = .ok (.iload_n 2, 1) := by decide +kernel
theorem dX10_tellOne_5 : decode cX10_tellOne 5 = .ok (.iconst 4, 1) := by decide +kernel
theorem dX10_tellOne_6 : decode cX10_tellOne 6 = .ok (.if_icmp .gt 58, 3) := by decide +kernel
theorem dX10_tellOne_9 : decode cX10_tellOne 9 = .ok (.iload_n 2, 1) := by decide +kernel
theorem dX10_tellOne_10 : decode cX10_tellOne 10 = .ok (.aload_n 0, 1) := by decide +kernel
theorem dX10_tellOne_11 : decode cX10_tellOne 11 = .ok (.getfield 15, 3) := by decide +kernel
theorem dX10_tellOne_14 : decode cX10_tellOne 14 = .ok (.getfield 46, 3) := by decide +kernel
theorem dX10_tellOne_17 : decode cX10_tellOne 17 = .ok (.if_icmp .gt 47, 3) := by decide +kernel
theorem dX10_tellOne_20 : decode cX10_tellOne 20 = .ok (.iload_n 2, 1) := by decide +kernel
theorem dX10_tellOne_21 : decode cX10_tellOne 21 = .ok (.aload_n 0, 1) := by decide +kernel
theorem dX10_tellOne_22 : decode cX10_tellOne 22 = .ok (.getfield 29, 3) := by decide +kernel
theorem dX10_tellOne_25 : decode cX10_tellOne 25 = .ok (.if_icmp .le 26, 3) := by decide +kernel
theorem dX10_tellOne_28 : decode cX10_tellOne 28 = .ok (.aload_n 0, 1) := by decide +kernel
theorem dX10_tellOne_29 : decode cX10_tellOne 29 = .ok (.getfield 9, 3) := by decide +kernel
theorem dX10_tellOne_32 : decode cX10_tellOne 32 = .ok (.iload_n 2, 1) := by decide +kernel
theorem dX10_tellOne_33 : decode cX10_tellOne 33 = .ok (.aload_n 0, 1) := by decide +kernel
theorem dX10_tellOne_34 : decode cX10_tellOne 34 = .ok (.aload_n 0, 1) := by decide +kernel
theorem dX10_tellOne_35 : decode cX10_tellOne 35 = .ok (.getfield 9, 3) := by decide +kernel
theorem dX10_tellOne_38 : decode cX10_tellOne 38 = .ok (.iload_n 2, 1) := by decide +kernel
theorem dX10_tellOne_39 : decode cX10_tellOne 39 = .ok (.iconst 1, 1) := by decide +kernel
theorem dX10_tellOne_40 : decode cX10_tellOne 40 = .ok (.isub, 1) := by decide +kernel
theorem dX10_tellOne_41 : decode cX10_tellOne 41 = .ok (.iaload, 1) := by decide +kernel
theorem dX10_tellOne_42 : decode cX10_tellOne 42 = .ok (.invokevirtual 51, 3) := by decide +kernel
theorem dX10_tellOne_45 : decode cX10_tellOne 45 = .ok (.iastore, 1) := by decide +kernel
theorem dX10_tellOne_46 : decode cX10_tellOne 46 = .ok (.aload_n 0, 1) := by decide +kernel
theorem dX10_tellOne_47 : decode cX10_tellOne 47 = .ok (.iload_n 2, 1) := by decide +kernel
theorem dX10_tellOne_48 : decode cX10_tellOne 48 = .ok (.putfield 29, 3) := by decide +kernel
theorem dX10_tellOne_51 : decode cX10_tellOne 51 = .ok (.aload_n 0, 1) := by decide +kernel
theorem dX10_tellOne_52 : decode cX10_tellOne 52 = .ok (.getfield 9, 3) := by decide +kernel
theorem dX10_tellOne_55 : decode cX10_tellOne 55 = .ok (.iload_n 2, 1) := by decide +kernel
theorem dX10_tellOne_56 : decode cX10_tellOne 56 = .ok (.iaload, 1) := by decide +kernel
theorem dX10_tellOne_57 : decode cX10_tellOne 57 = .ok (.istore_n 1, 1) := by decide +kernel
theorem dX10_tellOne_58 : decode cX10_tellOne 58 = .ok (.iinc 2 1, 3) := by decide +kernel
theorem dX10_tellOne_61 : decode cX10_tellOne 61 = .ok (.goto (-57), 3) := by decide +kernel
theorem dX10_tellOne_64 : decode cX10_tellOne 64 = .ok (.aload_n 0, 1) := by decide +kernel
theorem dX10_tellOne_65 : decode cX10_tellOne 65 = .ok (.invokevirtual 55, 3) := by decide +kernel
theorem dX10_tellOne_68 : decode cX10_tellOne 68 = .ok (.aload_n 0, 1) := by decide +kernel
theorem dX10_tellOne_69 : decode cX10_tellOne 69 = .ok (.getfield 15, 3) := by decide +kernel
theorem dX10_tellOne_72 : decode cX10_tellOne 72 = .ok (.getfield 59, 3) := by decide +kernel
theorem dX10_tellOne_75 : decode cX10_tellOne 75 = .ok (.if_icmp .ge 7, 3) := by decide +kernel
theorem dX10_tellOne_78 : decode cX10_tellOne 78 = .ok (.iconst 1, 1) := by decide +kernel
theorem dX10_tellOne_79 : decode cX10_tellOne 79 = .ok (.goto 4, 3) := by decide +kernel
theorem dX10_tellOne_82 : decode cX10_tellOne 82 = .ok (.iconst 0, 1) := by decide +kernel
theorem dX10_tellOne_83 : decode cX10_tellOne 83 = .ok (.istore_n 2, 1) := by decide +kernel
theorem dX10_tellOne_84 : decode cX10_tellOne 84 = .ok (.aload_n 0, 1) := by decide +kernel
theorem dX10_tellOne_85 : decode cX10_tellOne 85 = .ok (.dup, 1) := by decide +kernel
theorem dX10_tellOne_86 : decode cX10_tellOne 86 = .ok (.getfield 43, 3) := by decide +kernel
theorem dX10_tellOne_89 : decode cX10_tellOne 89 = .ok (.iload_n 2, 1) := by decide +kernel
theorem dX10_tellOne_90 : decode cX10_tellOne 90 = .ok (.ifCond .eq 7, 3) := by decide +kernel
theorem dX10_tellOne_93 : decode cX10_tellOne 93 = .ok (.iconst 1, 1) := by decide +kernel
theorem dX10_tellOne_94 : decode cX10_tellOne 94 = .ok (.goto 4, 3) := by decide +kernel
theorem dX10_tellOne_97 : decode cX10_tellOne 97 = .ok (.iconst 0, 1) := by decide +kernel
theorem dX10_tellOne_98 : decode cX10_tellOne 98 = .ok (.iadd, 1) := by decide +kernel
theorem dX10_tellOne_99 : decode cX10_tellOne 99 = .ok (.putfield 43, 3) := by decide +kernel
theorem dX10_tellOne_102 : decode cX10_tellOne 102 = .ok (.aload_n 0, 1) := by decide +kernel
theorem dX10_tellOne_103 : decode cX10_tellOne 103 = .ok (.getfield 19, 3) := by decide +kernel
theorem dX10_tellOne_106 : decode cX10_tellOne 106 = .ok (.iload_n 2, 1) := by decide +kernel
theorem dX10_tellOne_107 : decode cX10_tellOne 107 = .ok (.ifCond .eq 11, 3) := by decide +kernel
theorem dX10_tellOne_110 : decode cX10_tellOne 110 = .ok (.iload_n 1, 1) := by decide +kernel
theorem dX10_tellOne_111 : decode cX10_tellOne 111 = .ok (.iconst 1, 1) := by decide +kernel
theorem dX10_tellOne_112 : decode cX10_tellOne 112 = .ok (.iadd, 1) := by decide +kernel
theorem dX10_tellOne_113 : decode cX10_tellOne 113 = .ok (.iconst 3, 1) := by decide +kernel
theorem dX10_tellOne_114 : decode cX10_tellOne 114 = .ok (.irem, 1) := by decide +kernel
theorem dX10_tellOne_115 : decode cX10_tellOne 115 = .ok (.goto 4, 3) := by decide +kernel
theorem dX10_tellOne_118 : decode cX10_tellOne 118 = .ok (.iload_n 1, 1) := by decide +kernel
theorem dX10_tellOne_119 : decode cX10_tellOne 119 = .ok (.invokevirtual 62, 3) := by decide +kernel
theorem dX10_tellOne_122 : decode cX10_tellOne 122 = .ok (.pop, 1) := by decide +kernel
theorem dX10_tellOne_123 : decode cX10_tellOne 123 = .ok (.return_, 1) := by decide +kernel
theorem dX10_passOne_0 : decode cX10_passOne 0 = .ok (.aload_n 0, 1) := by decide +kernel
theorem dX10_passOne_1 : decode cX10_passOne 1 = .ok (.getfield 9, 3) := by decide +kernel
theorem dX10_passOne_4 : decode cX10_passOne 4 = .ok (.iconst 1, 1) := by decide +kernel
theorem dX10_passOne_5 : decode cX10_passOne 5 = .ok (.iaload, 1) := by decide +kernel
theorem dX10_passOne_6 : decode cX10_passOne 6 = .ok (.istore_n 2, 1) := by decide +kernel
theorem dX10_passOne_7 : decode cX10_passOne 7 = .ok (.iconst 0, 1) := by decide +kernel
theorem dX10_passOne_8 : decode cX10_passOne 8 = .ok (.istore_n 3, 1) := by decide +kernel
theorem dX10_passOne_9 : decode cX10_passOne 9 = .ok (.iload_n 3, 1) := by decide +kernel
theorem dX10_passOne_10 : decode cX10_passOne 10 = .ok (.aload_n 1, 1) := by decide +kernel
theorem dX10_passOne_11 : decode cX10_passOne 11 = .ok (.arraylength, 1) := by decide +kernel
theorem dX10_passOne_12 : decode cX10_passOne 12 = .ok (.if_icmp .ge 42, 3) := by decide +kernel
theorem dX10_passOne_15 : decode cX10_passOne 15 = .ok (.aload_n 1, 1) := by decide +kernel
theorem dX10_passOne_16 : decode cX10_passOne 16 = .ok (.iload_n 3, 1) := by decide +kernel
theorem dX10_passOne_17 : decode cX10_passOne 17 = .ok (.aaload, 1) := by decide +kernel
theorem dX10_passOne_18 : decode cX10_passOne 18 = .ok (.astore 4, 2) := by decide +kernel
theorem dX10_passOne_20 : decode cX10_passOne 20 = .ok (.aload_n 0, 1) := by decide +kernel
theorem dX10_passOne_21 : decode cX10_passOne 21 = .ok (.dup, 1) := by decide +kernel
theorem dX10_passOne_22 : decode cX10_passOne 22 = .ok (.getfield 40, 3) := by decide +kernel
theorem dX10_passOne_25 : decode cX10_passOne 25 = .ok (.aload 4, 2) := by decide +kernel
theorem dX10_passOne_27 : decode cX10_passOne 27 = .ok (.ifnonnull 7, 3) := by decide +kernel
theorem dX10_passOne_30 : decode cX10_passOne 30 = .ok (.iconst 0, 1) := by decide +kernel
theorem dX10_passOne_31 : decode cX10_passOne 31 = .ok (.goto 13, 3) := by decide +kernel
theorem dX10_passOne_34 : decode cX10_passOne 34 = .ok (.aload 4, 2) := by decide +kernel
theorem dX10_passOne_36 : decode cX10_passOne 36 = .ok (.aload_n 0, 1) := by decide +kernel
theorem dX10_passOne_37 : decode cX10_passOne 37 = .ok (.getfield 19, 3) := by decide +kernel
theorem dX10_passOne_40 : decode cX10_passOne 40 = .ok (.iload_n 2, 1) := by decide +kernel
theorem dX10_passOne_41 : decode cX10_passOne 41 = .ok (.invokevirtual 66, 3) := by decide +kernel
theorem dX10_passOne_44 : decode cX10_passOne 44 = .ok (.iadd, 1) := by decide +kernel
theorem dX10_passOne_45 : decode cX10_passOne 45 = .ok (.putfield 40, 3) := by decide +kernel
theorem dX10_passOne_48 : decode cX10_passOne 48 = .ok (.iinc 3 1, 3) := by decide +kernel
theorem dX10_passOne_51 : decode cX10_passOne 51 = .ok (.goto (-42), 3) := by decide +kernel
theorem dX10_passOne_54 : decode cX10_passOne 54 = .ok (.aload_n 0, 1) := by decide +kernel
theorem dX10_passOne_55 : decode cX10_passOne 55 = .ok (.dup, 1) := by decide +kernel
theorem dX10_passOne_56 : decode cX10_passOne 56 = .ok (.getfield 37, 3) := by decide +kernel
theorem dX10_passOne_59 : decode cX10_passOne 59 = .ok (.iload_n 2, 1) := by decide +kernel
theorem dX10_passOne_60 : decode cX10_passOne 60 = .ok (.iconst 1, 1) := by decide +kernel
theorem dX10_passOne_61 : decode cX10_passOne 61 = .ok (.if_icmp .ne 7, 3) := by decide +kernel
theorem dX10_passOne_64 : decode cX10_passOne 64 = .ok (.iconst 1, 1) := by decide +kernel
theorem dX10_passOne_65 : decode cX10_passOne 65 = .ok (.goto 4, 3) := by decide +kernel
theorem dX10_passOne_68 : decode cX10_passOne 68 = .ok (.iconst 0, 1) := by decide +kernel
theorem dX10_passOne_69 : decode cX10_passOne 69 = .ok (.iadd, 1) := by decide +kernel
theorem dX10_passOne_70 : decode cX10_passOne 70 = .ok (.putfield 37, 3) := by decide +kernel
theorem dX10_passOne_73 : decode cX10_passOne 73 = .ok (.aload_n 0, 1) := by decide +kernel
theorem dX10_passOne_74 : decode cX10_passOne 74 = .ok (.getfield 19, 3) := by decide +kernel
theorem dX10_passOne_77 : decode cX10_passOne 77 = .ok (.iload_n 2, 1) := by decide +kernel
theorem dX10_passOne_78 : decode cX10_passOne 78 = .ok (.invokevirtual 72, 3) := by decide +kernel
theorem dX10_passOne_81 : decode cX10_passOne 81 = .ok (.iconst 0, 1) := by decide +kernel
theorem dX10_passOne_82 : decode cX10_passOne 82 = .ok (.istore_n 3, 1) := by decide +kernel
theorem dX10_passOne_83 : decode cX10_passOne 83 = .ok (.iload_n 3, 1) := by decide +kernel
theorem dX10_passOne_84 : decode cX10_passOne 84 = .ok (.iconst 4, 1) := by decide +kernel
theorem dX10_passOne_85 : decode cX10_passOne 85 = .ok (.if_icmp .ge 23, 3) := by decide +kernel
theorem dX10_passOne_88 : decode cX10_passOne 88 = .ok (.aload_n 0, 1) := by decide +kernel
theorem dX10_passOne_89 : decode cX10_passOne 89 = .ok (.getfield 9, 3) := by decide +kernel
theorem dX10_passOne_92 : decode cX10_passOne 92 = .ok (.iload_n 3, 1) := by decide +kernel
theorem dX10_passOne_93 : decode cX10_passOne 93 = .ok (.aload_n 0, 1) := by decide +kernel
theorem dX10_passOne_94 : decode cX10_passOne 94 = .ok (.getfield 9, 3) := by decide +kernel
theorem dX10_passOne_97 : decode cX10_passOne 97 = .ok (.iload_n 3, 1) := by decide +kernel
theorem dX10_passOne_98 : decode cX10_passOne 98 = .ok (.iconst 1, 1) := by decide +kernel
theorem dX10_passOne_99 : decode cX10_passOne 99 = .ok (.iadd, 1) := by decide +kernel
theorem dX10_passOne_100 : decode cX10_passOne 100 = .ok (.iaload, 1) := by decide +kernel
theorem dX10_passOne_101 : decode cX10_passOne 101 = .ok (.iastore, 1) := by decide +kernel
theorem dX10_passOne_102 : decode cX10_passOne 102 = .ok (.iinc 3 1, 3) := by decide +kernel
theorem dX10_passOne_105 : decode cX10_passOne 105 = .ok (.goto (-22), 3) := by decide +kernel
theorem dX10_passOne_108 : decode cX10_passOne 108 = .ok (.aload_n 0, 1) := by decide +kernel
theorem dX10_passOne_109 : decode cX10_passOne 109 = .ok (.dup, 1) := by decide +kernel
theorem dX10_passOne_110 : decode cX10_passOne 110 = .ok (.getfield 29, 3) := by decide +kernel
theorem dX10_passOne_113 : decode cX10_passOne 113 = .ok (.iconst 1, 1) := by decide +kernel
theorem dX10_passOne_114 : decode cX10_passOne 114 = .ok (.isub, 1) := by decide +kernel
theorem dX10_passOne_115 : decode cX10_passOne 115 = .ok (.putfield 29, 3) := by decide +kernel
theorem dX10_passOne_118 : decode cX10_passOne 118 = .ok (.return_, 1) := by decide +kernel
theorem dX10_drawWeather_0 : decode cX10_drawWeather 0 = .ok (.aload_n 0, 1) := by decide +kernel
theorem dX10_drawWeather_1 : decode cX10_drawWeather 1 = .ok (.invokevirtual 55, 3) := by decide +kernel
theorem dX10_drawWeather_4 : decode cX10_drawWeather 4 = .ok (.istore_n 2, 1) := by decide +kernel
theorem dX10_drawWeather_5 : decode cX10_drawWeather 5 = .ok (.aload_n 0, 1) := by decide +kernel
theorem dX10_drawWeather_6 : decode cX10_drawWeather 6 = .ok (.getfield 15, 3) := by decide +kernel
theorem dX10_drawWeather_9 : decode cX10_drawWeather 9 = .ok (.iload_n 1, 1) := by decide +kernel
theorem dX10_drawWeather_10 : decode cX10_drawWeather 10 = .ok (.iconst 0, 1) := by decide +kernel
theorem dX10_drawWeather_11 : decode cX10_drawWeather 11 = .ok (.invokevirtual 75, 3) := by decide +kernel
theorem dX10_drawWeather_14 : decode cX10_drawWeather 14 = .ok (.istore_n 3, 1) := by decide +kernel
theorem dX10_drawWeather_15 : decode cX10_drawWeather 15 = .ok (.iload_n 2, 1) := by decide +kernel
theorem dX10_drawWeather_16 : decode cX10_drawWeather 16 = .ok (.iload_n 3, 1) := by decide +kernel
theorem dX10_drawWeather_17 : decode cX10_drawWeather 17 = .ok (.if_icmp .ge 5, 3) := by decide +kernel
theorem dX10_drawWeather_20 : decode cX10_drawWeather 20 = .ok (.iconst 0, 1) := by decide +kernel
theorem dX10_drawWeather_21 : decode cX10_drawWeather 21 = .ok (.ireturn, 1) := by decide +kernel
theorem dX10_drawWeather_22 : decode cX10_drawWeather 22 = .ok (.iload_n 2, 1) := by decide +kernel
theorem dX10_drawWeather_23 : decode cX10_drawWeather 23 = .ok (.iload_n 3, 1) := by decide +kernel
theorem dX10_drawWeather_24 : decode cX10_drawWeather 24 = .ok (.aload_n 0, 1) := by decide +kernel
theorem dX10_drawWeather_25 : decode cX10_drawWeather 25 = .ok (.getfield 15, 3) := by decide +kernel
theorem dX10_drawWeather_28 : decode cX10_drawWeather 28 = .ok (.iload_n 1, 1) := by decide +kernel
theorem dX10_drawWeather_29 : decode cX10_drawWeather 29 = .ok (.iconst 1, 1) := by decide +kernel
theorem dX10_drawWeather_30 : decode cX10_drawWeather 30 = .ok (.invokevirtual 75, 3) := by decide +kernel
theorem dX10_drawWeather_33 : decode cX10_drawWeather 33 = .ok (.iadd, 1) := by decide +kernel
theorem dX10_drawWeather_34 : decode cX10_drawWeather 34 = .ok (.if_icmp .ge 7, 3) := by decide +kernel
theorem dX10_drawWeather_37 : decode cX10_drawWeather 37 = .ok (.iconst 1, 1) := by decide +kernel
theorem dX10_drawWeather_38 : decode cX10_drawWeather 38 = .ok (.goto 4, 3) := by decide +kernel
theorem dX10_drawWeather_41 : decode cX10_drawWeather 41 = .ok (.iconst 2, 1) := by decide +kernel
theorem dX10_drawWeather_42 : decode cX10_drawWeather 42 = .ok (.ireturn, 1) := by decide +kernel
theorem dX10_draw_0 : decode cX10_draw 0 = .ok (.aload_n 0, 1) := by decide +kernel
theorem dX10_draw_1 : decode cX10_draw 1 = .ok (.ldc2_w 79, 3) := by decide +kernel
theorem dX10_draw_4 : decode cX10_draw 4 = .ok (.aload_n 0, 1) := by decide +kernel
theorem dX10_draw_5 : decode cX10_draw 5 = .ok (.getfield 33, 3) := by decide +kernel
theorem dX10_draw_8 : decode cX10_draw 8 = .ok (.lmul, 1) := by decide +kernel
theorem dX10_draw_9 : decode cX10_draw 9 = .ok (.ldc2_w 81, 3) := by decide +kernel
theorem dX10_draw_12 : decode cX10_draw 12 = .ok (.ladd, 1) := by decide +kernel
theorem dX10_draw_13 : decode cX10_draw 13 = .ok (.ldc2_w 83, 3) := by decide +kernel
theorem dX10_draw_16 : decode cX10_draw 16 = .ok (.lrem, 1) := by decide +kernel
theorem dX10_draw_17 : decode cX10_draw 17 = .ok (.putfield 33, 3) := by decide +kernel
theorem dX10_draw_20 : decode cX10_draw 20 = .ok (.aload_n 0, 1) := by decide +kernel
theorem dX10_draw_21 : decode cX10_draw 21 = .ok (.getfield 33, 3) := by decide +kernel
theorem dX10_draw_24 : decode cX10_draw 24 = .ok (.ldc2_w 85, 3) := by decide +kernel
theorem dX10_draw_27 : decode cX10_draw 27 = .ok (.ldiv, 1) := by decide +kernel
theorem dX10_draw_28 : decode cX10_draw 28 = .ok (.ldc2_w 87, 3) := by decide +kernel
theorem dX10_draw_31 : decode cX10_draw 31 = .ok (.lrem, 1) := by decide +kernel
theorem dX10_draw_32 : decode cX10_draw 32 = .ok (.l2i, 1) := by decide +kernel
theorem dX10_draw_33 : decode cX10_draw 33 = .ok (.ireturn, 1) := by decide +kernel
theorem dX11_init_0 : decode cX11_init 0 = .ok (.aload_n 0, 1) := by decide +kernel
theorem dX11_init_1 : decode cX11_init 1 = .ok (.invokespecial 1, 3) := by decide +kernel
theorem dX11_init_4 : decode cX11_init 4 = .ok (.new 7, 3) := by decide +kernel
theorem dX11_init_7 : decode cX11_init 7 = .ok (.dup, 1) := by decide +kernel
theorem dX11_init_8 : decode cX11_init 8 = .ok (.invokespecial 9, 3) := by decide +kernel
theorem dX11_init_11 : decode cX11_init 11 = .ok (.astore_n 1, 1) := by decide +kernel
theorem dX11_init_12 : decode cX11_init 12 = .ok (.aload_n 0, 1) := by decide +kernel
theorem dX11_init_13 : decode cX11_init 13 = .ok (.new 10, 3) := by decide +kernel
theorem dX11_init_16 : decode cX11_init 16 = .ok (.dup, 1) := by decide +kernel
theorem dX11_init_17 : decode cX11_init 17 = .ok (.invokespecial 12, 3) := by decide +kernel
theorem dX11_init_20 : decode cX11_init 20 = .ok (.putfield 13, 3) := by decide +kernel
theorem dX11_init_23 : decode cX11_init 23 = .ok (.aload_n 0, 1) := by decide +kernel
theorem dX11_init_24 : decode cX11_init 24 = .ok (.aload_n 1, 1) := by decide +kernel
theorem dX11_init_25 : decode cX11_init 25 = .ok (.putfield 19, 3) := by decide +kernel
theorem dX11_init_28 : decode cX11_init 28 = .ok (.aload_n 0, 1) := by decide +kernel
theorem dX11_init_29 : decode cX11_init 29 = .ok (.new 23, 3) := by decide +kernel
theorem dX11_init_32 : decode cX11_init 32 = .ok (.dup, 1) := by decide +kernel
theorem dX11_init_33 : decode cX11_init 33 = .ok (.aload_n 1, 1) := by decide +kernel
theorem dX11_init_34 : decode cX11_init 34 = .ok (.invokespecial 25, 3) := by decide +kernel
theorem dX11_init_37 : decode cX11_init 37 = .ok (.putfield 28, 3) := by decide +kernel
theorem dX11_init_40 : decode cX11_init 40 = .ok (.aload_n 0, 1) := by decide +kernel
theorem dX11_init_41 : decode cX11_init 41 = .ok (.iconst 4, 1) := by decide +kernel
theorem dX11_init_42 : decode cX11_init 42 = .ok (.anewarray 32, 3) := by decide +kernel
theorem dX11_init_45 : decode cX11_init 45 = .ok (.putfield 34, 3) := by decide +kernel
theorem dX11_init_48 : decode cX11_init 48 = .ok (.aload_n 0, 1) := by decide +kernel
theorem dX11_init_49 : decode cX11_init 49 = .ok (.new 38, 3) := by decide +kernel
theorem dX11_init_52 : decode cX11_init 52 = .ok (.dup, 1) := by decide +kernel
theorem dX11_init_53 : decode cX11_init 53 = .ok (.invokespecial 40, 3) := by decide +kernel
theorem dX11_init_56 : decode cX11_init 56 = .ok (.putfield 41, 3) := by decide +kernel
theorem dX11_init_59 : decode cX11_init 59 = .ok (.aload_n 0, 1) := by decide +kernel
theorem dX11_init_60 : decode cX11_init 60 = .ok (.new 45, 3) := by decide +kernel
theorem dX11_init_63 : decode cX11_init 63 = .ok (.dup, 1) := by decide +kernel
theorem dX11_init_64 : decode cX11_init 64 = .ok (.aload_n 1, 1) := by decide +kernel
theorem dX11_init_65 : decode cX11_init 65 = .ok (.new 23, 3) := by decide +kernel
theorem dX11_init_68 : decode cX11_init 68 = .ok (.dup, 1) := by decide +kernel
theorem dX11_init_69 : decode cX11_init 69 = .ok (.aload_n 1, 1) := by decide +kernel
theorem dX11_init_70 : decode cX11_init 70 = .ok (.invokespecial 25, 3) := by decide +kernel
theorem dX11_init_73 : decode cX11_init 73 = .ok (.invokespecial 47, 3) := by decide +kernel
theorem dX11_init_76 : decode cX11_init 76 = .ok (.putfield 50, 3) := by decide +kernel
theorem dX11_init_79 : decode cX11_init 79 = .ok (.aload_n 0, 1) := by decide +kernel
theorem dX11_init_80 : decode cX11_init 80 = .ok (.new 54, 3) := by decide +kernel
theorem dX11_init_83 : decode cX11_init 83 = .ok (.dup, 1) := by decide +kernel
theorem dX11_init_84 : decode cX11_init 84 = .ok (.new 23, 3) := by decide +kernel
theorem dX11_init_87 : decode cX11_init 87 = .ok (.dup, 1) := by decide +kernel
theorem dX11_init_88 : decode cX11_init 88 = .ok (.aload_n 1, 1) := by decide +kernel
theorem dX11_init_89 : decode cX11_init 89 = .ok (.invokespecial 25, 3) := by decide +kernel
theorem dX11_init_92 : decode cX11_init 92 = .ok (.new 38, 3) := by decide +kernel
theorem dX11_init_95 : decode cX11_init 95 = .ok (.dup, 1) := by decide +kernel
theorem dX11_init_96 : decode cX11_init 96 = .ok (.invokespecial 40, 3) := by decide +kernel
theorem dX11_init_99 : decode cX11_init 99 = .ok (.invokespecial 56, 3) := by decide +kernel
theorem dX11_init_102 : decode cX11_init 102 = .ok (.putfield 59, 3) := by decide +kernel
theorem dX11_init_105 : decode cX11_init 105 = .ok (.return_, 1) := by decide +kernel
theorem dX11_letter_0 : decode cX11_letter 0 = .ok (.iload_n 1, 1) := by decide +kernel
theorem dX11_letter_1 : decode cX11_letter 1 = .ok (.bipush 32, 2) := by decide +kernel
theorem dX11_letter_3 : decode cX11_letter 3 = .ok (.if_icmp .lt 9, 3) := by decide +kernel
theorem dX11_letter_6 : decode cX11_letter 6 = .ok (.iload_n 1, 1) := by decide +kernel
theorem dX11_letter_7 : decode cX11_letter 7 = .ok (.bipush 126, 2) := by decide +kernel
theorem dX11_letter_9 : decode cX11_letter 9 = .ok (.if_icmp .le 6, 3) := by decide +kernel
theorem dX11_letter_12 : decode cX11_letter 12 = .ok (.bipush (-102), 2) := by decide +kernel
theorem dX11_letter_14 : decode cX11_letter 14 = .ok (.ireturn, 1) := by decide +kernel
theorem dX11_letter_15 : decode cX11_letter 15 = .ok (.aload_n 0, 1) := by decide +kernel
theorem dX11_letter_16 : decode cX11_letter 16 = .ok (.getfield 13, 3) := by decide +kernel
theorem dX11_letter_19 : decode cX11_letter 19 = .ok (.iload_n 1, 1) := by decide +kernel
theorem dX11_letter_20 : decode cX11_letter 20 = .ok (.invokevirtual 63, 3) := by decide +kernel
theorem dX11_letter_23 : decode cX11_letter 23 = .ok (.ifCond .eq 13, 3) := by decide +kernel
theorem dX11_letter_26 : decode cX11_letter 26 = .ok (.aload_n 0, 1) := by decide +kernel
theorem dX11_letter_27 : decode cX11_letter 27 = .ok (.getfield 13, 3) := by decide +kernel
theorem dX11_letter_30 : decode cX11_letter 30 = .ok (.getfield 67, 3) := by decide +kernel
theorem dX11_letter_33 : decode cX11_letter 33 = .ok (.goto 5, 3) := by decide +kernel
theorem dX11_letter_36 : decode cX11_letter 36 = .ok (.bipush (-104), 2) := by decide +kernel
theorem dX11_letter_38 : decode cX11_letter 38 = .ok (.ireturn, 1) := by decide +kernel
theorem dX11_blank_0 : decode cX11_blank 0 = .ok (.aload_n 0, 1) := by decide +kernel
theorem dX11_blank_1 : decode cX11_blank 1 = .ok (.getfield 13, 3) := by decide +kernel
theorem dX11_blank_4 : decode cX11_blank 4 = .ok (.getfield 67, 3) := by decide +kernel
theorem dX11_blank_7 : decode cX11_blank 7 = .ok (.istore_n 1, 1) := by decide +kernel
theorem dX11_blank_8 : decode cX11_blank 8 = .ok (.aload_n 0, 1) := by decide +kernel
theorem dX11_blank_9 : decode cX11_blank 9 = .ok (.getfield 13, 3) := by decide +kernel
theorem dX11_blank_12 : decode cX11_blank 12 = .ok (.iconst 0, 1) := by decide +kernel
theorem dX11_blank_13 : decode cX11_blank 13 = .ok (.putfield 67, 3) := by decide +kernel
theorem dX11_blank_16 : decode cX11_blank 16 = .ok (.iload_n 1, 1) := by decide +kernel
theorem dX11_blank_17 : decode cX11_blank 17 = .ok (.ireturn, 1) := by decide +kernel
theorem dX11_fault_0 : decode cX11_fault 0 = .ok (.aload_n 0, 1) := by decide +kernel
theorem dX11_fault_1 : decode cX11_fault 1 = .ok (.getfield 13, 3) := by decide +kernel
theorem dX11_fault_4 : decode cX11_fault 4 = .ok (.invokevirtual 71, 3) := by decide +kernel
theorem dX11_fault_7 : decode cX11_fault 7 = .ok (.ireturn, 1) := by decide +kernel
theorem dX11_station_0 : decode cX11_station 0 = .ok (.aload_n 0, 1) := by decide +kernel
theorem dX11_station_1 : decode cX11_station 1 = .ok (.getfield 13, 3) := by decide +kernel
theorem dX11_station_4 : decode cX11_station 4 = .ok (.invokevirtual 75, 3) := by decide +kernel
theorem dX11_station_7 : decode cX11_station 7 = .ok (.ifCond .ne 6, 3) := by decide +kernel
theorem dX11_station_10 : decode cX11_station 10 = .ok (.bipush (-103), 2) := by decide +kernel
theorem dX11_station_12 : decode cX11_station 12 = .ok (.ireturn, 1) := by decide +kernel
theorem dX11_station_13 : decode cX11_station 13 = .ok (.aload_n 0, 1) := by decide +kernel
theorem dX11_station_14 : decode cX11_station 14 = .ok (.getfield 19, 3) := by decide +kernel
theorem dX11_station_17 : decode cX11_station 17 = .ok (.aload_n 0, 1) := by decide +kernel
theorem dX11_station_18 : decode cX11_station 18 = .ok (.getfield 13, 3) := by decide +kernel
theorem dX11_station_21 : decode cX11_station 21 = .ok (.invokevirtual 79, 3) := by decide +kernel
theorem dX11_station_24 : decode cX11_station 24 = .ok (.aload_n 0, 1) := by decide +kernel
theorem dX11_station_25 : decode cX11_station 25 = .ok (.getfield 28, 3) := by decide +kernel
theorem dX11_station_28 : decode cX11_station 28 = .ok (.iconst 0, 1) := by decide +kernel
theorem dX11_station_29 : decode cX11_station 29 = .ok (.invokevirtual 83, 3) := by decide +kernel
theorem dX11_station_32 : decode cX11_station 32 = .ok (.iconst 0, 1) := by decide +kernel
theorem dX11_station_33 : decode cX11_station 33 = .ok (.istore_n 1, 1) := by decide +kernel
theorem dX11_station_34 : decode cX11_station 34 = .ok (.iload_n 1, 1) := by decide +kernel
theorem dX11_station_35 : decode cX11_station 35 = .ok (.iconst 4, 1) := by decide +kernel
theorem dX11_station_36 : decode cX11_station 36 = .ok (.if_icmp .ge 16, 3) := by decide +kernel
theorem dX11_station_39 : decode cX11_station 39 = .ok (.aload_n 0, 1) := by decide +kernel
theorem dX11_station_40 : decode cX11_station 40 = .ok (.getfield 34, 3) := by decide +kernel
theorem dX11_station_43 : decode cX11_station 43 = .ok (.iload_n 1, 1) := by decide +kernel
theorem dX11_station_44 : decode cX11_station 44 = .ok (.aconst_null, 1) := by decide +kernel
theorem dX11_station_45 : decode cX11_station 45 = .ok (.aastore, 1) := by decide +kernel
theorem dX11_station_46 : decode cX11_station 46 = .ok (.iinc 1 1, 3) := by decide +kernel
theorem dX11_station_49 : decode cX11_station 49 = .ok (.goto (-15), 3) := by decide +kernel
theorem dX11_station_52 : decode cX11_station 52 = .ok (.aload_n 0, 1) := by decide +kernel
theorem dX11_station_53 : decode cX11_station 53 = .ok (.getfield 41, 3) := by decide +kernel
theorem dX11_station_56 : decode cX11_station 56 = .ok (.iconst 0, 1) := by decide +kernel
theorem dX11_station_57 : decode cX11_station 57 = .ok (.putfield 87, 3) := by decide +kernel
theorem dX11_station_60 : decode cX11_station 60 = .ok (.aload_n 0, 1) := by decide +kernel
theorem dX11_station_61 : decode cX11_station 61 = .ok (.getfield 59, 3) := by decide +kernel
theorem dX11_station_64 : decode cX11_station 64 = .ok (.iconst 0, 1) := by decide +kernel
theorem dX11_station_65 : decode cX11_station 65 = .ok (.putfield 90, 3) := by decide +kernel
theorem dX11_station_68 : decode cX11_station 68 = .ok (.aload_n 0, 1) := by decide +kernel
theorem dX11_station_69 : decode cX11_station 69 = .ok (.getfield 13, 3) := by decide +kernel
theorem dX11_station_72 : decode cX11_station 72 = .ok (.iconst 0, 1) := by decide +kernel
theorem dX11_station_73 : decode cX11_station 73 = .ok (.putfield 67, 3) := by decide +kernel
theorem dX11_station_76 : decode cX11_station 76 = .ok (.aload_n 0, 1) := by decide +kernel
theorem dX11_station_77 : decode cX11_station 77 = .ok (.dup, 1) := by decide +kernel
theorem dX11_station_78 : decode cX11_station 78 = .ok (.getfield 94, 3) := by decide +kernel
theorem dX11_station_81 : decode cX11_station 81 = .ok (.iconst 1, 1) := by decide +kernel
theorem dX11_station_82 : decode cX11_station 82 = .ok (.iadd, 1) := by decide +kernel
theorem dX11_station_83 : decode cX11_station 83 = .ok (.putfield 94, 3) := by decide +kernel
theorem dX11_station_86 : decode cX11_station 86 = .ok (.aload_n 0, 1) := by decide +kernel
theorem dX11_station_87 : decode cX11_station 87 = .ok (.getfield 19, 3) := by decide +kernel
theorem dX11_station_90 : decode cX11_station 90 = .ok (.getfield 97, 3) := by decide +kernel
theorem dX11_station_93 : decode cX11_station 93 = .ok (.ireturn, 1) := by decide +kernel
theorem dX11_follows_0 : decode cX11_follows 0 = .ok (.iload_n 1, 1) := by decide +kernel
theorem dX11_follows_1 : decode cX11_follows 1 = .ok (.invokestatic 100, 3) := by decide +kernel
theorem dX11_follows_4 : decode cX11_follows 4 = .ok (.ifCond .eq 10, 3) := by decide +kernel
theorem dX11_follows_7 : decode cX11_follows 7 = .ok (.iload_n 2, 1) := by decide +kernel
theorem dX11_follows_8 : decode cX11_follows 8 = .ok (.invokestatic 100, 3) := by decide +kernel
theorem dX11_follows_11 : decode cX11_follows 11 = .ok (.ifCond .ne 6, 3) := by decide +kernel
theorem dX11_follows_14 : decode cX11_follows 14 = .ok (.bipush (-101), 2) := by decide +kernel
theorem dX11_follows_16 : decode cX11_follows 16 = .ok (.ireturn, 1) := by decide +kernel
theorem dX11_follows_17 : decode cX11_follows 17 = .ok (.aload_n 0, 1) := by decide +kernel
theorem dX11_follows_18 : decode cX11_follows 18 = .ok (.getfield 19, 3) := by decide +kernel
theorem dX11_follows_21 : decode cX11_follows 21 = .ok (.invokevirtual 103, 3) := by decide +kernel
theorem dX11_follows_24 : decode cX11_follows 24 = .ok (.ifCond .eq 15, 3) := by decide +kernel
theorem dX11_follows_27 : decode cX11_follows 27 = .ok (.aload_n 0, 1) := by decide +kernel
theorem dX11_follows_28 : decode cX11_follows 28 = .ok (.getfield 19, 3) := by decide +kernel
theorem dX11_follows_31 : decode cX11_follows 31 = .ok (.iload_n 1, 1) := by decide +kernel
theorem dX11_follows_32 : decode cX11_follows 32 = .ok (.iload_n 2, 1) := by decide +kernel
theorem dX11_follows_33 : decode cX11_follows 33 = .ok (.invokevirtual 106, 3) := by decide +kernel
theorem dX11_follows_36 : decode cX11_follows 36 = .ok (.goto 5, 3) := by decide +kernel
theorem dX11_follows_39 : decode cX11_follows 39 = .ok (.bipush (-103), 2) := by decide +kernel
theorem dX11_follows_41 : decode cX11_follows 41 = .ok (.ireturn, 1) := by decide +kernel
theorem dX11_reading_0 : decode cX11_reading 0 = .ok (.iload_n 1, 1) := by decide +kernel
theorem dX11_reading_1 : decode cX11_reading 1 = .ok (.invokestatic 100, 3) := by decide +kernel
theorem dX11_reading_4 : decode cX11_reading 4 = .ok (.ifCond .ne 6, 3) := by decide +kernel
theorem dX11_reading_7 : decode cX11_reading 7 = .ok (.bipush (-101), 2) := by decide +kernel
theorem dX11_reading_9 : decode cX11_reading 9 = .ok (.ireturn, 1) := by decide +kernel
theorem dX11_reading_10 : decode cX11_reading 10 = .ok (.aload_n 0, 1) := by decide +kernel
theorem dX11_reading_11 : decode cX11_reading 11 = .ok (.getfield 19, 3) := by decide +kernel
theorem dX11_reading_14 : decode cX11_reading 14 = .ok (.invokevirtual 103, 3) := by decide +kernel
theorem dX11_reading_17 : decode cX11_reading 17 = .ok (.ifCond .eq 14, 3) := by decide +kernel
theorem dX11_reading_20 : decode cX11_reading 20 = .ok (.aload_n 0, 1) := by decide +kernel
theorem dX11_reading_21 : decode cX11_reading 21 = .ok (.getfield 28, 3) := by decide +kernel
theorem dX11_reading_24 : decode cX11_reading 24 = .ok (.iload_n 1, 1) := by decide +kernel
theorem dX11_reading_25 : decode cX11_reading 25 = .ok (.invokevirtual 110, 3) := by decide +kernel
theorem dX11_reading_28 : decode cX11_reading 28 = .ok (.ifCond .ne 6, 3) := by decide +kernel
theorem dX11_reading_31 : decode cX11_reading 31 = .ok (.bipush (-103), 2) := by decide +kernel
theorem dX11_reading_33 : decode cX11_reading 33 = .ok (.ireturn, 1) := by decide +kernel
theorem dX11_reading_34 : decode cX11_reading 34 = .ok (.aload_n 0, 1) := by decide +kernel
theorem dX11_reading_35 : decode cX11_reading 35 = .ok (.getfield 28, 3) := by decide +kernel
theorem dX11_reading_38 : decode cX11_reading 38 = .ok (.invokevirtual 113, 3) := by decide +kernel
theorem dX11_reading_41 : decode cX11_reading 41 = .ok (.ireturn, 1) := by decide +kernel
theorem dX11_told_0 : decode cX11_told 0 = .ok (.iload_n 1, 1) := by decide +kernel
theorem dX11_told_1 : decode cX11_told 1 = .ok (.iconst 1, 1) := by decide +kernel
theorem dX11_told_2 : decode cX11_told 2 = .ok (.if_icmp .lt 8, 3) := by decide +kernel
theorem dX11_told_5 : decode cX11_told 5 = .ok (.iload_n 1, 1) := by decide +kernel
theorem dX11_told_6 : decode cX11_told 6 = .ok (.iconst 4, 1) := by decide +kernel
theorem dX11_told_7 : decode cX11_told 7 = .ok (.if_icmp .le 6, 3) := by decide +kernel
theorem dX11_told_10 : decode cX11_told 10 = .ok (.bipush (-101), 2) := by decide +kernel
theorem dX11_told_12 : decode cX11_told 12 = .ok (.ireturn, 1) := by decide +kernel
theorem dX11_told_13 : decode cX11_told 13 = .ok (.aload_n 0, 1) := by decide +kernel
theorem dX11_told_14 : decode cX11_told 14 = .ok (.getfield 19, 3) := by decide +kernel
theorem dX11_told_17 : decode cX11_told 17 = .ok (.invokevirtual 103, 3) := by decide +kernel
theorem dX11_told_20 : decode cX11_told 20 = .ok (.ifCond .eq 14, 3) := by decide +kernel
theorem dX11_told_23 : decode cX11_told 23 = .ok (.aload_n 0, 1) := by decide +kernel
theorem dX11_told_24 : decode cX11_told 24 = .ok (.getfield 28, 3) := by decide +kernel
theorem dX11_told_27 : decode cX11_told 27 = .ok (.iload_n 1, 1) := by decide +kernel
theorem dX11_told_28 : decode cX11_told 28 = .ok (.invokevirtual 116, 3) := by decide +kernel
theorem dX11_told_31 : decode cX11_told 31 = .ok (.goto 5, 3) := by decide +kernel
theorem dX11_told_34 : decode cX11_told 34 = .ok (.bipush (-103), 2) := by decide +kernel
theorem dX11_told_36 : decode cX11_told 36 = .ok (.ireturn, 1) := by decide +kernel
theorem dX11_day_0 : decode cX11_day 0 = .ok (.iload_n 1, 1) := by decide +kernel
theorem dX11_day_1 : decode cX11_day 1 = .ok (.invokestatic 100, 3) := by decide +kernel
theorem dX11_day_4 : decode cX11_day 4 = .ok (.ifCond .ne 6, 3) := by decide +kernel
theorem dX11_day_7 : decode cX11_day 7 = .ok (.bipush (-101), 2) := by decide +kernel
theorem dX11_day_9 : decode cX11_day 9 = .ok (.ireturn, 1) := by decide +kernel
theorem dX11_day_10 : decode cX11_day 10 = .ok (.aload_n 0, 1) := by decide +kernel
theorem dX11_day_11 : decode cX11_day 11 = .ok (.getfield 19, 3) := by decide +kernel
theorem dX11_day_14 : decode cX11_day 14 = .ok (.invokevirtual 103, 3) := by decide +kernel
theorem dX11_day_17 : decode cX11_day 17 = .ok (.ifCond .eq 17, 3) := by decide +kernel
theorem dX11_day_20 : decode cX11_day 20 = .ok (.aload_n 0, 1) := by decide +kernel
theorem dX11_day_21 : decode cX11_day 21 = .ok (.getfield 28, 3) := by decide +kernel
theorem dX11_day_24 : decode cX11_day 24 = .ok (.iconst 1, 1) := by decide +kernel
theorem dX11_day_25 : decode cX11_day 25 = .ok (.iload_n 1, 1) := by decide +kernel
theorem dX11_day_26 : decode cX11_day 26 = .ok (.invokevirtual 120, 3) := by decide +kernel
theorem dX11_day_29 : decode cX11_day 29 = .ok (.lconst 0, 1) := by decide +kernel
theorem dX11_day_30 : decode cX11_day 30 = .ok (.lcmp, 1) := by decide +kernel
theorem dX11_day_31 : decode cX11_day 31 = .ok (.ifCond .gt 6, 3) := by decide +kernel
theorem dX11_day_34 : decode cX11_day 34 = .ok (.bipush (-103), 2) := by decide +kernel
theorem dX11_day_36 : decode cX11_day 36 = .ok (.ireturn, 1) := by decide +kernel
theorem dX11_day_37 : decode cX11_day 37 = .ok (.iconst 0, 1) := by decide +kernel
theorem dX11_day_38 : decode cX11_day 38 = .ok (.istore_n 2, 1) := by decide +kernel
theorem dX11_day_39 : decode cX11_day 39 = .ok (.iload_n 2, 1) := by decide +kernel
theorem dX11_day_40 : decode cX11_day 40 = .ok (.iconst 4, 1) := by decide +kernel
theorem dX11_day_41 : decode cX11_day 41 = .ok (.if_icmp .ge 38, 3) := by decide +kernel
theorem dX11_day_44 : decode cX11_day 44 = .ok (.aload_n 0, 1) := by decide +kernel
theorem dX11_day_45 : decode cX11_day 45 = .ok (.getfield 34, 3) := by decide +kernel
theorem dX11_day_48 : decode cX11_day 48 = .ok (.iload_n 2, 1) := by decide +kernel
theorem dX11_day_49 : decode cX11_day 49 = .ok (.aaload, 1) := by decide +kernel
theorem dX11_day_50 : decode cX11_day 50 = .ok (.astore_n 3, 1) := by decide +kernel
theorem dX11_day_51 : decode cX11_day 51 = .ok (.aload_n 3, 1) := by decide +kernel
theorem dX11_day_52 : decode cX11_day 52 = .ok (.ifnull 21, 3) := by decide +kernel
theorem dX11_day_55 : decode cX11_day 55 = .ok (.aload_n 3, 1) := by decide +kernel
theorem dX11_day_56 : decode cX11_day 56 = .ok (.dup, 1) := by decide +kernel
theorem dX11_day_57 : decode cX11_day 57 = .ok (.getfield 124, 3) := by decide +kernel
theorem dX11_day_60 : decode cX11_day 60 = .ok (.aload_n 3, 1) := by decide +kernel
theorem dX11_day_61 : decode cX11_day 61 = .ok (.aload_n 0, 1) := by decide +kernel
theorem dX11_day_62 : decode cX11_day 62 = .ok (.getfield 28, 3) := by decide +kernel
theorem dX11_day_65 : decode cX11_day 65 = .ok (.iload_n 1, 1) := by decide +kernel
theorem dX11_day_66 : decode cX11_day 66 = .ok (.invokevirtual 127, 3) := by decide +kernel
theorem dX11_day_69 : decode cX11_day 69 = .ok (.iadd, 1) := by decide +kernel
theorem dX11_day_70 : decode cX11_day 70 = .ok (.putfield 124, 3) := by decide +kernel
theorem dX11_day_73 : decode cX11_day 73 = .ok (.iinc 2 1, 3) := by decide +kernel
theorem dX11_day_76 : decode cX11_day 76 = .ok (.goto (-37), 3) := by decide +kernel
theorem dX11_day_79 : decode cX11_day 79 = .ok (.aload_n 0, 1) := by decide +kernel
theorem dX11_day_80 : decode cX11_day 80 = .ok (.getfield 28, 3) := by decide +kernel
theorem dX11_day_83 : decode cX11_day 83 = .ok (.iload_n 1, 1) := by decide +kernel
theorem dX11_day_84 : decode cX11_day 84 = .ok (.invokevirtual 131, 3) := by decide +kernel
theorem dX11_day_87 : decode cX11_day 87 = .ok (.aload_n 0, 1) := by decide +kernel
theorem dX11_day_88 : decode cX11_day 88 = .ok (.getfield 28, 3) := by decide +kernel
theorem dX11_day_91 : decode cX11_day 91 = .ok (.getfield 134, 3) := by decide +kernel
theorem dX11_day_94 : decode cX11_day 94 = .ok (.ireturn, 1) := by decide +kernel
theorem dX11_person_0 : decode cX11_person 0 = .ok (.iload_n 1, 1) := by decide +kernel
theorem dX11_person_1 : decode cX11_person 1 = .ok (.ifCond .lt 22, 3) := by decide +kernel
theorem dX11_person_4 : decode cX11_person 4 = .ok (.iload_n 1, 1) := by decide +kernel
theorem dX11_person_5 : decode cX11_person 5 = .ok (.iconst 5, 1) := by decide +kernel
theorem dX11_person_6 : decode cX11_person 6 = .ok (.if_icmp .ge 17, 3) := by decide +kernel
theorem dX11_person_9 : decode cX11_person 9 = .ok (.iload_n 2, 1) := by decide +kernel
theorem dX11_person_10 : decode cX11_person 10 = .ok (.invokestatic 137, 3) := by decide +kernel
theorem dX11_person_13 : decode cX11_person 13 = .ok (.ifCond .eq 10, 3) := by decide +kernel
theorem dX11_person_16 : decode cX11_person 16 = .ok (.iload_n 3, 1) := by decide +kernel
theorem dX11_person_17 : decode cX11_person 17 = .ok (.invokestatic 137, 3) := by decide +kernel
theorem dX11_person_20 : decode cX11_person 20 = .ok (.ifCond .ne 6, 3) := by decide +kernel
theorem dX11_person_23 : decode cX11_person 23 = .ok (.bipush (-102), 2) := by decide +kernel
theorem dX11_person_25 : decode cX11_person 25 = .ok (.ireturn, 1) := by decide +kernel
theorem dX11_person_26 : decode cX11_person 26 = .ok (.aload_n 0, 1) := by decide +kernel
theorem dX11_person_27 : decode cX11_person 27 = .ok (.getfield 19, 3) := by decide +kernel
theorem dX11_person_30 : decode cX11_person 30 = .ok (.invokevirtual 103, 3) := by decide +kernel
theorem dX11_person_33 : decode cX11_person 33 = .ok (.ifCond .ne 6, 3) := by decide +kernel
theorem dX11_person_36 : decode cX11_person 36 = .ok (.bipush (-103), 2) := by decide +kernel
theorem dX11_person_38 : decode cX11_person 38 = .ok (.ireturn, 1) := by decide +kernel
theorem dX11_person_39 : decode cX11_person 39 = .ok (.iconst 0, 1) := by decide +kernel
theorem dX11_person_40 : decode cX11_person 40 = .ok (.istore 4, 2) := by decide +kernel
theorem dX11_person_42 : decode cX11_person 42 = .ok (.iload 4, 2) := by decide +kernel
theorem dX11_person_44 : decode cX11_person 44 = .ok (.iconst 4, 1) := by decide +kernel
theorem dX11_person_45 : decode cX11_person 45 = .ok (.if_icmp .ge 35, 3) := by decide +kernel
theorem dX11_person_48 : decode cX11_person 48 = .ok (.aload_n 0, 1) := by decide +kernel
theorem dX11_person_49 : decode cX11_person 49 = .ok (.getfield 34, 3) := by decide +kernel
theorem dX11_person_52 : decode cX11_person 52 = .ok (.iload 4, 2) := by decide +kernel
theorem dX11_person_54 : decode cX11_person 54 = .ok (.aaload, 1) := by decide +kernel
theorem dX11_person_55 : decode cX11_person 55 = .ok (.ifnonnull 19, 3) := by decide +kernel
theorem dX11_person_58 : decode cX11_person 58 = .ok (.aload_n 0, 1) := by decide +kernel
theorem dX11_person_59 : decode cX11_person 59 = .ok (.getfield 34, 3) := by decide +kernel
theorem dX11_person_62 : decode cX11_person 62 = .ok (.iload 4, 2) := by decide +kernel
theorem dX11_person_64 : decode cX11_person 64 = .ok (.iload_n 1, 1) := by decide +kernel
theorem dX11_person_65 : decode cX11_person 65 = .ok (.iload_n 2, 1) := by decide +kernel
theorem dX11_person_66 : decode cX11_person 66 = .ok (.iload_n 3, 1) := by decide +kernel
theorem dX11_person_67 : decode cX11_person 67 = .ok (.invokestatic 140, 3) := by decide +kernel
theorem dX11_person_70 : decode cX11_person 70 = .ok (.aastore, 1) := by decide +kernel
theorem dX11_person_71 : decode cX11_person 71 = .ok (.iload 4, 2) := by decide +kernel
theorem dX11_person_73 : decode cX11_person 73 = .ok (.ireturn, 1) := by decide +kernel
theorem dX11_person_74 : decode cX11_person 74 = .ok (.iinc 4 1, 3) := by decide +kernel
theorem dX11_person_77 : decode cX11_person 77 = .ok (.goto (-35), 3) := by decide +kernel
theorem dX11_person_80 : decode cX11_person 80 = .ok (.bipush (-104), 2) := by decide +kernel
theorem dX11_person_82 : decode cX11_person 82 = .ok (.ireturn, 1) := by decide +kernel
theorem dX11_about_0 : decode cX11_about 0 = .ok (.aload_n 0, 1) := by decide +kernel
theorem dX11_about_1 : decode cX11_about 1 = .ok (.iload_n 1, 1) := by decide +kernel
theorem dX11_about_2 : decode cX11_about 2 = .ok (.invokevirtual 144, 3) := by decide +kernel
theorem dX11_about_5 : decode cX11_about 5 = .ok (.astore_n 3, 1) := by decide +kernel
theorem dX11_about_6 : decode cX11_about 6 = .ok (.aload_n 3, 1) := by decide +kernel
theorem dX11_about_7 : decode cX11_about 7 = .ok (.ifnonnull 6, 3) := by decide +kernel
theorem dX11_about_10 : decode cX11_about 10 = .ok (.bipush (-101), 2) := by decide +kernel
theorem dX11_about_12 : decode cX11_about 12 = .ok (.ireturn, 1) := by decide +kernel
theorem dX11_about_13 : decode cX11_about 13 = .ok (.iload_n 2, 1) := by decide +kernel
theorem dX11_about_14 : decode cX11_about 14 = .ok (.tableswitch 71 0 4 #[34, 39, 44, 49, 54], 34) := by decide +kernel
theorem dX11_about_48 : decode cX11_about 48 = .ok (.aload_n 3, 1) := by decide +kernel
theorem dX11_about_49 : decode cX11_about 49 = .ok (.invokevirtual 148, 3) := by decide +kernel
theorem dX11_about_52 : decode cX11_about 52 = .ok (.ireturn, 1) := by decide +kernel
theorem dX11_about_53 : decode cX11_about 53 = .ok (.aload_n 3, 1) := by decide +kernel
theorem dX11_about_54 : decode cX11_about 54 = .ok (.getfield 151, 3) := by decide +kernel
theorem dX11_about_57 : decode cX11_about 57 = .ok (.ireturn, 1) := by decide +kernel
theorem dX11_about_58 : decode cX11_about 58 = .ok (.aload_n 3, 1) := by decide +kernel
theorem dX11_about_59 : decode cX11_about 59 = .ok (.getfield 154, 3) := by decide +kernel
theorem dX11_about_62 : decode cX11_about 62 = .ok (.ireturn, 1) := by decide +kernel
theorem dX11_about_63 : decode cX11_about 63 = .ok (.aload_n 3, 1) := by decide +kernel
theorem dX11_about_64 : decode cX11_about 64 = .ok (.getfield 124, 3) := by decide +kernel
theorem dX11_about_67 : decode cX11_about 67 = .ok (.ireturn, 1) := by decide +kernel
theorem dX11_about_68 : decode cX11_about 68 = .ok (.aload_n 3, 1) := by decide +kernel
theorem dX11_about_69 : decode cX11_about 69 = .ok (.aload_n 0, 1) := by decide +kernel
theorem dX11_about_70 : decode cX11_about 70 = .ok (.getfield 28, 3) := by decide +kernel
theorem dX11_about_73 : decode cX11_about 73 = .ok (.invokevirtual 157, 3) := by decide +kernel
theorem dX11_about_76 : decode cX11_about 76 = .ok (.ifCond .eq 7, 3) := by decide +kernel
theorem dX11_about_79 : decode cX11_about 79 = .ok (.iconst 1, 1) := by decide +kernel
theorem dX11_about_80 : decode cX11_about 80 = .ok (.goto 4, 3) := by decide +kernel
theorem dX11_about_83 : decode cX11_about 83 = .ok (.iconst 0, 1) := by decide +kernel
theorem dX11_about_84 : decode cX11_about 84 = .ok (.ireturn, 1) := by decide +kernel
theorem dX11_about_85 : decode cX11_about 85 = .ok (.bipush (-102), 2) := by decide +kernel
theorem dX11_about_87 : decode cX11_about 87 = .ok (.ireturn, 1) := by decide +kernel
theorem dX11_as_0 : decode cX11_as 0 = .ok (.aload_n 0, 1) := by decide +kernel
theorem dX11_as_1 : decode cX11_as 1 = .ok (.iload_n 1, 1) := by decide +kernel
theorem dX11_as_2 : decode cX11_as 2 = .ok (.invokevirtual 144, 3) := by decide +kernel
theorem dX11_as_5 : decode cX11_as 5 = .ok (.astore_n 3, 1) := by decide +kernel
theorem dX11_as_6 : decode cX11_as 6 = .ok (.aload_n 3, 1) := by decide +kernel
theorem dX11_as_7 : decode cX11_as 7 = .ok (.ifnonnull 6, 3) := by decide +kernel
theorem dX11_as_10 : decode cX11_as 10 = .ok (.bipush (-101), 2) := by decide +kernel
theorem dX11_as_12 : decode cX11_as 12 = .ok (.ireturn, 1) := by decide +kernel
theorem dX11_as_13 : decode cX11_as 13 = .ok (.iload_n 2, 1) := by decide +kernel
theorem dX11_as_14 : decode cX11_as 14 = .ok (.ifCond .lt 8, 3) := by decide +kernel
theorem dX11_as_17 : decode cX11_as 17 = .ok (.iload_n 2, 1) := by decide +kernel
theorem dX11_as_18 : decode cX11_as 18 = .ok (.iconst 5, 1) := by decide +kernel
theorem dX11_as_19 : decode cX11_as 19 = .ok (.if_icmp .lt 6, 3) := by decide +kernel
theorem dX11_as_22 : decode cX11_as 22 = .ok (.bipush (-102), 2) := by decide +kernel
theorem dX11_as_24 : decode cX11_as 24 = .ok (.ireturn, 1) := by decide +kernel
theorem dX11_as_25 : decode cX11_as 25 = .ok (.aload_n 3, 1) := by decide +kernel
theorem dX11_as_26 : decode cX11_as 26 = .ok (.iload_n 2, 1) := by decide +kernel
theorem dX11_as_27 : decode cX11_as 27 = .ok (.invokestatic 161, 3) := by decide +kernel
theorem dX11_as_30 : decode cX11_as 30 = .ok (.ifCond .eq 7, 3) := by decide +kernel
theorem dX11_as_33 : decode cX11_as 33 = .ok (.iload_n 1, 1) := by decide +kernel
theorem dX11_as_34 : decode cX11_as 34 = .ok (.goto 4, 3) := by decide +kernel
theorem dX11_as_37 : decode cX11_as 37 = .ok (.iconst (-1), 1) := by decide +kernel
theorem dX11_as_38 : decode cX11_as 38 = .ok (.ireturn, 1) := by decide +kernel
theorem dX11_likely_0 : decode cX11_likely 0 = .ok (.iload_n 1, 1) := by decide +kernel
theorem dX11_likely_1 : decode cX11_likely 1 = .ok (.invokestatic 165, 3) := by decide +kernel
theorem dX11_likely_4 : decode cX11_likely 4 = .ok (.ifCond .eq 10, 3) := by decide +kernel
theorem dX11_likely_7 : decode cX11_likely 7 = .ok (.iload_n 2, 1) := by decide +kernel
theorem dX11_likely_8 : decode cX11_likely 8 = .ok (.invokestatic 100, 3) := by decide +kernel
theorem dX11_likely_11 : decode cX11_likely 11 = .ok (.ifCond .ne 7, 3) := by decide +kernel
theorem dX11_likely_14 : decode cX11_likely 14 = .ok (.ldc2_w 168, 3) := by decide +kernel
theorem dX11_likely_17 : decode cX11_likely 17 = .ok (.lreturn, 1) := by decide +kernel
theorem dX11_likely_18 : decode cX11_likely 18 = .ok (.iload_n 3, 1) := by decide +kernel
theorem dX11_likely_19 : decode cX11_likely 19 = .ok (.invokestatic 170, 3) := by decide +kernel
theorem dX11_likely_22 : decode cX11_likely 22 = .ok (.ifCond .ne 7, 3) := by decide +kernel
theorem dX11_likely_25 : decode cX11_likely 25 = .ok (.ldc2_w 173, 3) := by decide +kernel
theorem dX11_likely_28 : decode cX11_likely 28 = .ok (.lreturn, 1) := by decide +kernel
theorem dX11_likely_29 : decode cX11_likely 29 = .ok (.aload_n 0, 1) := by decide +kernel
theorem dX11_likely_30 : decode cX11_likely 30 = .ok (.getfield 19, 3) := by decide +kernel
theorem dX11_likely_33 : decode cX11_likely 33 = .ok (.invokevirtual 103, 3) := by decide +kernel
theorem dX11_likely_36 : decode cX11_likely 36 = .ok (.ifCond .ne 7, 3) := by decide +kernel
theorem dX11_likely_39 : decode cX11_likely 39 = .ok (.ldc2_w 175, 3) := by decide +kernel
theorem dX11_likely_42 : decode cX11_likely 42 = .ok (.lreturn, 1) := by decide +kernel
theorem dX11_likely_43 : decode cX11_likely 43 = .ok (.aload_n 0, 1) := by decide +kernel
theorem dX11_likely_44 : decode cX11_likely 44 = .ok (.getfield 28, 3) := by decide +kernel
theorem dX11_likely_47 : decode cX11_likely 47 = .ok (.iload_n 1, 1) := by decide +kernel
theorem dX11_likely_48 : decode cX11_likely 48 = .ok (.iload_n 2, 1) := by decide +kernel
theorem dX11_likely_49 : decode cX11_likely 49 = .ok (.invokevirtual 120, 3) := by decide +kernel
theorem dX11_likely_52 : decode cX11_likely 52 = .ok (.aload_n 0, 1) := by decide +kernel
theorem dX11_likely_53 : decode cX11_likely 53 = .ok (.getfield 28, 3) := by decide +kernel
theorem dX11_likely_56 : decode cX11_likely 56 = .ok (.invokevirtual 177, 3) := by decide +kernel
theorem dX11_likely_59 : decode cX11_likely 59 = .ok (.iload_n 3, 1) := by decide +kernel
theorem dX11_likely_60 : decode cX11_likely 60 = .ok (.invokestatic 181, 3) := by decide +kernel
theorem dX11_likely_63 : decode cX11_likely 63 = .ok (.lreturn, 1) := by decide +kernel
theorem dX11_likeliest_0 : decode cX11_likeliest 0 = .ok (.aload_n 0, 1) := by decide +kernel
theorem dX11_likeliest_1 : decode cX11_likeliest 1 = .ok (.getfield 19, 3) := by decide +kernel
theorem dX11_likeliest_4 : decode cX11_likeliest 4 = .ok (.invokevirtual 103, 3) := by decide +kernel
theorem dX11_likeliest_7 : decode cX11_likeliest 7 = .ok (.ifCond .eq 13, 3) := by decide +kernel
theorem dX11_likeliest_10 : decode cX11_likeliest 10 = .ok (.aload_n 0, 1) := by decide +kernel
theorem dX11_likeliest_11 : decode cX11_likeliest 11 = .ok (.getfield 28, 3) := by decide +kernel
theorem dX11_likeliest_14 : decode cX11_likeliest 14 = .ok (.invokevirtual 185, 3) := by decide +kernel
theorem dX11_likeliest_17 : decode cX11_likeliest 17 = .ok (.goto 5, 3) := by decide +kernel
theorem dX11_likeliest_20 : decode cX11_likeliest 20 = .ok (.bipush (-103), 2) := by decide +kernel
theorem dX11_likeliest_22 : decode cX11_likeliest 22 = .ok (.ireturn, 1) := by decide +kernel
theorem dX11_ways_0 : decode cX11_ways 0 = .ok (.aload_n 0, 1) := by decide +kernel
theorem dX11_ways_1 : decode cX11_ways 1 = .ok (.getfield 19, 3) := by decide +kernel
theorem dX11_ways_4 : decode cX11_ways 4 = .ok (.invokevirtual 103, 3) := by decide +kernel
theorem dX11_ways_7 : decode cX11_ways 7 = .ok (.ifCond .eq 13, 3) := by decide +kernel
theorem dX11_ways_10 : decode cX11_ways 10 = .ok (.aload_n 0, 1) := by decide +kernel
theorem dX11_ways_11 : decode cX11_ways 11 = .ok (.getfield 28, 3) := by decide +kernel
theorem dX11_ways_14 : decode cX11_ways 14 = .ok (.invokevirtual 188, 3) := by decide +kernel
theorem dX11_ways_17 : decode cX11_ways 17 = .ok (.goto 5, 3) := by decide +kernel
theorem dX11_ways_20 : decode cX11_ways 20 = .ok (.bipush (-103), 2) := by decide +kernel
theorem dX11_ways_22 : decode cX11_ways 22 = .ok (.ireturn, 1) := by decide +kernel
theorem dX11_sure_0 : decode cX11_sure 0 = .ok (.iload_n 1, 1) := by decide +kernel
theorem dX11_sure_1 : decode cX11_sure 1 = .ok (.invokestatic 165, 3) := by decide +kernel
theorem dX11_sure_4 : decode cX11_sure 4 = .ok (.ifCond .ne 6, 3) := by decide +kernel
theorem dX11_sure_7 : decode cX11_sure 7 = .ok (.bipush (-101), 2) := by decide +kernel
theorem dX11_sure_9 : decode cX11_sure 9 = .ok (.ireturn, 1) := by decide +kernel
theorem dX11_sure_10 : decode cX11_sure 10 = .ok (.aload_n 0, 1) := by decide +kernel
theorem dX11_sure_11 : decode cX11_sure 11 = .ok (.getfield 19, 3) := by decide +kernel
theorem dX11_sure_14 : decode cX11_sure 14 = .ok (.invokevirtual 103, 3) := by decide +kernel
theorem dX11_sure_17 : decode cX11_sure 17 = .ok (.ifCond .eq 14, 3) := by decide +kernel
theorem dX11_sure_20 : decode cX11_sure 20 = .ok (.aload_n 0, 1) := by decide +kernel
theorem dX11_sure_21 : decode cX11_sure 21 = .ok (.getfield 28, 3) := by decide +kernel
theorem dX11_sure_24 : decode cX11_sure 24 = .ok (.iload_n 1, 1) := by decide +kernel
theorem dX11_sure_25 : decode cX11_sure 25 = .ok (.invokevirtual 191, 3) := by decide +kernel
theorem dX11_sure_28 : decode cX11_sure 28 = .ok (.goto 5, 3) := by decide +kernel
theorem dX11_sure_31 : decode cX11_sure 31 = .ok (.bipush (-103), 2) := by decide +kernel
theorem dX11_sure_33 : decode cX11_sure 33 = .ok (.ireturn, 1) := by decide +kernel
theorem dX11_look_0 : decode cX11_look 0 = .ok (.iload_n 1, 1) := by decide +kernel
theorem dX11_look_1 : decode cX11_look 1 = .ok (.invokestatic 137, 3) := by decide +kernel
theorem dX11_look_4 : decode cX11_look 4 = .ok (.ifCond .eq 17, 3) := by decide +kernel
theorem dX11_look_7 : decode cX11_look 7 = .ok (.iload_n 2, 1) := by decide +kernel
theorem dX11_look_8 : decode cX11_look 8 = .ok (.invokestatic 137, 3) := by decide +kernel
theorem dX11_look_11 : decode cX11_look 11 = .ok (.ifCond .eq 10, 3) := by decide +kernel
theorem dX11_look_14 : decode cX11_look 14 = .ok (.iload_n 3, 1) := by decide +kernel
theorem dX11_look_15 : decode cX11_look 15 = .ok (.invokestatic 170, 3) := by decide +kernel
theorem dX11_look_18 : decode cX11_look 18 = .ok (.ifCond .ne 7, 3) := by decide +kernel
theorem dX11_look_21 : decode cX11_look 21 = .ok (.ldc2_w 173, 3) := by decide +kernel
theorem dX11_look_24 : decode cX11_look 24 = .ok (.lreturn, 1) := by decide +kernel
theorem dX11_look_25 : decode cX11_look 25 = .ok (.aload_n 0, 1) := by decide +kernel
theorem dX11_look_26 : decode cX11_look 26 = .ok (.getfield 19, 3) := by decide +kernel
theorem dX11_look_29 : decode cX11_look 29 = .ok (.invokevirtual 103, 3) := by decide +kernel
theorem dX11_look_32 : decode cX11_look 32 = .ok (.ifCond .ne 7, 3) := by decide +kernel
theorem dX11_look_35 : decode cX11_look 35 = .ok (.ldc2_w 175, 3) := by decide +kernel
theorem dX11_look_38 : decode cX11_look 38 = .ok (.lreturn, 1) := by decide +kernel
theorem dX11_look_39 : decode cX11_look 39 = .ok (.ldc2_w 194, 3) := by decide +kernel
theorem dX11_look_42 : decode cX11_look 42 = .ok (.aload_n 0, 1) := by decide +kernel
theorem dX11_look_43 : decode cX11_look 43 = .ok (.getfield 28, 3) := by decide +kernel
theorem dX11_look_46 : decode cX11_look 46 = .ok (.iconst (-1), 1) := by decide +kernel
theorem dX11_look_47 : decode cX11_look 47 = .ok (.iload_n 1, 1) := by decide +kernel
theorem dX11_look_48 : decode cX11_look 48 = .ok (.iload_n 2, 1) := by decide +kernel
theorem dX11_look_49 : decode cX11_look 49 = .ok (.invokevirtual 196, 3) := by decide +kernel
theorem dX11_look_52 : decode cX11_look 52 = .ok (.lmul, 1) := by decide +kernel
theorem dX11_look_53 : decode cX11_look 53 = .ok (.lstore 4, 2) := by decide +kernel
theorem dX11_look_55 : decode cX11_look 55 = .ok (.lconst 0, 1) := by decide +kernel
theorem dX11_look_56 : decode cX11_look 56 = .ok (.lstore 6, 2) := by decide +kernel
theorem dX11_look_58 : decode cX11_look 58 = .ok (.iconst 0, 1) := by decide +kernel
theorem dX11_look_59 : decode cX11_look 59 = .ok (.istore 8, 2) := by decide +kernel
theorem dX11_look_61 : decode cX11_look 61 = .ok (.iload 8, 2) := by decide +kernel
theorem dX11_look_63 : decode cX11_look 63 = .ok (.iconst 3, 1) := by decide +kernel
theorem dX11_look_64 : decode cX11_look 64 = .ok (.if_icmp .ge 25, 3) := by decide +kernel
theorem dX11_look_67 : decode cX11_look 67 = .ok (.lload 6, 2) := by decide +kernel
theorem dX11_look_69 : decode cX11_look 69 = .ok (.aload_n 0, 1) := by decide +kernel
theorem dX11_look_70 : decode cX11_look 70 = .ok (.getfield 28, 3) := by decide +kernel
theorem dX11_look_73 : decode cX11_look 73 = .ok (.iload 8, 2) := by decide +kernel
theorem dX11_look_75 : decode cX11_look 75 = .ok (.iload_n 1, 1) := by decide +kernel
theorem dX11_look_76 : decode cX11_look 76 = .ok (.iload_n 2, 1) := by decide +kernel
theorem dX11_look_77 : decode cX11_look 77 = .ok (.invokevirtual 196, 3) := by decide +kernel
theorem dX11_look_80 : decode cX11_look 80 = .ok (.ladd, 1) := by decide +kernel
theorem dX11_look_81 : decode cX11_look 81 = .ok (.lstore 6, 2) := by decide +kernel
theorem dX11_look_83 : decode cX11_look 83 = .ok (.iinc 8 1, 3) := by decide +kernel
theorem dX11_look_86 : decode cX11_look 86 = .ok (.goto (-25), 3) := by decide +kernel
theorem dX11_look_89 : decode cX11_look 89 = .ok (.lload 4, 2) := by decide +kernel
theorem dX11_look_91 : decode cX11_look 91 = .ok (.lload 6, 2) := by decide +kernel
theorem dX11_look_93 : decode cX11_look 93 = .ok (.lsub, 1) := by decide +kernel
theorem dX11_look_94 : decode cX11_look 94 = .ok (.ldc2_w 194, 3) := by decide +kernel
theorem dX11_look_97 : decode cX11_look 97 = .ok (.aload_n 0, 1) := by decide +kernel
theorem dX11_look_98 : decode cX11_look 98 = .ok (.getfield 28, 3) := by decide +kernel
theorem dX11_look_101 : decode cX11_look 101 = .ok (.invokevirtual 177, 3) := by decide +kernel
theorem dX11_look_104 : decode cX11_look 104 = .ok (.lmul, 1) := by decide +kernel
theorem dX11_look_105 : decode cX11_look 105 = .ok (.iload_n 3, 1) := by decide +kernel
theorem dX11_look_106 : decode cX11_look 106 = .ok (.invokestatic 181, 3) := by decide +kernel
theorem dX11_look_109 : decode cX11_look 109 = .ok (.lreturn, 1) := by decide +kernel
theorem dX11_book_0 : decode cX11_book 0 = .ok (.iload_n 1, 1) := by decide +kernel
theorem dX11_book_1 : decode cX11_book 1 = .ok (.invokestatic 100, 3) := by decide +kernel
theorem dX11_book_4 : decode cX11_book 4 = .ok (.ifCond .eq 15, 3) := by decide +kernel
theorem dX11_book_7 : decode cX11_book 7 = .ok (.iload_n 2, 1) := by decide +kernel
theorem dX11_book_8 : decode cX11_book 8 = .ok (.iconst (-1), 1) := by decide +kernel
theorem dX11_book_9 : decode cX11_book 9 = .ok (.if_icmp .eq 13, 3) := by decide +kernel
theorem dX11_book_12 : decode cX11_book 12 = .ok (.iload_n 2, 1) := by decide +kernel
theorem dX11_book_13 : decode cX11_book 13 = .ok (.invokestatic 100, 3) := by decide +kernel
theorem dX11_book_16 : decode cX11_book 16 = .ok (.ifCond .ne 6, 3) := by decide +kernel
theorem dX11_book_19 : decode cX11_book 19 = .ok (.bipush (-101), 2) := by decide +kernel
theorem dX11_book_21 : decode cX11_book 21 = .ok (.ireturn, 1) := by decide +kernel
theorem dX11_book_22 : decode cX11_book 22 = .ok (.aload_n 0, 1) := by decide +kernel
theorem dX11_book_23 : decode cX11_book 23 = .ok (.getfield 41, 3) := by decide +kernel
theorem dX11_book_26 : decode cX11_book 26 = .ok (.iload_n 1, 1) := by decide +kernel
theorem dX11_book_27 : decode cX11_book 27 = .ok (.iload_n 2, 1) := by decide +kernel
theorem dX11_book_28 : decode cX11_book 28 = .ok (.invokevirtual 200, 3) := by decide +kernel
theorem dX11_book_31 : decode cX11_book 31 = .ok (.ifCond .eq 13, 3) := by decide +kernel
theorem dX11_book_34 : decode cX11_book 34 = .ok (.aload_n 0, 1) := by decide +kernel
theorem dX11_book_35 : decode cX11_book 35 = .ok (.getfield 41, 3) := by decide +kernel
theorem dX11_book_38 : decode cX11_book 38 = .ok (.getfield 87, 3) := by decide +kernel
theorem dX11_book_41 : decode cX11_book 41 = .ok (.goto 5, 3) := by decide +kernel
theorem dX11_book_44 : decode cX11_book 44 = .ok (.bipush (-104), 2) := by decide +kernel
theorem dX11_book_46 : decode cX11_book 46 = .ok (.ireturn, 1) := by decide +kernel
theorem dX11_forget_0 : decode cX11_forget 0 = .ok (.aload_n 0, 1) := by decide +kernel
theorem dX11_forget_1 : decode cX11_forget 1 = .ok (.getfield 41, 3) := by decide +kernel
theorem dX11_forget_4 : decode cX11_forget 4 = .ok (.getfield 87, 3) := by decide +kernel
theorem dX11_forget_7 : decode cX11_forget 7 = .ok (.istore_n 1, 1) := by decide +kernel
theorem dX11_forget_8 : decode cX11_forget 8 = .ok (.aload_n 0, 1) := by decide +kernel
theorem dX11_forget_9 : decode cX11_forget 9 = .ok (.getfield 41, 3) := by decide +kernel
theorem dX11_forget_12 : decode cX11_forget 12 = .ok (.iconst 0, 1) := by decide +kernel
theorem dX11_forget_13 : decode cX11_forget 13 = .ok (.putfield 87, 3) := by decide +kernel
theorem dX11_forget_16 : decode cX11_forget 16 = .ok (.iload_n 1, 1) := by decide +kernel
theorem dX11_forget_17 : decode cX11_forget 17 = .ok (.ireturn, 1) := by decide +kernel
theorem dX11_wrong_0 : decode cX11_wrong 0 = .ok (.iload_n 1, 1) := by decide +kernel
theorem dX11_wrong_1 : decode cX11_wrong 1 = .ok (.ifCond .lt 8, 3) := by decide +kernel
theorem dX11_wrong_4 : decode cX11_wrong 4 = .ok (.iload_n 1, 1) := by decide +kernel
theorem dX11_wrong_5 : decode cX11_wrong 5 = .ok (.iconst 4, 1) := by decide +kernel
theorem dX11_wrong_6 : decode cX11_wrong 6 = .ok (.if_icmp .le 8, 3) := by decide +kernel
theorem dX11_wrong_9 : decode cX11_wrong 9 = .ok (.bipush (-102), 2) := by decide +kernel
theorem dX11_wrong_11 : decode cX11_wrong 11 = .ok (.goto 11, 3) := by decide +kernel
theorem dX11_wrong_14 : decode cX11_wrong 14 = .ok (.aload_n 0, 1) := by decide +kernel
theorem dX11_wrong_15 : decode cX11_wrong 15 = .ok (.getfield 41, 3) := by decide +kernel
theorem dX11_wrong_18 : decode cX11_wrong 18 = .ok (.iload_n 1, 1) := by decide +kernel
theorem dX11_wrong_19 : decode cX11_wrong 19 = .ok (.invokevirtual 203, 3) := by decide +kernel
theorem dX11_wrong_22 : decode cX11_wrong 22 = .ok (.ireturn, 1) := by decide +kernel
theorem dX11_earliest_0 : decode cX11_earliest 0 = .ok (.iconst (-1), 1) := by decide +kernel
theorem dX11_earliest_1 : decode cX11_earliest 1 = .ok (.istore_n 1, 1) := by decide +kernel
theorem dX11_earliest_2 : decode cX11_earliest 2 = .ok (.iconst 0, 1) := by decide +kernel
theorem dX11_earliest_3 : decode cX11_earliest 3 = .ok (.istore_n 2, 1) := by decide +kernel
theorem dX11_earliest_4 : decode cX11_earliest 4 = .ok (.iload_n 2, 1) := by decide +kernel
theorem dX11_earliest_5 : decode cX11_earliest 5 = .ok (.iconst 4, 1) := by decide +kernel
theorem dX11_earliest_6 : decode cX11_earliest 6 = .ok (.if_icmp .gt 56, 3) := by decide +kernel
theorem dX11_earliest_9 : decode cX11_earliest 9 = .ok (.iload_n 1, 1) := by decide +kernel
theorem dX11_earliest_10 : decode cX11_earliest 10 = .ok (.iconst (-1), 1) := by decide +kernel
theorem dX11_earliest_11 : decode cX11_earliest 11 = .ok (.if_icmp .eq 22, 3) := by decide +kernel
theorem dX11_earliest_14 : decode cX11_earliest 14 = .ok (.aload_n 0, 1) := by decide +kernel
theorem dX11_earliest_15 : decode cX11_earliest 15 = .ok (.getfield 41, 3) := by decide +kernel
theorem dX11_earliest_18 : decode cX11_earliest 18 = .ok (.iload_n 2, 1) := by decide +kernel
theorem dX11_earliest_19 : decode cX11_earliest 19 = .ok (.invokevirtual 203, 3) := by decide +kernel
theorem dX11_earliest_22 : decode cX11_earliest 22 = .ok (.aload_n 0, 1) := by decide +kernel
theorem dX11_earliest_23 : decode cX11_earliest 23 = .ok (.getfield 41, 3) := by decide +kernel
theorem dX11_earliest_26 : decode cX11_earliest 26 = .ok (.iload_n 1, 1) := by decide +kernel
theorem dX11_earliest_27 : decode cX11_earliest 27 = .ok (.invokevirtual 203, 3) := by decide +kernel
theorem dX11_earliest_30 : decode cX11_earliest 30 = .ok (.if_icmp .ge 7, 3) := by decide +kernel
theorem dX11_earliest_33 : decode cX11_earliest 33 = .ok (.iconst 1, 1) := by decide +kernel
theorem dX11_earliest_34 : decode cX11_earliest 34 = .ok (.goto 4, 3) := by decide +kernel
theorem dX11_earliest_37 : decode cX11_earliest 37 = .ok (.iconst 0, 1) := by decide +kernel
theorem dX11_earliest_38 : decode cX11_earliest 38 = .ok (.istore_n 3, 1) := by decide +kernel
theorem dX11_earliest_39 : decode cX11_earliest 39 = .ok (.aload_n 0, 1) := by decide +kernel
theorem dX11_earliest_40 : decode cX11_earliest 40 = .ok (.getfield 41, 3) := by decide +kernel
theorem dX11_earliest_43 : decode cX11_earliest 43 = .ok (.iload_n 2, 1) := by decide +kernel
theorem dX11_earliest_44 : decode cX11_earliest 44 = .ok (.invokevirtual 206, 3) := by decide +kernel
theorem dX11_earliest_47 : decode cX11_earliest 47 = .ok (.ifCond .le 9, 3) := by decide +kernel
theorem dX11_earliest_50 : decode cX11_earliest 50 = .ok (.iload_n 3, 1) := by decide +kernel
theorem dX11_earliest_51 : decode cX11_earliest 51 = .ok (.ifCond .eq 5, 3) := by decide +kernel
theorem dX11_earliest_54 : decode cX11_earliest 54 = .ok (.iload_n 2, 1) := by decide +kernel
theorem dX11_earliest_55 : decode cX11_earliest 55 = .ok (.istore_n 1, 1) := by decide +kernel
theorem dX11_earliest_56 : decode cX11_earliest 56 = .ok (.iinc 2 1, 3) := by decide +kernel
theorem dX11_earliest_59 : decode cX11_earliest 59 = .ok (.goto (-55), 3) := by decide +kernel
theorem dX11_earliest_62 : decode cX11_earliest 62 = .ok (.iload_n 1, 1) := by decide +kernel
theorem dX11_earliest_63 : decode cX11_earliest 63 = .ok (.ireturn, 1) := by decide +kernel
theorem dX11_days_0 : decode cX11_days 0 = .ok (.iload_n 1, 1) := by decide +kernel
theorem dX11_days_1 : decode cX11_days 1 = .ok (.iconst 1, 1) := by decide +kernel
theorem dX11_days_2 : decode cX11_days 2 = .ok (.if_icmp .lt 22, 3) := by decide +kernel
theorem dX11_days_5 : decode cX11_days 5 = .ok (.iload_n 1, 1) := by decide +kernel
theorem dX11_days_6 : decode cX11_days 6 = .ok (.bipush 30, 2) := by decide +kernel
theorem dX11_days_8 : decode cX11_days 8 = .ok (.if_icmp .gt 16, 3) := by decide +kernel
theorem dX11_days_11 : decode cX11_days 11 = .ok (.iload_n 2, 1) := by decide +kernel
theorem dX11_days_12 : decode cX11_days 12 = .ok (.ifCond .lt 12, 3) := by decide +kernel
theorem dX11_days_15 : decode cX11_days 15 = .ok (.iload_n 3, 1) := by decide +kernel
theorem dX11_days_16 : decode cX11_days 16 = .ok (.ifCond .lt 8, 3) := by decide +kernel
theorem dX11_days_19 : decode cX11_days 19 = .ok (.iload_n 3, 1) := by decide +kernel
theorem dX11_days_20 : decode cX11_days 20 = .ok (.iconst 3, 1) := by decide +kernel
theorem dX11_days_21 : decode cX11_days 21 = .ok (.if_icmp .le 6, 3) := by decide +kernel
theorem dX11_days_24 : decode cX11_days 24 = .ok (.bipush (-102), 2) := by decide +kernel
theorem dX11_days_26 : decode cX11_days 26 = .ok (.ireturn, 1) := by decide +kernel
theorem dX11_days_27 : decode cX11_days 27 = .ok (.aload_n 0, 1) := by decide +kernel
theorem dX11_days_28 : decode cX11_days 28 = .ok (.getfield 19, 3) := by decide +kernel
theorem dX11_days_31 : decode cX11_days 31 = .ok (.invokevirtual 103, 3) := by decide +kernel
theorem dX11_days_34 : decode cX11_days 34 = .ok (.ifCond .ne 6, 3) := by decide +kernel
theorem dX11_days_37 : decode cX11_days 37 = .ok (.bipush (-103), 2) := by decide +kernel
theorem dX11_days_39 : decode cX11_days 39 = .ok (.ireturn, 1) := by decide +kernel
theorem dX11_days_40 : decode cX11_days 40 = .ok (.aload_n 0, 1) := by decide +kernel
theorem dX11_days_41 : decode cX11_days 41 = .ok (.getfield 50, 3) := by decide +kernel
theorem dX11_days_44 : decode cX11_days 44 = .ok (.iload_n 2, 1) := by decide +kernel
theorem dX11_days_45 : decode cX11_days 45 = .ok (.aload_n 0, 1) := by decide +kernel
theorem dX11_days_46 : decode cX11_days 46 = .ok (.getfield 28, 3) := by decide +kernel
theorem dX11_days_49 : decode cX11_days 49 = .ok (.getfield 209, 3) := by decide +kernel
theorem dX11_days_52 : decode cX11_days 52 = .ok (.invokevirtual 212, 3) := by decide +kernel
theorem dX11_days_55 : decode cX11_days 55 = .ok (.iconst 0, 1) := by decide +kernel
theorem dX11_days_56 : decode cX11_days 56 = .ok (.istore 4, 2) := by decide +kernel
theorem dX11_days_58 : decode cX11_days 58 = .ok (.iload 4, 2) := by decide +kernel
theorem dX11_days_60 : decode cX11_days 60 = .ok (.iload_n 1, 1) := by decide +kernel
theorem dX11_days_61 : decode cX11_days 61 = .ok (.if_icmp .ge 27, 3) := by decide +kernel
theorem dX11_days_64 : decode cX11_days 64 = .ok (.aload_n 0, 1) := by decide +kernel
theorem dX11_days_65 : decode cX11_days 65 = .ok (.getfield 50, 3) := by decide +kernel
theorem dX11_days_68 : decode cX11_days 68 = .ok (.invokevirtual 216, 3) := by decide +kernel
theorem dX11_days_71 : decode cX11_days 71 = .ok (.aload_n 0, 1) := by decide +kernel
theorem dX11_days_72 : decode cX11_days 72 = .ok (.getfield 50, 3) := by decide +kernel
theorem dX11_days_75 : decode cX11_days 75 = .ok (.aload_n 0, 1) := by decide +kernel
theorem dX11_days_76 : decode cX11_days 76 = .ok (.getfield 34, 3) := by decide +kernel
theorem dX11_days_79 : decode cX11_days 79 = .ok (.invokevirtual 219, 3) := by decide +kernel
theorem dX11_days_82 : decode cX11_days 82 = .ok (.iinc 4 1, 3) := by decide +kernel
theorem dX11_days_85 : decode cX11_days 85 = .ok (.goto (-27), 3) := by decide +kernel
theorem dX11_days_88 : decode cX11_days 88 = .ok (.iload_n 3, 1) := by decide +kernel
theorem dX11_days_89 : decode cX11_days 89 = .ok (.tableswitch 51 0 2 #[27, 35, 43], 27) := by decide +kernel
theorem dX11_days_116 : decode cX11_days 116 = .ok (.aload_n 0, 1) := by decide +kernel
theorem dX11_days_117 : decode cX11_days 117 = .ok (.getfield 50, 3) := by decide +kernel
theorem dX11_days_120 : decode cX11_days 120 = .ok (.getfield 223, 3) := by decide +kernel
theorem dX11_days_123 : decode cX11_days 123 = .ok (.ireturn, 1) := by decide +kernel
theorem dX11_days_124 : decode cX11_days 124 = .ok (.aload_n 0, 1) := by decide +kernel
theorem dX11_days_125 : decode cX11_days 125 = .ok (.getfield 50, 3) := by decide +kernel
theorem dX11_days_128 : decode cX11_days 128 = .ok (.getfield 226, 3) := by decide +kernel
theorem dX11_days_131 : decode cX11_days 131 = .ok (.ireturn, 1) := by decide +kernel
theorem dX11_days_132 : decode cX11_days 132 = .ok (.aload_n 0, 1) := by decide +kernel
theorem dX11_days_133 : decode cX11_days 133 = .ok (.getfield 50, 3) := by decide +kernel
theorem dX11_days_136 : decode cX11_days 136 = .ok (.getfield 227, 3) := by decide +kernel
theorem dX11_days_139 : decode cX11_days 139 = .ok (.ireturn, 1) := by decide +kernel
theorem dX11_days_140 : decode cX11_days 140 = .ok (.aload_n 0, 1) := by decide +kernel
theorem dX11_days_141 : decode cX11_days 141 = .ok (.getfield 50, 3) := by decide +kernel
theorem dX11_days_144 : decode cX11_days 144 = .ok (.getfield 230, 3) := by decide +kernel
theorem dX11_days_147 : decode cX11_days 147 = .ok (.l2i, 1) := by decide +kernel
theorem dX11_days_148 : decode cX11_days 148 = .ok (.ireturn, 1) := by decide +kernel
theorem dX11_image_0 : decode cX11_image 0 = .ok (.aload_n 0, 1) := by decide +kernel
theorem dX11_image_1 : decode cX11_image 1 = .ok (.getfield 19, 3) := by decide +kernel
theorem dX11_image_4 : decode cX11_image 4 = .ok (.invokevirtual 103, 3) := by decide +kernel
theorem dX11_image_7 : decode cX11_image 7 = .ok (.ifCond .ne 6, 3) := by decide +kernel
theorem dX11_image_10 : decode cX11_image 10 = .ok (.bipush (-103), 2) := by decide +kernel
theorem dX11_image_12 : decode cX11_image 12 = .ok (.ireturn, 1) := by decide +kernel
theorem dX11_image_13 : decode cX11_image 13 = .ok (.aload_n 0, 1) := by decide +kernel
theorem dX11_image_14 : decode cX11_image 14 = .ok (.getfield 59, 3) := by decide +kernel
theorem dX11_image_17 : decode cX11_image 17 = .ok (.getfield 234, 3) := by decide +kernel
theorem dX11_image_20 : decode cX11_image 20 = .ok (.aload_n 0, 1) := by decide +kernel
theorem dX11_image_21 : decode cX11_image 21 = .ok (.getfield 28, 3) := by decide +kernel
theorem dX11_image_24 : decode cX11_image 24 = .ok (.invokevirtual 235, 3) := by decide +kernel
theorem dX11_image_27 : decode cX11_image 27 = .ok (.aload_n 0, 1) := by decide +kernel
theorem dX11_image_28 : decode cX11_image 28 = .ok (.getfield 59, 3) := by decide +kernel
theorem dX11_image_31 : decode cX11_image 31 = .ok (.getfield 239, 3) := by decide +kernel
theorem dX11_image_34 : decode cX11_image 34 = .ok (.aload_n 0, 1) := by decide +kernel
theorem dX11_image_35 : decode cX11_image 35 = .ok (.getfield 41, 3) := by decide +kernel
theorem dX11_image_38 : decode cX11_image 38 = .ok (.invokevirtual 240, 3) := by decide +kernel
theorem dX11_image_41 : decode cX11_image 41 = .ok (.aload_n 0, 1) := by decide +kernel
theorem dX11_image_42 : decode cX11_image 42 = .ok (.getfield 59, 3) := by decide +kernel
theorem dX11_image_45 : decode cX11_image 45 = .ok (.aload_n 0, 1) := by decide +kernel
theorem dX11_image_46 : decode cX11_image 46 = .ok (.invokevirtual 243, 3) := by decide +kernel
theorem dX11_image_49 : decode cX11_image 49 = .ok (.putfield 246, 3) := by decide +kernel
theorem dX11_image_52 : decode cX11_image 52 = .ok (.iconst 0, 1) := by decide +kernel
theorem dX11_image_53 : decode cX11_image 53 = .ok (.istore_n 1, 1) := by decide +kernel
theorem dX11_image_54 : decode cX11_image 54 = .ok (.iload_n 1, 1) := by decide +kernel
theorem dX11_image_55 : decode cX11_image 55 = .ok (.iconst 4, 1) := by decide +kernel
theorem dX11_image_56 : decode cX11_image 56 = .ok (.if_icmp .ge 37, 3) := by decide +kernel
theorem dX11_image_59 : decode cX11_image 59 = .ok (.aload_n 0, 1) := by decide +kernel
theorem dX11_image_60 : decode cX11_image 60 = .ok (.getfield 34, 3) := by decide +kernel
theorem dX11_image_63 : decode cX11_image 63 = .ok (.iload_n 1, 1) := by decide +kernel
theorem dX11_image_64 : decode cX11_image 64 = .ok (.aaload, 1) := by decide +kernel
theorem dX11_image_65 : decode cX11_image 65 = .ok (.astore_n 2, 1) := by decide +kernel
theorem dX11_image_66 : decode cX11_image 66 = .ok (.aload_n 0, 1) := by decide +kernel
theorem dX11_image_67 : decode cX11_image 67 = .ok (.getfield 59, 3) := by decide +kernel
theorem dX11_image_70 : decode cX11_image 70 = .ok (.getfield 248, 3) := by decide +kernel
theorem dX11_image_73 : decode cX11_image 73 = .ok (.iload_n 1, 1) := by decide +kernel
theorem dX11_image_74 : decode cX11_image 74 = .ok (.aload_n 2, 1) := by decide +kernel
theorem dX11_image_75 : decode cX11_image 75 = .ok (.ifnonnull 7, 3) := by decide +kernel
theorem dX11_image_78 : decode cX11_image 78 = .ok (.iconst 0, 1) := by decide +kernel
theorem dX11_image_79 : decode cX11_image 79 = .ok (.goto 7, 3) := by decide +kernel
theorem dX11_image_82 : decode cX11_image 82 = .ok (.aload_n 2, 1) := by decide +kernel
theorem dX11_image_83 : decode cX11_image 83 = .ok (.getfield 124, 3) := by decide +kernel
theorem dX11_image_86 : decode cX11_image 86 = .ok (.iastore, 1) := by decide +kernel
theorem dX11_image_87 : decode cX11_image 87 = .ok (.iinc 1 1, 3) := by decide +kernel
theorem dX11_image_90 : decode cX11_image 90 = .ok (.goto (-36), 3) := by decide +kernel
theorem dX11_image_93 : decode cX11_image 93 = .ok (.aload_n 0, 1) := by decide +kernel
theorem dX11_image_94 : decode cX11_image 94 = .ok (.getfield 59, 3) := by decide +kernel
theorem dX11_image_97 : decode cX11_image 97 = .ok (.iconst 1, 1) := by decide +kernel
theorem dX11_image_98 : decode cX11_image 98 = .ok (.putfield 90, 3) := by decide +kernel
theorem dX11_image_101 : decode cX11_image 101 = .ok (.aload_n 0, 1) := by decide +kernel
theorem dX11_image_102 : decode cX11_image 102 = .ok (.getfield 28, 3) := by decide +kernel
theorem dX11_image_105 : decode cX11_image 105 = .ok (.getfield 134, 3) := by decide +kernel
theorem dX11_image_108 : decode cX11_image 108 = .ok (.ireturn, 1) := by decide +kernel
theorem dX11_restore_0 : decode cX11_restore 0 = .ok (.aload_n 0, 1) := by decide +kernel
theorem dX11_restore_1 : decode cX11_restore 1 = .ok (.getfield 59, 3) := by decide +kernel
theorem dX11_restore_4 : decode cX11_restore 4 = .ok (.getfield 90, 3) := by decide +kernel
theorem dX11_restore_7 : decode cX11_restore 7 = .ok (.ifCond .ne 6, 3) := by decide +kernel
theorem dX11_restore_10 : decode cX11_restore 10 = .ok (.bipush (-103), 2) := by decide +kernel
theorem dX11_restore_12 : decode cX11_restore 12 = .ok (.ireturn, 1) := by decide +kernel
theorem dX11_restore_13 : decode cX11_restore 13 = .ok (.aload_n 0, 1) := by decide +kernel
theorem dX11_restore_14 : decode cX11_restore 14 = .ok (.getfield 28, 3) := by decide +kernel
theorem dX11_restore_17 : decode cX11_restore 17 = .ok (.aload_n 0, 1) := by decide +kernel
theorem dX11_restore_18 : decode cX11_restore 18 = .ok (.getfield 59, 3) := by decide +kernel
theorem dX11_restore_21 : decode cX11_restore 21 = .ok (.getfield 234, 3) := by decide +kernel
theorem dX11_restore_24 : decode cX11_restore 24 = .ok (.invokevirtual 235, 3) := by decide +kernel
theorem dX11_restore_27 : decode cX11_restore 27 = .ok (.aload_n 0, 1) := by decide +kernel
theorem dX11_restore_28 : decode cX11_restore 28 = .ok (.getfield 41, 3) := by decide +kernel
theorem dX11_restore_31 : decode cX11_restore 31 = .ok (.aload_n 0, 1) := by decide +kernel
theorem dX11_restore_32 : decode cX11_restore 32 = .ok (.getfield 59, 3) := by decide +kernel
theorem dX11_restore_35 : decode cX11_restore 35 = .ok (.getfield 239, 3) := by decide +kernel
theorem dX11_restore_38 : decode cX11_restore 38 = .ok (.invokevirtual 240, 3) := by decide +kernel
theorem dX11_restore_41 : decode cX11_restore 41 = .ok (.iconst 0, 1) := by decide +kernel
theorem dX11_restore_42 : decode cX11_restore 42 = .ok (.istore_n 1, 1) := by decide +kernel
theorem dX11_restore_43 : decode cX11_restore 43 = .ok (.iload_n 1, 1) := by decide +kernel
theorem dX11_restore_44 : decode cX11_restore 44 = .ok (.iconst 4, 1) := by decide +kernel
theorem dX11_restore_45 : decode cX11_restore 45 = .ok (.if_icmp .ge 54, 3) := by decide +kernel
theorem dX11_restore_48 : decode cX11_restore 48 = .ok (.aload_n 0, 1) := by decide +kernel
theorem dX11_restore_49 : decode cX11_restore 49 = .ok (.getfield 34, 3) := by decide +kernel
theorem dX11_restore_52 : decode cX11_restore 52 = .ok (.iload_n 1, 1) := by decide +kernel
theorem dX11_restore_53 : decode cX11_restore 53 = .ok (.aaload, 1) := by decide +kernel
theorem dX11_restore_54 : decode cX11_restore 54 = .ok (.astore_n 2, 1) := by decide +kernel
theorem dX11_restore_55 : decode cX11_restore 55 = .ok (.iload_n 1, 1) := by decide +kernel
theorem dX11_restore_56 : decode cX11_restore 56 = .ok (.aload_n 0, 1) := by decide +kernel
theorem dX11_restore_57 : decode cX11_restore 57 = .ok (.getfield 59, 3) := by decide +kernel
theorem dX11_restore_60 : decode cX11_restore 60 = .ok (.getfield 246, 3) := by decide +kernel
theorem dX11_restore_63 : decode cX11_restore 63 = .ok (.if_icmp .lt 13, 3) := by decide +kernel
theorem dX11_restore_66 : decode cX11_restore 66 = .ok (.aload_n 0, 1) := by decide +kernel
theorem dX11_restore_67 : decode cX11_restore 67 = .ok (.getfield 34, 3) := by decide +kernel
theorem dX11_restore_70 : decode cX11_restore 70 = .ok (.iload_n 1, 1) := by decide +kernel
theorem dX11_restore_71 : decode cX11_restore 71 = .ok (.aconst_null, 1) := by decide +kernel
theorem dX11_restore_72 : decode cX11_restore 72 = .ok (.aastore, 1) := by decide +kernel
theorem dX11_restore_73 : decode cX11_restore 73 = .ok (.goto 20, 3) := by decide +kernel
theorem dX11_restore_76 : decode cX11_restore 76 = .ok (.aload_n 2, 1) := by decide +kernel
theorem dX11_restore_77 : decode cX11_restore 77 = .ok (.ifnull 16, 3) := by decide +kernel
theorem dX11_restore_80 : decode cX11_restore 80 = .ok (.aload_n 2, 1) := by decide +kernel
theorem dX11_restore_81 : decode cX11_restore 81 = .ok (.aload_n 0, 1) := by decide +kernel
theorem dX11_restore_82 : decode cX11_restore 82 = .ok (.getfield 59, 3) := by decide +kernel
theorem dX11_restore_85 : decode cX11_restore 85 = .ok (.getfield 248, 3) := by decide +kernel
theorem dX11_restore_88 : decode cX11_restore 88 = .ok (.iload_n 1, 1) := by decide +kernel
theorem dX11_restore_89 : decode cX11_restore 89 = .ok (.iaload, 1) := by decide +kernel
theorem dX11_restore_90 : decode cX11_restore 90 = .ok (.putfield 124, 3) := by decide +kernel
theorem dX11_restore_93 : decode cX11_restore 93 = .ok (.iinc 1 1, 3) := by decide +kernel
theorem dX11_restore_96 : decode cX11_restore 96 = .ok (.goto (-53), 3) := by decide +kernel
theorem dX11_restore_99 : decode cX11_restore 99 = .ok (.aload_n 0, 1) := by decide +kernel
theorem dX11_restore_100 : decode cX11_restore 100 = .ok (.getfield 28, 3) := by decide +kernel
theorem dX11_restore_103 : decode cX11_restore 103 = .ok (.getfield 134, 3) := by decide +kernel
theorem dX11_restore_106 : decode cX11_restore 106 = .ok (.ireturn, 1) := by decide +kernel
theorem dX11_count_0 : decode cX11_count 0 = .ok (.iload_n 1, 1) := by decide +kernel
theorem dX11_count_1 : decode cX11_count 1 = .ok (.tableswitch 126 0 9 #[55, 63, 71, 79, 87, 95, 100, 105, 113, 121], 55) := by decide +kernel
theorem dX11_count_56 : decode cX11_count 56 = .ok (.aload_n 0, 1) := by decide +kernel
theorem dX11_count_57 : decode cX11_count 57 = .ok (.getfield 19, 3) := by decide +kernel
theorem dX11_count_60 : decode cX11_count 60 = .ok (.getfield 97, 3) := by decide +kernel
theorem dX11_count_63 : decode cX11_count 63 = .ok (.ireturn, 1) := by decide +kernel
theorem dX11_count_64 : decode cX11_count 64 = .ok (.aload_n 0, 1) := by decide +kernel
theorem dX11_count_65 : decode cX11_count 65 = .ok (.getfield 19, 3) := by decide +kernel
theorem dX11_count_68 : decode cX11_count 68 = .ok (.getfield 251, 3) := by decide +kernel
theorem dX11_count_71 : decode cX11_count 71 = .ok (.ireturn, 1) := by decide +kernel
theorem dX11_count_72 : decode cX11_count 72 = .ok (.aload_n 0, 1) := by decide +kernel
theorem dX11_count_73 : decode cX11_count 73 = .ok (.getfield 28, 3) := by decide +kernel
theorem dX11_count_76 : decode cX11_count 76 = .ok (.getfield 134, 3) := by decide +kernel
theorem dX11_count_79 : decode cX11_count 79 = .ok (.ireturn, 1) := by decide +kernel
theorem dX11_count_80 : decode cX11_count 80 = .ok (.aload_n 0, 1) := by decide +kernel
theorem dX11_count_81 : decode cX11_count 81 = .ok (.getfield 28, 3) := by decide +kernel
theorem dX11_count_84 : decode cX11_count 84 = .ok (.getfield 209, 3) := by decide +kernel
theorem dX11_count_87 : decode cX11_count 87 = .ok (.ireturn, 1) := by decide +kernel
theorem dX11_count_88 : decode cX11_count 88 = .ok (.aload_n 0, 1) := by decide +kernel
theorem dX11_count_89 : decode cX11_count 89 = .ok (.getfield 28, 3) := by decide +kernel
theorem dX11_count_92 : decode cX11_count 92 = .ok (.invokevirtual 113, 3) := by decide +kernel
theorem dX11_count_95 : decode cX11_count 95 = .ok (.ireturn, 1) := by decide +kernel
theorem dX11_count_96 : decode cX11_count 96 = .ok (.aload_n 0, 1) := by decide +kernel
theorem dX11_count_97 : decode cX11_count 97 = .ok (.invokevirtual 243, 3) := by decide +kernel
theorem dX11_count_100 : decode cX11_count 100 = .ok (.ireturn, 1) := by decide +kernel
theorem dX11_count_101 : decode cX11_count 101 = .ok (.aload_n 0, 1) := by decide +kernel
theorem dX11_count_102 : decode cX11_count 102 = .ok (.invokevirtual 254, 3) := by decide +kernel
theorem dX11_count_105 : decode cX11_count 105 = .ok (.ireturn, 1) := by decide +kernel
theorem dX11_count_106 : decode cX11_count 106 = .ok (.aload_n 0, 1) := by decide +kernel
theorem dX11_count_107 : decode cX11_count 107 = .ok (.getfield 41, 3) := by decide +kernel
theorem dX11_count_110 : decode cX11_count 110 = .ok (.getfield 87, 3) := by decide +kernel
theorem dX11_count_113 : decode cX11_count 113 = .ok (.ireturn, 1) := by decide +kernel
theorem dX11_count_114 : decode cX11_count 114 = .ok (.aload_n 0, 1) := by decide +kernel
theorem dX11_count_115 : decode cX11_count 115 = .ok (.getfield 13, 3) := by decide +kernel
theorem dX11_count_118 : decode cX11_count 118 = .ok (.getfield 67, 3) := by decide +kernel
theorem dX11_count_121 : decode cX11_count 121 = .ok (.ireturn, 1) := by decide +kernel
theorem dX11_count_122 : decode cX11_count 122 = .ok (.aload_n 0, 1) := by decide +kernel
theorem dX11_count_123 : decode cX11_count 123 = .ok (.getfield 94, 3) := by decide +kernel
theorem dX11_count_126 : decode cX11_count 126 = .ok (.ireturn, 1) := by decide +kernel
theorem dX11_count_127 : decode cX11_count 127 = .ok (.bipush (-102), 2) := by decide +kernel
theorem dX11_count_129 : decode cX11_count 129 = .ok (.ireturn, 1) := by decide +kernel
theorem dX11_digest_0 : decode cX11_digest 0 = .ok (.aload_n 0, 1) := by decide +kernel
theorem dX11_digest_1 : decode cX11_digest 1 = .ok (.ldc2_w 257, 3) := by decide +kernel
theorem dX11_digest_4 : decode cX11_digest 4 = .ok (.invokevirtual 259, 3) := by decide +kernel
theorem dX11_digest_7 : decode cX11_digest 7 = .ok (.lstore_n 1, 1) := by decide +kernel
theorem dX11_digest_8 : decode cX11_digest 8 = .ok (.aload_n 0, 1) := by decide +kernel
theorem dX11_digest_9 : decode cX11_digest 9 = .ok (.getfield 19, 3) := by decide +kernel
theorem dX11_digest_12 : decode cX11_digest 12 = .ok (.invokevirtual 103, 3) := by decide +kernel
theorem dX11_digest_15 : decode cX11_digest 15 = .ok (.ifCond .eq 9, 3) := by decide +kernel
theorem dX11_digest_18 : decode cX11_digest 18 = .ok (.aload_n 0, 1) := by decide +kernel
theorem dX11_digest_19 : decode cX11_digest 19 = .ok (.lload_n 1, 1) := by decide +kernel
theorem dX11_digest_20 : decode cX11_digest 20 = .ok (.invokevirtual 263, 3) := by decide +kernel
theorem dX11_digest_23 : decode cX11_digest 23 = .ok (.lstore_n 1, 1) := by decide +kernel
theorem dX11_digest_24 : decode cX11_digest 24 = .ok (.iconst 0, 1) := by decide +kernel
theorem dX11_digest_25 : decode cX11_digest 25 = .ok (.istore_n 3, 1) := by decide +kernel
theorem dX11_digest_26 : decode cX11_digest 26 = .ok (.iload_n 3, 1) := by decide +kernel
theorem dX11_digest_27 : decode cX11_digest 27 = .ok (.iconst 4, 1) := by decide +kernel
theorem dX11_digest_28 : decode cX11_digest 28 = .ok (.if_icmp .gt 22, 3) := by decide +kernel
theorem dX11_digest_31 : decode cX11_digest 31 = .ok (.ldc2_w 266, 3) := by decide +kernel
theorem dX11_digest_34 : decode cX11_digest 34 = .ok (.lload_n 1, 1) := by decide +kernel
theorem dX11_digest_35 : decode cX11_digest 35 = .ok (.lmul, 1) := by decide +kernel
theorem dX11_digest_36 : decode cX11_digest 36 = .ok (.aload_n 0, 1) := by decide +kernel
theorem dX11_digest_37 : decode cX11_digest 37 = .ok (.iload_n 3, 1) := by decide +kernel
theorem dX11_digest_38 : decode cX11_digest 38 = .ok (.invokevirtual 268, 3) := by decide +kernel
theorem dX11_digest_41 : decode cX11_digest 41 = .ok (.i2l, 1) := by decide +kernel
theorem dX11_digest_42 : decode cX11_digest 42 = .ok (.ladd, 1) := by decide +kernel
theorem dX11_digest_43 : decode cX11_digest 43 = .ok (.lstore_n 1, 1) := by decide +kernel
theorem dX11_digest_44 : decode cX11_digest 44 = .ok (.iinc 3 1, 3) := by decide +kernel
theorem dX11_digest_47 : decode cX11_digest 47 = .ok (.goto (-21), 3) := by decide +kernel
theorem dX11_digest_50 : decode cX11_digest 50 = .ok (.ldc2_w 266, 3) := by decide +kernel
theorem dX11_digest_53 : decode cX11_digest 53 = .ok (.lload_n 1, 1) := by decide +kernel
theorem dX11_digest_54 : decode cX11_digest 54 = .ok (.lmul, 1) := by decide +kernel
theorem dX11_digest_55 : decode cX11_digest 55 = .ok (.aload_n 0, 1) := by decide +kernel
theorem dX11_digest_56 : decode cX11_digest 56 = .ok (.invokevirtual 271, 3) := by decide +kernel
theorem dX11_digest_59 : decode cX11_digest 59 = .ok (.i2l, 1) := by decide +kernel
theorem dX11_digest_60 : decode cX11_digest 60 = .ok (.ladd, 1) := by decide +kernel
theorem dX11_digest_61 : decode cX11_digest 61 = .ok (.lstore_n 1, 1) := by decide +kernel
theorem dX11_digest_62 : decode cX11_digest 62 = .ok (.iconst 0, 1) := by decide +kernel
theorem dX11_digest_63 : decode cX11_digest 63 = .ok (.istore_n 3, 1) := by decide +kernel
theorem dX11_digest_64 : decode cX11_digest 64 = .ok (.iload_n 3, 1) := by decide +kernel
theorem dX11_digest_65 : decode cX11_digest 65 = .ok (.aload_n 0, 1) := by decide +kernel
theorem dX11_digest_66 : decode cX11_digest 66 = .ok (.getfield 13, 3) := by decide +kernel
theorem dX11_digest_69 : decode cX11_digest 69 = .ok (.getfield 67, 3) := by decide +kernel
theorem dX11_digest_72 : decode cX11_digest 72 = .ok (.if_icmp .ge 25, 3) := by decide +kernel
theorem dX11_digest_75 : decode cX11_digest 75 = .ok (.ldc2_w 266, 3) := by decide +kernel
theorem dX11_digest_78 : decode cX11_digest 78 = .ok (.lload_n 1, 1) := by decide +kernel
theorem dX11_digest_79 : decode cX11_digest 79 = .ok (.lmul, 1) := by decide +kernel
theorem dX11_digest_80 : decode cX11_digest 80 = .ok (.aload_n 0, 1) := by decide +kernel
theorem dX11_digest_81 : decode cX11_digest 81 = .ok (.getfield 13, 3) := by decide +kernel
theorem dX11_digest_84 : decode cX11_digest 84 = .ok (.iload_n 3, 1) := by decide +kernel
theorem dX11_digest_85 : decode cX11_digest 85 = .ok (.invokevirtual 274, 3) := by decide +kernel
theorem dX11_digest_88 : decode cX11_digest 88 = .ok (.i2l, 1) := by decide +kernel
theorem dX11_digest_89 : decode cX11_digest 89 = .ok (.ladd, 1) := by decide +kernel
theorem dX11_digest_90 : decode cX11_digest 90 = .ok (.lstore_n 1, 1) := by decide +kernel
theorem dX11_digest_91 : decode cX11_digest 91 = .ok (.iinc 3 1, 3) := by decide +kernel
theorem dX11_digest_94 : decode cX11_digest 94 = .ok (.goto (-30), 3) := by decide +kernel
theorem dX11_digest_97 : decode cX11_digest 97 = .ok (.iconst 0, 1) := by decide +kernel
theorem dX11_digest_98 : decode cX11_digest 98 = .ok (.istore_n 3, 1) := by decide +kernel
theorem dX11_digest_99 : decode cX11_digest 99 = .ok (.iload_n 3, 1) := by decide +kernel
theorem dX11_digest_100 : decode cX11_digest 100 = .ok (.bipush 10, 2) := by decide +kernel
theorem dX11_digest_102 : decode cX11_digest 102 = .ok (.if_icmp .ge 22, 3) := by decide +kernel
theorem dX11_digest_105 : decode cX11_digest 105 = .ok (.ldc2_w 266, 3) := by decide +kernel
theorem dX11_digest_108 : decode cX11_digest 108 = .ok (.lload_n 1, 1) := by decide +kernel
theorem dX11_digest_109 : decode cX11_digest 109 = .ok (.lmul, 1) := by decide +kernel
theorem dX11_digest_110 : decode cX11_digest 110 = .ok (.aload_n 0, 1) := by decide +kernel
theorem dX11_digest_111 : decode cX11_digest 111 = .ok (.iload_n 3, 1) := by decide +kernel
theorem dX11_digest_112 : decode cX11_digest 112 = .ok (.invokevirtual 277, 3) := by decide +kernel
theorem dX11_digest_115 : decode cX11_digest 115 = .ok (.i2l, 1) := by decide +kernel
theorem dX11_digest_116 : decode cX11_digest 116 = .ok (.ladd, 1) := by decide +kernel
theorem dX11_digest_117 : decode cX11_digest 117 = .ok (.lstore_n 1, 1) := by decide +kernel
theorem dX11_digest_118 : decode cX11_digest 118 = .ok (.iinc 3 1, 3) := by decide +kernel
theorem dX11_digest_121 : decode cX11_digest 121 = .ok (.goto (-22), 3) := by decide +kernel
theorem dX11_digest_124 : decode cX11_digest 124 = .ok (.lload_n 1, 1) := by decide +kernel
theorem dX11_digest_125 : decode cX11_digest 125 = .ok (.lreturn, 1) := by decide +kernel
theorem dX11_digestOfPeople_0 : decode cX11_digestOfPeople 0 = .ok (.lload_n 1, 1) := by decide +kernel
theorem dX11_digestOfPeople_1 : decode cX11_digestOfPeople 1 = .ok (.lstore_n 3, 1) := by decide +kernel
theorem dX11_digestOfPeople_2 : decode cX11_digestOfPeople 2 = .ok (.aload_n 0, 1) := by decide +kernel
theorem dX11_digestOfPeople_3 : decode cX11_digestOfPeople 3 = .ok (.invokevirtual 243, 3) := by decide +kernel
theorem dX11_digestOfPeople_6 : decode cX11_digestOfPeople 6 = .ok (.istore 5, 2) := by decide +kernel
theorem dX11_digestOfPeople_8 : decode cX11_digestOfPeople 8 = .ok (.iconst 0, 1) := by decide +kernel
theorem dX11_digestOfPeople_9 : decode cX11_digestOfPeople 9 = .ok (.istore 6, 2) := by decide +kernel
theorem dX11_digestOfPeople_11 : decode cX11_digestOfPeople 11 = .ok (.iload 6, 2) := by decide +kernel
theorem dX11_digestOfPeople_13 : decode cX11_digestOfPeople 13 = .ok (.iload 5, 2) := by decide +kernel
theorem dX11_digestOfPeople_15 : decode cX11_digestOfPeople 15 = .ok (.if_icmp .ge 40, 3) := by decide +kernel
theorem dX11_digestOfPeople_18 : decode cX11_digestOfPeople 18 = .ok (.iconst 0, 1) := by decide +kernel
theorem dX11_digestOfPeople_19 : decode cX11_digestOfPeople 19 = .ok (.istore 7, 2) := by decide +kernel
theorem dX11_digestOfPeople_21 : decode cX11_digestOfPeople 21 = .ok (.iload 7, 2) := by decide +kernel
theorem dX11_digestOfPeople_23 : decode cX11_digestOfPeople 23 = .ok (.iconst 5, 1) := by decide +kernel
theorem dX11_digestOfPeople_24 : decode cX11_digestOfPeople 24 = .ok (.if_icmp .ge 25, 3) := by decide +kernel
theorem dX11_digestOfPeople_27 : decode cX11_digestOfPeople 27 = .ok (.ldc2_w 266, 3) := by decide +kernel
theorem dX11_digestOfPeople_30 : decode cX11_digestOfPeople 30 = .ok (.lload_n 3, 1) := by decide +kernel
theorem dX11_digestOfPeople_31 : decode cX11_digestOfPeople 31 = .ok (.lmul, 1) := by decide +kernel
theorem dX11_digestOfPeople_32 : decode cX11_digestOfPeople 32 = .ok (.aload_n 0, 1) := by decide +kernel
theorem dX11_digestOfPeople_33 : decode cX11_digestOfPeople 33 = .ok (.iload 6, 2) := by decide +kernel
theorem dX11_digestOfPeople_35 : decode cX11_digestOfPeople 35 = .ok (.iload 7, 2) := by decide +kernel
theorem dX11_digestOfPeople_37 : decode cX11_digestOfPeople 37 = .ok (.invokevirtual 280, 3) := by decide +kernel
theorem dX11_digestOfPeople_40 : decode cX11_digestOfPeople 40 = .ok (.i2l, 1) := by decide +kernel
theorem dX11_digestOfPeople_41 : decode cX11_digestOfPeople 41 = .ok (.ladd, 1) := by decide +kernel
theorem dX11_digestOfPeople_42 : decode cX11_digestOfPeople 42 = .ok (.lstore_n 3, 1) := by decide +kernel
theorem dX11_digestOfPeople_43 : decode cX11_digestOfPeople 43 = .ok (.iinc 7 1, 3) := by decide +kernel
theorem dX11_digestOfPeople_46 : decode cX11_digestOfPeople 46 = .ok (.goto (-25), 3) := by decide +kernel
theorem dX11_digestOfPeople_49 : decode cX11_digestOfPeople 49 = .ok (.iinc 6 1, 3) := by decide +kernel
theorem dX11_digestOfPeople_52 : decode cX11_digestOfPeople 52 = .ok (.goto (-41), 3) := by decide +kernel
theorem dX11_digestOfPeople_55 : decode cX11_digestOfPeople 55 = .ok (.lload_n 3, 1) := by decide +kernel
theorem dX11_digestOfPeople_56 : decode cX11_digestOfPeople 56 = .ok (.lreturn, 1) := by decide +kernel
theorem dX11_digestOfComing_0 : decode cX11_digestOfComing 0 = .ok (.lload_n 1, 1) := by decide +kernel
theorem dX11_digestOfComing_1 : decode cX11_digestOfComing 1 = .ok (.lstore_n 3, 1) := by decide +kernel
theorem dX11_digestOfComing_2 : decode cX11_digestOfComing 2 = .ok (.iconst 1, 1) := by decide +kernel
theorem dX11_digestOfComing_3 : decode cX11_digestOfComing 3 = .ok (.istore 5, 2) := by decide +kernel
theorem dX11_digestOfComing_5 : decode cX11_digestOfComing 5 = .ok (.iload 5, 2) := by decide +kernel
theorem dX11_digestOfComing_7 : decode cX11_digestOfComing 7 = .ok (.iconst 4, 1) := by decide +kernel
theorem dX11_digestOfComing_8 : decode cX11_digestOfComing 8 = .ok (.if_icmp .gt 23, 3) := by decide +kernel
theorem dX11_digestOfComing_11 : decode cX11_digestOfComing 11 = .ok (.ldc2_w 266, 3) := by decide +kernel
theorem dX11_digestOfComing_14 : decode cX11_digestOfComing 14 = .ok (.lload_n 3, 1) := by decide +kernel
theorem dX11_digestOfComing_15 : decode cX11_digestOfComing 15 = .ok (.lmul, 1) := by decide +kernel
theorem dX11_digestOfComing_16 : decode cX11_digestOfComing 16 = .ok (.aload_n 0, 1) := by decide +kernel
theorem dX11_digestOfComing_17 : decode cX11_digestOfComing 17 = .ok (.iload 5, 2) := by decide +kernel
theorem dX11_digestOfComing_19 : decode cX11_digestOfComing 19 = .ok (.invokevirtual 283, 3) := by decide +kernel
theorem dX11_digestOfComing_22 : decode cX11_digestOfComing 22 = .ok (.i2l, 1) := by decide +kernel
theorem dX11_digestOfComing_23 : decode cX11_digestOfComing 23 = .ok (.ladd, 1) := by decide +kernel
theorem dX11_digestOfComing_24 : decode cX11_digestOfComing 24 = .ok (.lstore_n 3, 1) := by decide +kernel
theorem dX11_digestOfComing_25 : decode cX11_digestOfComing 25 = .ok (.iinc 5 1, 3) := by decide +kernel
theorem dX11_digestOfComing_28 : decode cX11_digestOfComing 28 = .ok (.goto (-23), 3) := by decide +kernel
theorem dX11_digestOfComing_31 : decode cX11_digestOfComing 31 = .ok (.aload_n 0, 1) := by decide +kernel
theorem dX11_digestOfComing_32 : decode cX11_digestOfComing 32 = .ok (.lload_n 3, 1) := by decide +kernel
theorem dX11_digestOfComing_33 : decode cX11_digestOfComing 33 = .ok (.iconst 1, 1) := by decide +kernel
theorem dX11_digestOfComing_34 : decode cX11_digestOfComing 34 = .ok (.invokevirtual 286, 3) := by decide +kernel
theorem dX11_digestOfComing_37 : decode cX11_digestOfComing 37 = .ok (.lstore_n 3, 1) := by decide +kernel
theorem dX11_digestOfComing_38 : decode cX11_digestOfComing 38 = .ok (.aload_n 0, 1) := by decide +kernel
theorem dX11_digestOfComing_39 : decode cX11_digestOfComing 39 = .ok (.lload_n 3, 1) := by decide +kernel
theorem dX11_digestOfComing_40 : decode cX11_digestOfComing 40 = .ok (.bipush 6, 2) := by decide +kernel
theorem dX11_digestOfComing_42 : decode cX11_digestOfComing 42 = .ok (.invokevirtual 286, 3) := by decide +kernel
theorem dX11_digestOfComing_45 : decode cX11_digestOfComing 45 = .ok (.lstore_n 3, 1) := by decide +kernel
theorem dX11_digestOfComing_46 : decode cX11_digestOfComing 46 = .ok (.ldc2_w 266, 3) := by decide +kernel
theorem dX11_digestOfComing_49 : decode cX11_digestOfComing 49 = .ok (.lload_n 3, 1) := by decide +kernel
theorem dX11_digestOfComing_50 : decode cX11_digestOfComing 50 = .ok (.lmul, 1) := by decide +kernel
theorem dX11_digestOfComing_51 : decode cX11_digestOfComing 51 = .ok (.aload_n 0, 1) := by decide +kernel
theorem dX11_digestOfComing_52 : decode cX11_digestOfComing 52 = .ok (.invokevirtual 290, 3) := by decide +kernel
theorem dX11_digestOfComing_55 : decode cX11_digestOfComing 55 = .ok (.i2l, 1) := by decide +kernel
theorem dX11_digestOfComing_56 : decode cX11_digestOfComing 56 = .ok (.ladd, 1) := by decide +kernel
theorem dX11_digestOfComing_57 : decode cX11_digestOfComing 57 = .ok (.lstore_n 3, 1) := by decide +kernel
theorem dX11_digestOfComing_58 : decode cX11_digestOfComing 58 = .ok (.ldc2_w 266, 3) := by decide +kernel
theorem dX11_digestOfComing_61 : decode cX11_digestOfComing 61 = .ok (.lload_n 3, 1) := by decide +kernel
theorem dX11_digestOfComing_62 : decode cX11_digestOfComing 62 = .ok (.lmul, 1) := by decide +kernel
theorem dX11_digestOfComing_63 : decode cX11_digestOfComing 63 = .ok (.aload_n 0, 1) := by decide +kernel
theorem dX11_digestOfComing_64 : decode cX11_digestOfComing 64 = .ok (.invokevirtual 293, 3) := by decide +kernel
theorem dX11_digestOfComing_67 : decode cX11_digestOfComing 67 = .ok (.i2l, 1) := by decide +kernel
theorem dX11_digestOfComing_68 : decode cX11_digestOfComing 68 = .ok (.ladd, 1) := by decide +kernel
theorem dX11_digestOfComing_69 : decode cX11_digestOfComing 69 = .ok (.lstore_n 3, 1) := by decide +kernel
theorem dX11_digestOfComing_70 : decode cX11_digestOfComing 70 = .ok (.ldc2_w 266, 3) := by decide +kernel
theorem dX11_digestOfComing_73 : decode cX11_digestOfComing 73 = .ok (.lload_n 3, 1) := by decide +kernel
theorem dX11_digestOfComing_74 : decode cX11_digestOfComing 74 = .ok (.lmul, 1) := by decide +kernel
theorem dX11_digestOfComing_75 : decode cX11_digestOfComing 75 = .ok (.aload_n 0, 1) := by decide +kernel
theorem dX11_digestOfComing_76 : decode cX11_digestOfComing 76 = .ok (.iconst 1, 1) := by decide +kernel
theorem dX11_digestOfComing_77 : decode cX11_digestOfComing 77 = .ok (.invokevirtual 296, 3) := by decide +kernel
theorem dX11_digestOfComing_80 : decode cX11_digestOfComing 80 = .ok (.i2l, 1) := by decide +kernel
theorem dX11_digestOfComing_81 : decode cX11_digestOfComing 81 = .ok (.ladd, 1) := by decide +kernel
theorem dX11_digestOfComing_82 : decode cX11_digestOfComing 82 = .ok (.lstore_n 3, 1) := by decide +kernel
theorem dX11_digestOfComing_83 : decode cX11_digestOfComing 83 = .ok (.ldc2_w 266, 3) := by decide +kernel
theorem dX11_digestOfComing_86 : decode cX11_digestOfComing 86 = .ok (.lload_n 3, 1) := by decide +kernel
theorem dX11_digestOfComing_87 : decode cX11_digestOfComing 87 = .ok (.lmul, 1) := by decide +kernel
theorem dX11_digestOfComing_88 : decode cX11_digestOfComing 88 = .ok (.aload_n 0, 1) := by decide +kernel
theorem dX11_digestOfComing_89 : decode cX11_digestOfComing 89 = .ok (.iconst 2, 1) := by decide +kernel
theorem dX11_digestOfComing_90 : decode cX11_digestOfComing 90 = .ok (.iconst 5, 1) := by decide +kernel
theorem dX11_digestOfComing_91 : decode cX11_digestOfComing 91 = .ok (.iconst 0, 1) := by decide +kernel
theorem dX11_digestOfComing_92 : decode cX11_digestOfComing 92 = .ok (.invokevirtual 299, 3) := by decide +kernel
theorem dX11_digestOfComing_95 : decode cX11_digestOfComing 95 = .ok (.ladd, 1) := by decide +kernel
theorem dX11_digestOfComing_96 : decode cX11_digestOfComing 96 = .ok (.lstore_n 3, 1) := by decide +kernel
theorem dX11_digestOfComing_97 : decode cX11_digestOfComing 97 = .ok (.ldc2_w 266, 3) := by decide +kernel
theorem dX11_digestOfComing_100 : decode cX11_digestOfComing 100 = .ok (.lload_n 3, 1) := by decide +kernel
theorem dX11_digestOfComing_101 : decode cX11_digestOfComing 101 = .ok (.lmul, 1) := by decide +kernel
theorem dX11_digestOfComing_102 : decode cX11_digestOfComing 102 = .ok (.aload_n 0, 1) := by decide +kernel
theorem dX11_digestOfComing_103 : decode cX11_digestOfComing 103 = .ok (.iconst 2, 1) := by decide +kernel
theorem dX11_digestOfComing_104 : decode cX11_digestOfComing 104 = .ok (.iconst 5, 1) := by decide +kernel
theorem dX11_digestOfComing_105 : decode cX11_digestOfComing 105 = .ok (.iconst 1, 1) := by decide +kernel
theorem dX11_digestOfComing_106 : decode cX11_digestOfComing 106 = .ok (.invokevirtual 299, 3) := by decide +kernel
theorem dX11_digestOfComing_109 : decode cX11_digestOfComing 109 = .ok (.ladd, 1) := by decide +kernel
theorem dX11_digestOfComing_110 : decode cX11_digestOfComing 110 = .ok (.lreturn, 1) := by decide +kernel
theorem dX11_digestOfLikely_0 : decode cX11_digestOfLikely 0 = .ok (.lload_n 1, 1) := by decide +kernel
theorem dX11_digestOfLikely_1 : decode cX11_digestOfLikely 1 = .ok (.lstore 4, 2) := by decide +kernel
theorem dX11_digestOfLikely_3 : decode cX11_digestOfLikely 3 = .ok (.iconst 0, 1) := by decide +kernel
theorem dX11_digestOfLikely_4 : decode cX11_digestOfLikely 4 = .ok (.istore 6, 2) := by decide +kernel
theorem dX11_digestOfLikely_6 : decode cX11_digestOfLikely 6 = .ok (.iload 6, 2) := by decide +kernel
theorem dX11_digestOfLikely_8 : decode cX11_digestOfLikely 8 = .ok (.iconst 3, 1) := by decide +kernel
theorem dX11_digestOfLikely_9 : decode cX11_digestOfLikely 9 = .ok (.if_icmp .ge 43, 3) := by decide +kernel
theorem dX11_digestOfLikely_12 : decode cX11_digestOfLikely 12 = .ok (.ldc2_w 266, 3) := by decide +kernel
theorem dX11_digestOfLikely_15 : decode cX11_digestOfLikely 15 = .ok (.lload 4, 2) := by decide +kernel
theorem dX11_digestOfLikely_17 : decode cX11_digestOfLikely 17 = .ok (.lmul, 1) := by decide +kernel
theorem dX11_digestOfLikely_18 : decode cX11_digestOfLikely 18 = .ok (.aload_n 0, 1) := by decide +kernel
theorem dX11_digestOfLikely_19 : decode cX11_digestOfLikely 19 = .ok (.iload_n 3, 1) := by decide +kernel
theorem dX11_digestOfLikely_20 : decode cX11_digestOfLikely 20 = .ok (.iload 6, 2) := by decide +kernel
theorem dX11_digestOfLikely_22 : decode cX11_digestOfLikely 22 = .ok (.iconst 0, 1) := by decide +kernel
theorem dX11_digestOfLikely_23 : decode cX11_digestOfLikely 23 = .ok (.invokevirtual 302, 3) := by decide +kernel
theorem dX11_digestOfLikely_26 : decode cX11_digestOfLikely 26 = .ok (.ladd, 1) := by decide +kernel
theorem dX11_digestOfLikely_27 : decode cX11_digestOfLikely 27 = .ok (.lstore 4, 2) := by decide +kernel
theorem dX11_digestOfLikely_29 : decode cX11_digestOfLikely 29 = .ok (.ldc2_w 266, 3) := by decide +kernel
theorem dX11_digestOfLikely_32 : decode cX11_digestOfLikely 32 = .ok (.lload 4, 2) := by decide +kernel
theorem dX11_digestOfLikely_34 : decode cX11_digestOfLikely 34 = .ok (.lmul, 1) := by decide +kernel
theorem dX11_digestOfLikely_35 : decode cX11_digestOfLikely 35 = .ok (.aload_n 0, 1) := by decide +kernel
theorem dX11_digestOfLikely_36 : decode cX11_digestOfLikely 36 = .ok (.iload_n 3, 1) := by decide +kernel
theorem dX11_digestOfLikely_37 : decode cX11_digestOfLikely 37 = .ok (.iload 6, 2) := by decide +kernel
theorem dX11_digestOfLikely_39 : decode cX11_digestOfLikely 39 = .ok (.iconst 1, 1) := by decide +kernel
theorem dX11_digestOfLikely_40 : decode cX11_digestOfLikely 40 = .ok (.invokevirtual 302, 3) := by decide +kernel
theorem dX11_digestOfLikely_43 : decode cX11_digestOfLikely 43 = .ok (.ladd, 1) := by decide +kernel
theorem dX11_digestOfLikely_44 : decode cX11_digestOfLikely 44 = .ok (.lstore 4, 2) := by decide +kernel
theorem dX11_digestOfLikely_46 : decode cX11_digestOfLikely 46 = .ok (.iinc 6 1, 3) := by decide +kernel
theorem dX11_digestOfLikely_49 : decode cX11_digestOfLikely 49 = .ok (.goto (-43), 3) := by decide +kernel
theorem dX11_digestOfLikely_52 : decode cX11_digestOfLikely 52 = .ok (.lload 4, 2) := by decide +kernel
theorem dX11_digestOfLikely_54 : decode cX11_digestOfLikely 54 = .ok (.lreturn, 1) := by decide +kernel
theorem dX11_isWeather_0 : decode cX11_isWeather 0 = .ok (.iload_n 0, 1) := by decide +kernel
theorem dX11_isWeather_1 : decode cX11_isWeather 1 = .ok (.ifCond .lt 12, 3) := by decide +kernel
theorem dX11_isWeather_4 : decode cX11_isWeather 4 = .ok (.iload_n 0, 1) := by decide +kernel
theorem dX11_isWeather_5 : decode cX11_isWeather 5 = .ok (.iconst 3, 1) := by decide +kernel
theorem dX11_isWeather_6 : decode cX11_isWeather 6 = .ok (.if_icmp .ge 7, 3) := by decide +kernel
theorem dX11_isWeather_9 : decode cX11_isWeather 9 = .ok (.iconst 1, 1) := by decide +kernel
theorem dX11_isWeather_10 : decode cX11_isWeather 10 = .ok (.goto 4, 3) := by decide +kernel
theorem dX11_isWeather_13 : decode cX11_isWeather 13 = .ok (.iconst 0, 1) := by decide +kernel
theorem dX11_isWeather_14 : decode cX11_isWeather 14 = .ok (.ireturn, 1) := by decide +kernel
theorem dX11_isAhead_0 : decode cX11_isAhead 0 = .ok (.iload_n 0, 1) := by decide +kernel
theorem dX11_isAhead_1 : decode cX11_isAhead 1 = .ok (.iconst 1, 1) := by decide +kernel
theorem dX11_isAhead_2 : decode cX11_isAhead 2 = .ok (.if_icmp .lt 13, 3) := by decide +kernel
theorem dX11_isAhead_5 : decode cX11_isAhead 5 = .ok (.iload_n 0, 1) := by decide +kernel
theorem dX11_isAhead_6 : decode cX11_isAhead 6 = .ok (.bipush 6, 2) := by decide +kernel
theorem dX11_isAhead_8 : decode cX11_isAhead 8 = .ok (.if_icmp .gt 7, 3) := by decide +kernel
theorem dX11_isAhead_11 : decode cX11_isAhead 11 = .ok (.iconst 1, 1) := by decide +kernel
theorem dX11_isAhead_12 : decode cX11_isAhead 12 = .ok (.goto 4, 3) := by decide +kernel
theorem dX11_isAhead_15 : decode cX11_isAhead 15 = .ok (.iconst 0, 1) := by decide +kernel
theorem dX11_isAhead_16 : decode cX11_isAhead 16 = .ok (.ireturn, 1) := by decide +kernel
theorem dX11_isPart_0 : decode cX11_isPart 0 = .ok (.iload_n 0, 1) := by decide +kernel
theorem dX11_isPart_1 : decode cX11_isPart 1 = .ok (.ifCond .eq 8, 3) := by decide +kernel
theorem dX11_isPart_4 : decode cX11_isPart 4 = .ok (.iload_n 0, 1) := by decide +kernel
theorem dX11_isPart_5 : decode cX11_isPart 5 = .ok (.iconst 1, 1) := by decide +kernel
theorem dX11_isPart_6 : decode cX11_isPart 6 = .ok (.if_icmp .ne 7, 3) := by decide +kernel
theorem dX11_isPart_9 : decode cX11_isPart 9 = .ok (.iconst 1, 1) := by decide +kernel
theorem dX11_isPart_10 : decode cX11_isPart 10 = .ok (.goto 4, 3) := by decide +kernel
theorem dX11_isPart_13 : decode cX11_isPart 13 = .ok (.iconst 0, 1) := by decide +kernel
theorem dX11_isPart_14 : decode cX11_isPart 14 = .ok (.ireturn, 1) := by decide +kernel
theorem dX11_isPrice_0 : decode cX11_isPrice 0 = .ok (.iload_n 0, 1) := by decide +kernel
theorem dX11_isPrice_1 : decode cX11_isPrice 1 = .ok (.iconst 1, 1) := by decide +kernel
theorem dX11_isPrice_2 : decode cX11_isPrice 2 = .ok (.if_icmp .lt 13, 3) := by decide +kernel
theorem dX11_isPrice_5 : decode cX11_isPrice 5 = .ok (.iload_n 0, 1) := by decide +kernel
theorem dX11_isPrice_6 : decode cX11_isPrice 6 = .ok (.bipush 9, 2) := by decide +kernel
theorem dX11_isPrice_8 : decode cX11_isPrice 8 = .ok (.if_icmp .gt 7, 3) := by decide +kernel
theorem dX11_isPrice_11 : decode cX11_isPrice 11 = .ok (.iconst 1, 1) := by decide +kernel
theorem dX11_isPrice_12 : decode cX11_isPrice 12 = .ok (.goto 4, 3) := by decide +kernel
theorem dX11_isPrice_15 : decode cX11_isPrice 15 = .ok (.iconst 0, 1) := by decide +kernel
theorem dX11_isPrice_16 : decode cX11_isPrice 16 = .ok (.ireturn, 1) := by decide +kernel
theorem dX11_lowestTerms_0 : decode cX11_lowestTerms 0 = .ok (.lload_n 0, 1) := by decide +kernel
theorem dX11_lowestTerms_1 : decode cX11_lowestTerms 1 = .ok (.lload_n 2, 1) := by decide +kernel
theorem dX11_lowestTerms_2 : decode cX11_lowestTerms 2 = .ok (.invokestatic 305, 3) := by decide +kernel
theorem dX11_lowestTerms_5 : decode cX11_lowestTerms 5 = .ok (.lstore 5, 2) := by decide +kernel
theorem dX11_lowestTerms_7 : decode cX11_lowestTerms 7 = .ok (.iload 4, 2) := by decide +kernel
theorem dX11_lowestTerms_9 : decode cX11_lowestTerms 9 = .ok (.ifCond .ne 7, 3) := by decide +kernel
theorem dX11_lowestTerms_12 : decode cX11_lowestTerms 12 = .ok (.lload_n 0, 1) := by decide +kernel
theorem dX11_lowestTerms_13 : decode cX11_lowestTerms 13 = .ok (.goto 4, 3) := by decide +kernel
theorem dX11_lowestTerms_16 : decode cX11_lowestTerms 16 = .ok (.lload_n 2, 1) := by decide +kernel
theorem dX11_lowestTerms_17 : decode cX11_lowestTerms 17 = .ok (.lstore 7, 2) := by decide +kernel
theorem dX11_lowestTerms_19 : decode cX11_lowestTerms 19 = .ok (.lload 5, 2) := by decide +kernel
theorem dX11_lowestTerms_21 : decode cX11_lowestTerms 21 = .ok (.lconst 0, 1) := by decide +kernel
theorem dX11_lowestTerms_22 : decode cX11_lowestTerms 22 = .ok (.lcmp, 1) := by decide +kernel
theorem dX11_lowestTerms_23 : decode cX11_lowestTerms 23 = .ok (.ifCond .le 11, 3) := by decide +kernel
theorem dX11_lowestTerms_26 : decode cX11_lowestTerms 26 = .ok (.lload 7, 2) := by decide +kernel
theorem dX11_lowestTerms_28 : decode cX11_lowestTerms 28 = .ok (.lload 5, 2) := by decide +kernel
theorem dX11_lowestTerms_30 : decode cX11_lowestTerms 30 = .ok (.ldiv, 1) := by decide +kernel
theorem dX11_lowestTerms_31 : decode cX11_lowestTerms 31 = .ok (.goto 5, 3) := by decide +kernel
theorem dX11_lowestTerms_34 : decode cX11_lowestTerms 34 = .ok (.lload 7, 2) := by decide +kernel
theorem dX11_lowestTerms_36 : decode cX11_lowestTerms 36 = .ok (.lreturn, 1) := by decide +kernel
theorem dX11_greatestDivisor_0 : decode cX11_greatestDivisor 0 = .ok (.lload_n 0, 1) := by decide +kernel
theorem dX11_greatestDivisor_1 : decode cX11_greatestDivisor 1 = .ok (.lstore 4, 2) := by decide +kernel
theorem dX11_greatestDivisor_3 : decode cX11_greatestDivisor 3 = .ok (.lload_n 2, 1) := by decide +kernel
theorem dX11_greatestDivisor_4 : decode cX11_greatestDivisor 4 = .ok (.lstore 6, 2) := by decide +kernel
theorem dX11_greatestDivisor_6 : decode cX11_greatestDivisor 6 = .ok (.iconst 0, 1) := by decide +kernel
theorem dX11_greatestDivisor_7 : decode cX11_greatestDivisor 7 = .ok (.istore 8, 2) := by decide +kernel
theorem dX11_greatestDivisor_9 : decode cX11_greatestDivisor 9 = .ok (.iload 8, 2) := by decide +kernel
theorem dX11_greatestDivisor_11 : decode cX11_greatestDivisor 11 = .ok (.sipush 1000, 3) := by decide +kernel
theorem dX11_greatestDivisor_14 : decode cX11_greatestDivisor 14 = .ok (.if_icmp .ge 31, 3) := by decide +kernel
theorem dX11_greatestDivisor_17 : decode cX11_greatestDivisor 17 = .ok (.lload 6, 2) := by decide +kernel
theorem dX11_greatestDivisor_19 : decode cX11_greatestDivisor 19 = .ok (.lconst 0, 1) := by decide +kernel
theorem dX11_greatestDivisor_20 : decode cX11_greatestDivisor 20 = .ok (.lcmp, 1) := by decide +kernel
theorem dX11_greatestDivisor_21 : decode cX11_greatestDivisor 21 = .ok (.ifCond .eq 24, 3) := by decide +kernel
theorem dX11_greatestDivisor_24 : decode cX11_greatestDivisor 24 = .ok (.lload 4, 2) := by decide +kernel
theorem dX11_greatestDivisor_26 : decode cX11_greatestDivisor 26 = .ok (.lload 6, 2) := by decide +kernel
theorem dX11_greatestDivisor_28 : decode cX11_greatestDivisor 28 = .ok (.lrem, 1) := by decide +kernel
theorem dX11_greatestDivisor_29 : decode cX11_greatestDivisor 29 = .ok (.lstore 9, 2) := by decide +kernel
theorem dX11_greatestDivisor_31 : decode cX11_greatestDivisor 31 = .ok (.lload 6, 2) := by decide +kernel
theorem dX11_greatestDivisor_33 : decode cX11_greatestDivisor 33 = .ok (.lstore 4, 2) := by decide +kernel
theorem dX11_greatestDivisor_35 : decode cX11_greatestDivisor 35 = .ok (.lload 9, 2) := by decide +kernel
theorem dX11_greatestDivisor_37 : decode cX11_greatestDivisor 37 = .ok (.lstore 6, 2) := by decide +kernel
theorem dX11_greatestDivisor_39 : decode cX11_greatestDivisor 39 = .ok (.iinc 8 1, 3) := by decide +kernel
theorem dX11_greatestDivisor_42 : decode cX11_greatestDivisor 42 = .ok (.goto (-33), 3) := by decide +kernel
theorem dX11_greatestDivisor_45 : decode cX11_greatestDivisor 45 = .ok (.lload 4, 2) := by decide +kernel
theorem dX11_greatestDivisor_47 : decode cX11_greatestDivisor 47 = .ok (.lreturn, 1) := by decide +kernel
theorem dX11_newcomer_0 : decode cX11_newcomer 0 = .ok (.iload_n 0, 1) := by decide +kernel
theorem dX11_newcomer_1 : decode cX11_newcomer 1 = .ok (.tableswitch 71 1 4 #[31, 41, 51, 61], 31) := by decide +kernel
theorem dX11_newcomer_32 : decode cX11_newcomer 32 = .ok (.new 309, 3) := by decide +kernel
theorem dX11_newcomer_35 : decode cX11_newcomer 35 = .ok (.dup, 1) := by decide +kernel
theorem dX11_newcomer_36 : decode cX11_newcomer 36 = .ok (.iload_n 1, 1) := by decide +kernel
theorem dX11_newcomer_37 : decode cX11_newcomer 37 = .ok (.iload_n 2, 1) := by decide +kernel
theorem dX11_newcomer_38 : decode cX11_newcomer 38 = .ok (.invokespecial 311, 3) := by decide +kernel
theorem dX11_newcomer_41 : decode cX11_newcomer 41 = .ok (.areturn, 1) := by decide +kernel
theorem dX11_newcomer_42 : decode cX11_newcomer 42 = .ok (.new 313, 3) := by decide +kernel
theorem dX11_newcomer_45 : decode cX11_newcomer 45 = .ok (.dup, 1) := by decide +kernel
theorem dX11_newcomer_46 : decode cX11_newcomer 46 = .ok (.iload_n 1, 1) := by decide +kernel
theorem dX11_newcomer_47 : decode cX11_newcomer 47 = .ok (.iload_n 2, 1) := by decide +kernel
theorem dX11_newcomer_48 : decode cX11_newcomer 48 = .ok (.invokespecial 315, 3) := by decide +kernel
theorem dX11_newcomer_51 : decode cX11_newcomer 51 = .ok (.areturn, 1) := by decide +kernel
theorem dX11_newcomer_52 : decode cX11_newcomer 52 = .ok (.new 316, 3) := by decide +kernel
theorem dX11_newcomer_55 : decode cX11_newcomer 55 = .ok (.dup, 1) := by decide +kernel
theorem dX11_newcomer_56 : decode cX11_newcomer 56 = .ok (.iload_n 1, 1) := by decide +kernel
theorem dX11_newcomer_57 : decode cX11_newcomer 57 = .ok (.iload_n 2, 1) := by decide +kernel
theorem dX11_newcomer_58 : decode cX11_newcomer 58 = .ok (.invokespecial 318, 3) := by decide +kernel
theorem dX11_newcomer_61 : decode cX11_newcomer 61 = .ok (.areturn, 1) := by decide +kernel
theorem dX11_newcomer_62 : decode cX11_newcomer 62 = .ok (.new 319, 3) := by decide +kernel
theorem dX11_newcomer_65 : decode cX11_newcomer 65 = .ok (.dup, 1) := by decide +kernel
theorem dX11_newcomer_66 : decode cX11_newcomer 66 = .ok (.iload_n 1, 1) := by decide +kernel
theorem dX11_newcomer_67 : decode cX11_newcomer 67 = .ok (.iload_n 2, 1) := by decide +kernel
theorem dX11_newcomer_68 : decode cX11_newcomer 68 = .ok (.invokespecial 321, 3) := by decide +kernel
theorem dX11_newcomer_71 : decode cX11_newcomer 71 = .ok (.areturn, 1) := by decide +kernel
theorem dX11_newcomer_72 : decode cX11_newcomer 72 = .ok (.new 32, 3) := by decide +kernel
theorem dX11_newcomer_75 : decode cX11_newcomer 75 = .ok (.dup, 1) := by decide +kernel
theorem dX11_newcomer_76 : decode cX11_newcomer 76 = .ok (.iload_n 1, 1) := by decide +kernel
theorem dX11_newcomer_77 : decode cX11_newcomer 77 = .ok (.iload_n 2, 1) := by decide +kernel
theorem dX11_newcomer_78 : decode cX11_newcomer 78 = .ok (.invokespecial 322, 3) := by decide +kernel
theorem dX11_newcomer_81 : decode cX11_newcomer 81 = .ok (.areturn, 1) := by decide +kernel
theorem dX11_isOfKind_0 : decode cX11_isOfKind 0 = .ok (.iload_n 1, 1) := by decide +kernel
theorem dX11_isOfKind_1 : decode cX11_isOfKind 1 = .ok (.tableswitch 48 0 3 #[31, 33, 38, 43], 31) := by decide +kernel
theorem dX11_isOfKind_32 : decode cX11_isOfKind 32 = .ok (.iconst 1, 1) := by decide +kernel
theorem dX11_isOfKind_33 : decode cX11_isOfKind 33 = .ok (.ireturn, 1) := by decide +kernel
theorem dX11_isOfKind_34 : decode cX11_isOfKind 34 = .ok (.aload_n 0, 1) := by decide +kernel
theorem dX11_isOfKind_35 : decode cX11_isOfKind 35 = .ok (.instanceof 309, 3) := by decide +kernel
theorem dX11_isOfKind_38 : decode cX11_isOfKind 38 = .ok (.ireturn, 1) := by decide +kernel
theorem dX11_isOfKind_39 : decode cX11_isOfKind 39 = .ok (.aload_n 0, 1) := by decide +kernel
theorem dX11_isOfKind_40 : decode cX11_isOfKind 40 = .ok (.instanceof 313, 3) := by decide +kernel
theorem dX11_isOfKind_43 : decode cX11_isOfKind 43 = .ok (.ireturn, 1) := by decide +kernel
theorem dX11_isOfKind_44 : decode cX11_isOfKind 44 = .ok (.aload_n 0, 1) := by decide +kernel
theorem dX11_isOfKind_45 : decode cX11_isOfKind 45 = .ok (.instanceof 316, 3) := by decide +kernel
theorem dX11_isOfKind_48 : decode cX11_isOfKind 48 = .ok (.ireturn, 1) := by decide +kernel
theorem dX11_isOfKind_49 : decode cX11_isOfKind 49 = .ok (.aload_n 0, 1) := by decide +kernel
theorem dX11_isOfKind_50 : decode cX11_isOfKind 50 = .ok (.instanceof 319, 3) := by decide +kernel
theorem dX11_isOfKind_53 : decode cX11_isOfKind 53 = .ok (.ireturn, 1) := by decide +kernel
theorem dX11_personOf_0 : decode cX11_personOf 0 = .ok (.iload_n 1, 1) := by decide +kernel
theorem dX11_personOf_1 : decode cX11_personOf 1 = .ok (.ifCond .lt 17, 3) := by decide +kernel
theorem dX11_personOf_4 : decode cX11_personOf 4 = .ok (.iload_n 1, 1) := by decide +kernel
theorem dX11_personOf_5 : decode cX11_personOf 5 = .ok (.iconst 4, 1) := by decide +kernel
theorem dX11_personOf_6 : decode cX11_personOf 6 = .ok (.if_icmp .ge 12, 3) := by decide +kernel
theorem dX11_personOf_9 : decode cX11_personOf 9 = .ok (.aload_n 0, 1) := by decide +kernel
theorem dX11_personOf_10 : decode cX11_personOf 10 = .ok (.getfield 34, 3) := by decide +kernel
theorem dX11_personOf_13 : decode cX11_personOf 13 = .ok (.iload_n 1, 1) := by decide +kernel
theorem dX11_personOf_14 : decode cX11_personOf 14 = .ok (.aaload, 1) := by decide +kernel
theorem dX11_personOf_15 : decode cX11_personOf 15 = .ok (.goto 4, 3) := by decide +kernel
theorem dX11_personOf_18 : decode cX11_personOf 18 = .ok (.aconst_null, 1) := by decide +kernel
theorem dX11_personOf_19 : decode cX11_personOf 19 = .ok (.areturn, 1) := by decide +kernel
theorem dX11_countPeople_0 : decode cX11_countPeople 0 = .ok (.iconst 0, 1) := by decide +kernel
theorem dX11_countPeople_1 : decode cX11_countPeople 1 = .ok (.istore_n 1, 1) := by decide +kernel
theorem dX11_countPeople_2 : decode cX11_countPeople 2 = .ok (.iconst 0, 1) := by decide +kernel
theorem dX11_countPeople_3 : decode cX11_countPeople 3 = .ok (.istore_n 2, 1) := by decide +kernel
theorem dX11_countPeople_4 : decode cX11_countPeople 4 = .ok (.iload_n 2, 1) := by decide +kernel
theorem dX11_countPeople_5 : decode cX11_countPeople 5 = .ok (.iconst 4, 1) := by decide +kernel
theorem dX11_countPeople_6 : decode cX11_countPeople 6 = .ok (.if_icmp .ge 26, 3) := by decide +kernel
theorem dX11_countPeople_9 : decode cX11_countPeople 9 = .ok (.iload_n 1, 1) := by decide +kernel
theorem dX11_countPeople_10 : decode cX11_countPeople 10 = .ok (.aload_n 0, 1) := by decide +kernel
theorem dX11_countPeople_11 : decode cX11_countPeople 11 = .ok (.getfield 34, 3) := by decide +kernel
theorem dX11_countPeople_14 : decode cX11_countPeople 14 = .ok (.iload_n 2, 1) := by decide +kernel
theorem dX11_countPeople_15 : decode cX11_countPeople 15 = .ok (.aaload, 1) := by decide +kernel
theorem dX11_countPeople_16 : decode cX11_countPeople 16 = .ok (.ifnonnull 7, 3) := by decide +kernel
theorem dX11_countPeople_19 : decode cX11_countPeople 19 = .ok (.iconst 0, 1) := by decide +kernel
theorem dX11_countPeople_20 : decode cX11_countPeople 20 = .ok (.goto 4, 3) := by decide +kernel
theorem dX11_countPeople_23 : decode cX11_countPeople 23 = .ok (.iconst 1, 1) := by decide +kernel
theorem dX11_countPeople_24 : decode cX11_countPeople 24 = .ok (.iadd, 1) := by decide +kernel
theorem dX11_countPeople_25 : decode cX11_countPeople 25 = .ok (.istore_n 1, 1) := by decide +kernel
theorem dX11_countPeople_26 : decode cX11_countPeople 26 = .ok (.iinc 2 1, 3) := by decide +kernel
theorem dX11_countPeople_29 : decode cX11_countPeople 29 = .ok (.goto (-25), 3) := by decide +kernel
theorem dX11_countPeople_32 : decode cX11_countPeople 32 = .ok (.iload_n 1, 1) := by decide +kernel
theorem dX11_countPeople_33 : decode cX11_countPeople 33 = .ok (.ireturn, 1) := by decide +kernel
theorem dX11_paidByAll_0 : decode cX11_paidByAll 0 = .ok (.iconst 0, 1) := by decide +kernel
theorem dX11_paidByAll_1 : decode cX11_paidByAll 1 = .ok (.istore_n 1, 1) := by decide +kernel
theorem dX11_paidByAll_2 : decode cX11_paidByAll 2 = .ok (.iconst 0, 1) := by decide +kernel
theorem dX11_paidByAll_3 : decode cX11_paidByAll 3 = .ok (.istore_n 2, 1) := by decide +kernel
theorem dX11_paidByAll_4 : decode cX11_paidByAll 4 = .ok (.iload_n 2, 1) := by decide +kernel
theorem dX11_paidByAll_5 : decode cX11_paidByAll 5 = .ok (.iconst 4, 1) := by decide +kernel
theorem dX11_paidByAll_6 : decode cX11_paidByAll 6 = .ok (.if_icmp .ge 31, 3) := by decide +kernel
theorem dX11_paidByAll_9 : decode cX11_paidByAll 9 = .ok (.aload_n 0, 1) := by decide +kernel
theorem dX11_paidByAll_10 : decode cX11_paidByAll 10 = .ok (.getfield 34, 3) := by decide +kernel
theorem dX11_paidByAll_13 : decode cX11_paidByAll 13 = .ok (.iload_n 2, 1) := by decide +kernel
theorem dX11_paidByAll_14 : decode cX11_paidByAll 14 = .ok (.aaload, 1) := by decide +kernel
theorem dX11_paidByAll_15 : decode cX11_paidByAll 15 = .ok (.astore_n 3, 1) := by decide +kernel
theorem dX11_paidByAll_16 : decode cX11_paidByAll 16 = .ok (.iload_n 1, 1) := by decide +kernel
theorem dX11_paidByAll_17 : decode cX11_paidByAll 17 = .ok (.aload_n 3, 1) := by decide +kernel
theorem dX11_paidByAll_18 : decode cX11_paidByAll 18 = .ok (.ifnonnull 7, 3) := by decide +kernel
theorem dX11_paidByAll_21 : decode cX11_paidByAll 21 = .ok (.iconst 0, 1) := by decide +kernel
theorem dX11_paidByAll_22 : decode cX11_paidByAll 22 = .ok (.goto 7, 3) := by decide +kernel
theorem dX11_paidByAll_25 : decode cX11_paidByAll 25 = .ok (.aload_n 3, 1) := by decide +kernel
theorem dX11_paidByAll_26 : decode cX11_paidByAll 26 = .ok (.getfield 124, 3) := by decide +kernel
theorem dX11_paidByAll_29 : decode cX11_paidByAll 29 = .ok (.iadd, 1) := by decide +kernel
theorem dX11_paidByAll_30 : decode cX11_paidByAll 30 = .ok (.istore_n 1, 1) := by decide +kernel
theorem dX11_paidByAll_31 : decode cX11_paidByAll 31 = .ok (.iinc 2 1, 3) := by decide +kernel
theorem dX11_paidByAll_34 : decode cX11_paidByAll 34 = .ok (.goto (-30), 3) := by decide +kernel
theorem dX11_paidByAll_37 : decode cX11_paidByAll 37 = .ok (.iload_n 1, 1) := by decide +kernel
theorem dX11_paidByAll_38 : decode cX11_paidByAll 38 = .ok (.ireturn, 1) := by decide +kernel
theorem dJ9_max_f86c9_0 : decode cJ9_max_f86c9 0 = .ok (.lload_n 0, 1) := by decide +kernel
theorem dJ9_max_f86c9_1 : decode cJ9_max_f86c9 1 = .ok (.lload_n 2, 1) := by decide +kernel
theorem dJ9_max_f86c9_2 : decode cJ9_max_f86c9 2 = .ok (.lcmp, 1) := by decide +kernel
theorem dJ9_max_f86c9_3 : decode cJ9_max_f86c9 3 = .ok (.ifCond .lt 7, 3) := by decide +kernel
theorem dJ9_max_f86c9_6 : decode cJ9_max_f86c9 6 = .ok (.lload_n 0, 1) := by decide +kernel
theorem dJ9_max_f86c9_7 : decode cJ9_max_f86c9 7 = .ok (.goto 4, 3) := by decide +kernel
theorem dJ9_max_f86c9_10 : decode cJ9_max_f86c9 10 = .ok (.lload_n 2, 1) := by decide +kernel
theorem dJ9_max_f86c9_11 : decode cJ9_max_f86c9 11 = .ok (.lreturn, 1) := by decide +kernel
theorem dJ9_min_f86c9_0 : decode cJ9_min_f86c9 0 = .ok (.lload_n 0, 1) := by decide +kernel
theorem dJ9_min_f86c9_1 : decode cJ9_min_f86c9 1 = .ok (.lload_n 2, 1) := by decide +kernel
theorem dJ9_min_f86c9_2 : decode cJ9_min_f86c9 2 = .ok (.lcmp, 1) := by decide +kernel
theorem dJ9_min_f86c9_3 : decode cJ9_min_f86c9 3 = .ok (.ifCond .gt 7, 3) := by decide +kernel
theorem dJ9_min_f86c9_6 : decode cJ9_min_f86c9 6 = .ok (.lload_n 0, 1) := by decide +kernel
theorem dJ9_min_f86c9_7 : decode cJ9_min_f86c9 7 = .ok (.goto 4, 3) := by decide +kernel
theorem dJ9_min_f86c9_10 : decode cJ9_min_f86c9 10 = .ok (.lload_n 2, 1) := by decide +kernel
theorem dJ9_min_f86c9_11 : decode cJ9_min_f86c9 11 = .ok (.lreturn, 1) := by decide +kernel
end
section
theorem dX12_init_0 : decode cX12_init 0 = .ok (.aload_n 0, 1) := by decide +kernel
theorem dX12_init_1 : decode cX12_init 1 = .ok (.invokespecial 1, 3) := by decide +kernel
theorem dX12_init_4 : decode cX12_init 4 = .ok (.aload_n 0, 1) := by decide +kernel
theorem dX12_init_5 : decode cX12_init 5 = .ok (.bipush 9, 2) := by decide +kernel
theorem dX12_init_7 : decode cX12_init 7 = .ok (.newarray .int, 2) := by decide +kernel
theorem dX12_init_9 : decode cX12_init 9 = .ok (.putfield 7, 3) := by decide +kernel
theorem dX12_init_12 : decode cX12_init 12 = .ok (.aload_n 0, 1) := by decide +kernel
theorem dX12_init_13 : decode cX12_init 13 = .ok (.iconst 5, 1) := by decide +kernel
theorem dX12_init_14 : decode cX12_init 14 = .ok (.newarray .int, 2) := by decide +kernel
theorem dX12_init_16 : decode cX12_init 16 = .ok (.dup, 1) := by decide +kernel
theorem dX12_init_17 : decode cX12_init 17 = .ok (.iconst 0, 1) := by decide +kernel
theorem dX12_init_18 : decode cX12_init 18 = .ok (.iconst (-1), 1) := by decide +kernel
theorem dX12_init_19 : decode cX12_init 19 = .ok (.iastore, 1) := by decide +kernel
theorem dX12_init_20 : decode cX12_init 20 = .ok (.dup, 1) := by decide +kernel
theorem dX12_init_21 : decode cX12_init 21 = .ok (.iconst 1, 1) := by decide +kernel
theorem dX12_init_22 : decode cX12_init 22 = .ok (.iconst (-1), 1) := by decide +kernel
theorem dX12_init_23 : decode cX12_init 23 = .ok (.iastore, 1) := by decide +kernel
theorem dX12_init_24 : decode cX12_init 24 = .ok (.dup, 1) := by decide +kernel
theorem dX12_init_25 : decode cX12_init 25 = .ok (.iconst 2, 1) := by decide +kernel
theorem dX12_init_26 : decode cX12_init 26 = .ok (.iconst (-1), 1) := by decide +kernel
theorem dX12_init_27 : decode cX12_init 27 = .ok (.iastore, 1) := by decide +kernel
theorem dX12_init_28 : decode cX12_init 28 = .ok (.dup, 1) := by decide +kernel
theorem dX12_init_29 : decode cX12_init 29 = .ok (.iconst 3, 1) := by decide +kernel
theorem dX12_init_30 : decode cX12_init 30 = .ok (.iconst (-1), 1) := by decide +kernel
theorem dX12_init_31 : decode cX12_init 31 = .ok (.iastore, 1) := by decide +kernel
theorem dX12_init_32 : decode cX12_init 32 = .ok (.dup, 1) := by decide +kernel
theorem dX12_init_33 : decode cX12_init 33 = .ok (.iconst 4, 1) := by decide +kernel
theorem dX12_init_34 : decode cX12_init 34 = .ok (.iconst (-1), 1) := by decide +kernel
theorem dX12_init_35 : decode cX12_init 35 = .ok (.iastore, 1) := by decide +kernel
theorem dX12_init_36 : decode cX12_init 36 = .ok (.putfield 13, 3) := by decide +kernel
theorem dX12_init_39 : decode cX12_init 39 = .ok (.aload_n 0, 1) := by decide +kernel
theorem dX12_init_40 : decode cX12_init 40 = .ok (.iconst 4, 1) := by decide +kernel
theorem dX12_init_41 : decode cX12_init 41 = .ok (.newarray .int, 2) := by decide +kernel
theorem dX12_init_43 : decode cX12_init 43 = .ok (.putfield 16, 3) := by decide +kernel
theorem dX12_init_46 : decode cX12_init 46 = .ok (.aload_n 0, 1) := by decide +kernel
theorem dX12_init_47 : decode cX12_init 47 = .ok (.iconst 4, 1) := by decide +kernel
theorem dX12_init_48 : decode cX12_init 48 = .ok (.newarray .int, 2) := by decide +kernel
theorem dX12_init_50 : decode cX12_init 50 = .ok (.putfield 19, 3) := by decide +kernel
theorem dX12_init_53 : decode cX12_init 53 = .ok (.aload_n 0, 1) := by decide +kernel
theorem dX12_init_54 : decode cX12_init 54 = .ok (.iconst 4, 1) := by decide +kernel
theorem dX12_init_55 : decode cX12_init 55 = .ok (.newarray .int, 2) := by decide +kernel
theorem dX12_init_57 : decode cX12_init 57 = .ok (.putfield 22, 3) := by decide +kernel
theorem dX12_init_60 : decode cX12_init 60 = .ok (.aload_n 0, 1) := by decide +kernel
theorem dX12_init_61 : decode cX12_init 61 = .ok (.iconst 4, 1) := by decide +kernel
theorem dX12_init_62 : decode cX12_init 62 = .ok (.newarray .int, 2) := by decide +kernel
theorem dX12_init_64 : decode cX12_init 64 = .ok (.putfield 25, 3) := by decide +kernel
theorem dX12_init_67 : decode cX12_init 67 = .ok (.aload_n 0, 1) := by decide +kernel
theorem dX12_init_68 : decode cX12_init 68 = .ok (.bipush 12, 2) := by decide +kernel
theorem dX12_init_70 : decode cX12_init 70 = .ok (.newarray .int, 2) := by decide +kernel
theorem dX12_init_72 : decode cX12_init 72 = .ok (.putfield 28, 3) := by decide +kernel
theorem dX12_init_75 : decode cX12_init 75 = .ok (.aload_n 0, 1) := by decide +kernel
theorem dX12_init_76 : decode cX12_init 76 = .ok (.bipush 12, 2) := by decide +kernel
theorem dX12_init_78 : decode cX12_init 78 = .ok (.newarray .int, 2) := by decide +kernel
theorem dX12_init_80 : decode cX12_init 80 = .ok (.putfield 31, 3) := by decide +kernel
theorem dX12_init_83 : decode cX12_init 83 = .ok (.aload_n 0, 1) := by decide +kernel
theorem dX12_init_84 : decode cX12_init 84 = .ok (.bipush 16, 2) := by decide +kernel
theorem dX12_init_86 : decode cX12_init 86 = .ok (.newarray .byte, 2) := by decide +kernel
theorem dX12_init_88 : decode cX12_init 88 = .ok (.putfield 34, 3) := by decide +kernel
theorem dX12_init_91 : decode cX12_init 91 = .ok (.aload_n 0, 1) := by decide +kernel
theorem dX12_init_92 : decode cX12_init 92 = .ok (.iconst 5, 1) := by decide +kernel
theorem dX12_init_93 : decode cX12_init 93 = .ok (.newarray .int, 2) := by decide +kernel
theorem dX12_init_95 : decode cX12_init 95 = .ok (.putfield 38, 3) := by decide +kernel
theorem dX12_init_98 : decode cX12_init 98 = .ok (.aload_n 0, 1) := by decide +kernel
theorem dX12_init_99 : decode cX12_init 99 = .ok (.iconst 5, 1) := by decide +kernel
theorem dX12_init_100 : decode cX12_init 100 = .ok (.newarray .int, 2) := by decide +kernel
theorem dX12_init_102 : decode cX12_init 102 = .ok (.putfield 41, 3) := by decide +kernel
theorem dX12_init_105 : decode cX12_init 105 = .ok (.aload_n 0, 1) := by decide +kernel
theorem dX12_init_106 : decode cX12_init 106 = .ok (.iconst 5, 1) := by decide +kernel
theorem dX12_init_107 : decode cX12_init 107 = .ok (.newarray .int, 2) := by decide +kernel
theorem dX12_init_109 : decode cX12_init 109 = .ok (.putfield 44, 3) := by decide +kernel
theorem dX12_init_112 : decode cX12_init 112 = .ok (.aload_n 0, 1) := by decide +kernel
theorem dX12_init_113 : decode cX12_init 113 = .ok (.iconst 4, 1) := by decide +kernel
theorem dX12_init_114 : decode cX12_init 114 = .ok (.newarray .int, 2) := by decide +kernel
theorem dX12_init_116 : decode cX12_init 116 = .ok (.putfield 47, 3) := by decide +kernel
theorem dX12_init_119 : decode cX12_init 119 = .ok (.aload_n 0, 1) := by decide +kernel
theorem dX12_init_120 : decode cX12_init 120 = .ok (.bipush 12, 2) := by decide +kernel
theorem dX12_init_122 : decode cX12_init 122 = .ok (.newarray .int, 2) := by decide +kernel
theorem dX12_init_124 : decode cX12_init 124 = .ok (.putfield 50, 3) := by decide +kernel
theorem dX12_init_127 : decode cX12_init 127 = .ok (.aload_n 0, 1) := by decide +kernel
theorem dX12_init_128 : decode cX12_init 128 = .ok (.bipush 12, 2) := by decide +kernel
theorem dX12_init_130 : decode cX12_init 130 = .ok (.newarray .int, 2) := by decide +kernel
theorem dX12_init_132 : decode cX12_init 132 = .ok (.putfield 53, 3) := by decide +kernel
theorem dX12_init_135 : decode cX12_init 135 = .ok (.return_, 1) := by decide +kernel
theorem dX12_within_0 : decode cX12_within 0 = .ok (.iload_n 0, 1) := by decide +kernel
theorem dX12_within_1 : decode cX12_within 1 = .ok (.iload_n 1, 1) := by decide +kernel
theorem dX12_within_2 : decode cX12_within 2 = .ok (.if_icmp .lt 12, 3) := by decide +kernel
theorem dX12_within_5 : decode cX12_within 5 = .ok (.iload_n 0, 1) := by decide +kernel
theorem dX12_within_6 : decode cX12_within 6 = .ok (.iload_n 2, 1) := by decide +kernel
theorem dX12_within_7 : decode cX12_within 7 = .ok (.if_icmp .gt 7, 3) := by decide +kernel
theorem dX12_within_10 : decode cX12_within 10 = .ok (.iconst 1, 1) := by decide +kernel
theorem dX12_within_11 : decode cX12_within 11 = .ok (.goto 4, 3) := by decide +kernel
theorem dX12_within_14 : decode cX12_within 14 = .ok (.iconst 0, 1) := by decide +kernel
theorem dX12_within_15 : decode cX12_within 15 = .ok (.ireturn, 1) := by decide +kernel
theorem dX12_isWeather_0 : decode cX12_isWeather 0 = .ok (.iload_n 0, 1) := by decide +kernel
theorem dX12_isWeather_1 : decode cX12_isWeather 1 = .ok (.iconst 0, 1) := by decide +kernel
theorem dX12_isWeather_2 : decode cX12_isWeather 2 = .ok (.iconst 2, 1) := by decide +kernel
theorem dX12_isWeather_3 : decode cX12_isWeather 3 = .ok (.invokestatic 56, 3) := by decide +kernel
theorem dX12_isWeather_6 : decode cX12_isWeather 6 = .ok (.ireturn, 1) := by decide +kernel
theorem dX12_lowest_0 : decode cX12_lowest 0 = .ok (.lload_n 0, 1) := by decide +kernel
theorem dX12_lowest_1 : decode cX12_lowest 1 = .ok (.lstore 5, 2) := by decide +kernel
theorem dX12_lowest_3 : decode cX12_lowest 3 = .ok (.lload_n 2, 1) := by decide +kernel
theorem dX12_lowest_4 : decode cX12_lowest 4 = .ok (.lstore 7, 2) := by decide +kernel
theorem dX12_lowest_6 : decode cX12_lowest 6 = .ok (.lload 7, 2) := by decide +kernel
theorem dX12_lowest_8 : decode cX12_lowest 8 = .ok (.lconst 0, 1) := by decide +kernel
theorem dX12_lowest_9 : decode cX12_lowest 9 = .ok (.lcmp, 1) := by decide +kernel
theorem dX12_lowest_10 : decode cX12_lowest 10 = .ok (.ifCond .eq 21, 3) := by decide +kernel
theorem dX12_lowest_13 : decode cX12_lowest 13 = .ok (.lload 5, 2) := by decide +kernel
theorem dX12_lowest_15 : decode cX12_lowest 15 = .ok (.lload 7, 2) := by decide +kernel
theorem dX12_lowest_17 : decode cX12_lowest 17 = .ok (.lrem, 1) := by decide +kernel
theorem dX12_lowest_18 : decode cX12_lowest 18 = .ok (.lstore 9, 2) := by decide +kernel
theorem dX12_lowest_20 : decode cX12_lowest 20 = .ok (.lload 7, 2) := by decide +kernel
theorem dX12_lowest_22 : decode cX12_lowest 22 = .ok (.lstore 5, 2) := by decide +kernel
theorem dX12_lowest_24 : decode cX12_lowest 24 = .ok (.lload 9, 2) := by decide +kernel
theorem dX12_lowest_26 : decode cX12_lowest 26 = .ok (.lstore 7, 2) := by decide +kernel
theorem dX12_lowest_28 : decode cX12_lowest 28 = .ok (.goto (-22), 3) := by decide +kernel
theorem dX12_lowest_31 : decode cX12_lowest 31 = .ok (.iload 4, 2) := by decide +kernel
theorem dX12_lowest_33 : decode cX12_lowest 33 = .ok (.ifCond .ne 10, 3) := by decide +kernel
theorem dX12_lowest_36 : decode cX12_lowest 36 = .ok (.lload_n 0, 1) := by decide +kernel
theorem dX12_lowest_37 : decode cX12_lowest 37 = .ok (.lload 5, 2) := by decide +kernel
theorem dX12_lowest_39 : decode cX12_lowest 39 = .ok (.ldiv, 1) := by decide +kernel
theorem dX12_lowest_40 : decode cX12_lowest 40 = .ok (.goto 7, 3) := by decide +kernel
theorem dX12_lowest_43 : decode cX12_lowest 43 = .ok (.lload_n 2, 1) := by decide +kernel
theorem dX12_lowest_44 : decode cX12_lowest 44 = .ok (.lload 5, 2) := by decide +kernel
theorem dX12_lowest_46 : decode cX12_lowest 46 = .ok (.ldiv, 1) := by decide +kernel
theorem dX12_lowest_47 : decode cX12_lowest 47 = .ok (.lreturn, 1) := by decide +kernel
theorem dX12_letter_0 : decode cX12_letter 0 = .ok (.iload_n 1, 1) := by decide +kernel
theorem dX12_letter_1 : decode cX12_letter 1 = .ok (.bipush 32, 2) := by decide +kernel
theorem dX12_letter_3 : decode cX12_letter 3 = .ok (.bipush 126, 2) := by decide +kernel
theorem dX12_letter_5 : decode cX12_letter 5 = .ok (.invokestatic 56, 3) := by decide +kernel
theorem dX12_letter_8 : decode cX12_letter 8 = .ok (.ifCond .ne 6, 3) := by decide +kernel
theorem dX12_letter_11 : decode cX12_letter 11 = .ok (.bipush (-102), 2) := by decide +kernel
theorem dX12_letter_13 : decode cX12_letter 13 = .ok (.ireturn, 1) := by decide +kernel
theorem dX12_letter_14 : decode cX12_letter 14 = .ok (.aload_n 0, 1) := by decide +kernel
theorem dX12_letter_15 : decode cX12_letter 15 = .ok (.getfield 60, 3) := by decide +kernel
theorem dX12_letter_18 : decode cX12_letter 18 = .ok (.bipush 16, 2) := by decide +kernel
theorem dX12_letter_20 : decode cX12_letter 20 = .ok (.if_icmp .ne 6, 3) := by decide +kernel
theorem dX12_letter_23 : decode cX12_letter 23 = .ok (.bipush (-104), 2) := by decide +kernel
theorem dX12_letter_25 : decode cX12_letter 25 = .ok (.ireturn, 1) := by decide +kernel
theorem dX12_letter_26 : decode cX12_letter 26 = .ok (.aload_n 0, 1) := by decide +kernel
theorem dX12_letter_27 : decode cX12_letter 27 = .ok (.getfield 34, 3) := by decide +kernel
theorem dX12_letter_30 : decode cX12_letter 30 = .ok (.aload_n 0, 1) := by decide +kernel
theorem dX12_letter_31 : decode cX12_letter 31 = .ok (.getfield 60, 3) := by decide +kernel
theorem dX12_letter_34 : decode cX12_letter 34 = .ok (.iload_n 1, 1) := by decide +kernel
theorem dX12_letter_35 : decode cX12_letter 35 = .ok (.i2b, 1) := by decide +kernel
theorem dX12_letter_36 : decode cX12_letter 36 = .ok (.bastore, 1) := by decide +kernel
theorem dX12_letter_37 : decode cX12_letter 37 = .ok (.aload_n 0, 1) := by decide +kernel
theorem dX12_letter_38 : decode cX12_letter 38 = .ok (.dup, 1) := by decide +kernel
theorem dX12_letter_39 : decode cX12_letter 39 = .ok (.getfield 60, 3) := by decide +kernel
theorem dX12_letter_42 : decode cX12_letter 42 = .ok (.iconst 1, 1) := by decide +kernel
theorem dX12_letter_43 : decode cX12_letter 43 = .ok (.iadd, 1) := by decide +kernel
theorem dX12_letter_44 : decode cX12_letter 44 = .ok (.putfield 60, 3) := by decide +kernel
theorem dX12_letter_47 : decode cX12_letter 47 = .ok (.aload_n 0, 1) := by decide +kernel
theorem dX12_letter_48 : decode cX12_letter 48 = .ok (.getfield 60, 3) := by decide +kernel
theorem dX12_letter_51 : decode cX12_letter 51 = .ok (.ireturn, 1) := by decide +kernel
theorem dX12_blank_0 : decode cX12_blank 0 = .ok (.aload_n 0, 1) := by decide +kernel
theorem dX12_blank_1 : decode cX12_blank 1 = .ok (.getfield 60, 3) := by decide +kernel
theorem dX12_blank_4 : decode cX12_blank 4 = .ok (.istore_n 1, 1) := by decide +kernel
theorem dX12_blank_5 : decode cX12_blank 5 = .ok (.aload_n 0, 1) := by decide +kernel
theorem dX12_blank_6 : decode cX12_blank 6 = .ok (.iconst 0, 1) := by decide +kernel
theorem dX12_blank_7 : decode cX12_blank 7 = .ok (.putfield 60, 3) := by decide +kernel
theorem dX12_blank_10 : decode cX12_blank 10 = .ok (.iload_n 1, 1) := by decide +kernel
theorem dX12_blank_11 : decode cX12_blank 11 = .ok (.ireturn, 1) := by decide +kernel
theorem dX12_figure_0 : decode cX12_figure 0 = .ok (.aload_n 0, 1) := by decide +kernel
theorem dX12_figure_1 : decode cX12_figure 1 = .ok (.getfield 34, 3) := by decide +kernel
theorem dX12_figure_4 : decode cX12_figure 4 = .ok (.iload_n 1, 1) := by decide +kernel
theorem dX12_figure_5 : decode cX12_figure 5 = .ok (.baload, 1) := by decide +kernel
theorem dX12_figure_6 : decode cX12_figure 6 = .ok (.bipush 48, 2) := by decide +kernel
theorem dX12_figure_8 : decode cX12_figure 8 = .ok (.isub, 1) := by decide +kernel
theorem dX12_figure_9 : decode cX12_figure 9 = .ok (.ireturn, 1) := by decide +kernel
theorem dX12_isGood_0 : decode cX12_isGood 0 = .ok (.aload_n 0, 1) := by decide +kernel
theorem dX12_isGood_1 : decode cX12_isGood 1 = .ok (.iload_n 1, 1) := by decide +kernel
theorem dX12_isGood_2 : decode cX12_isGood 2 = .ok (.invokevirtual 64, 3) := by decide +kernel
theorem dX12_isGood_5 : decode cX12_isGood 5 = .ok (.istore_n 2, 1) := by decide +kernel
theorem dX12_isGood_6 : decode cX12_isGood 6 = .ok (.iload_n 1, 1) := by decide +kernel
theorem dX12_isGood_7 : decode cX12_isGood 7 = .ok (.bipush 11, 2) := by decide +kernel
theorem dX12_isGood_9 : decode cX12_isGood 9 = .ok (.if_icmp .le 40, 3) := by decide +kernel
theorem dX12_isGood_12 : decode cX12_isGood 12 = .ok (.iload_n 1, 1) := by decide +kernel
theorem dX12_isGood_13 : decode cX12_isGood 13 = .ok (.bipush 12, 2) := by decide +kernel
theorem dX12_isGood_15 : decode cX12_isGood 15 = .ok (.if_icmp .ne 12, 3) := by decide +kernel
theorem dX12_isGood_18 : decode cX12_isGood 18 = .ok (.iload_n 2, 1) := by decide +kernel
theorem dX12_isGood_19 : decode cX12_isGood 19 = .ok (.iconst 1, 1) := by decide +kernel
theorem dX12_isGood_20 : decode cX12_isGood 20 = .ok (.iconst 4, 1) := by decide +kernel
theorem dX12_isGood_21 : decode cX12_isGood 21 = .ok (.invokestatic 56, 3) := by decide +kernel
theorem dX12_isGood_24 : decode cX12_isGood 24 = .ok (.goto 24, 3) := by decide +kernel
theorem dX12_isGood_27 : decode cX12_isGood 27 = .ok (.iload_n 1, 1) := by decide +kernel
theorem dX12_isGood_28 : decode cX12_isGood 28 = .ok (.bipush 13, 2) := by decide +kernel
theorem dX12_isGood_30 : decode cX12_isGood 30 = .ok (.if_icmp .ne 17, 3) := by decide +kernel
theorem dX12_isGood_33 : decode cX12_isGood 33 = .ok (.iload_n 2, 1) := by decide +kernel
theorem dX12_isGood_34 : decode cX12_isGood 34 = .ok (.iconst 0, 1) := by decide +kernel
theorem dX12_isGood_35 : decode cX12_isGood 35 = .ok (.bipush 9, 2) := by decide +kernel
theorem dX12_isGood_37 : decode cX12_isGood 37 = .ok (.invokestatic 56, 3) := by decide +kernel
theorem dX12_isGood_40 : decode cX12_isGood 40 = .ok (.ifCond .eq 7, 3) := by decide +kernel
theorem dX12_isGood_43 : decode cX12_isGood 43 = .ok (.iconst 1, 1) := by decide +kernel
theorem dX12_isGood_44 : decode cX12_isGood 44 = .ok (.goto 4, 3) := by decide +kernel
theorem dX12_isGood_47 : decode cX12_isGood 47 = .ok (.iconst 0, 1) := by decide +kernel
theorem dX12_isGood_48 : decode cX12_isGood 48 = .ok (.ireturn, 1) := by decide +kernel
theorem dX12_isGood_49 : decode cX12_isGood 49 = .ok (.iload_n 1, 1) := by decide +kernel
theorem dX12_isGood_50 : decode cX12_isGood 50 = .ok (.iconst 4, 1) := by decide +kernel
theorem dX12_isGood_51 : decode cX12_isGood 51 = .ok (.irem, 1) := by decide +kernel
theorem dX12_isGood_52 : decode cX12_isGood 52 = .ok (.tableswitch 104 0 2 #[28, 36, 66], 28) := by decide +kernel
theorem dX12_isGood_80 : decode cX12_isGood 80 = .ok (.iload_n 2, 1) := by decide +kernel
theorem dX12_isGood_81 : decode cX12_isGood 81 = .ok (.iconst 0, 1) := by decide +kernel
theorem dX12_isGood_82 : decode cX12_isGood 82 = .ok (.bipush 9, 2) := by decide +kernel
theorem dX12_isGood_84 : decode cX12_isGood 84 = .ok (.invokestatic 56, 3) := by decide +kernel
theorem dX12_isGood_87 : decode cX12_isGood 87 = .ok (.ireturn, 1) := by decide +kernel
theorem dX12_isGood_88 : decode cX12_isGood 88 = .ok (.iload_n 2, 1) := by decide +kernel
theorem dX12_isGood_89 : decode cX12_isGood 89 = .ok (.iconst 0, 1) := by decide +kernel
theorem dX12_isGood_90 : decode cX12_isGood 90 = .ok (.bipush 9, 2) := by decide +kernel
theorem dX12_isGood_92 : decode cX12_isGood 92 = .ok (.invokestatic 56, 3) := by decide +kernel
theorem dX12_isGood_95 : decode cX12_isGood 95 = .ok (.ifCond .eq 21, 3) := by decide +kernel
theorem dX12_isGood_98 : decode cX12_isGood 98 = .ok (.aload_n 0, 1) := by decide +kernel
theorem dX12_isGood_99 : decode cX12_isGood 99 = .ok (.iload_n 1, 1) := by decide +kernel
theorem dX12_isGood_100 : decode cX12_isGood 100 = .ok (.iconst 1, 1) := by decide +kernel
theorem dX12_isGood_101 : decode cX12_isGood 101 = .ok (.isub, 1) := by decide +kernel
theorem dX12_isGood_102 : decode cX12_isGood 102 = .ok (.invokevirtual 64, 3) := by decide +kernel
theorem dX12_isGood_105 : decode cX12_isGood 105 = .ok (.iload_n 2, 1) := by decide +kernel
theorem dX12_isGood_106 : decode cX12_isGood 106 = .ok (.iadd, 1) := by decide +kernel
theorem dX12_isGood_107 : decode cX12_isGood 107 = .ok (.bipush 10, 2) := by decide +kernel
theorem dX12_isGood_109 : decode cX12_isGood 109 = .ok (.if_icmp .gt 7, 3) := by decide +kernel
theorem dX12_isGood_112 : decode cX12_isGood 112 = .ok (.iconst 1, 1) := by decide +kernel
theorem dX12_isGood_113 : decode cX12_isGood 113 = .ok (.goto 4, 3) := by decide +kernel
theorem dX12_isGood_116 : decode cX12_isGood 116 = .ok (.iconst 0, 1) := by decide +kernel
theorem dX12_isGood_117 : decode cX12_isGood 117 = .ok (.ireturn, 1) := by decide +kernel
theorem dX12_isGood_118 : decode cX12_isGood 118 = .ok (.iload_n 2, 1) := by decide +kernel
theorem dX12_isGood_119 : decode cX12_isGood 119 = .ok (.iconst 0, 1) := by decide +kernel
theorem dX12_isGood_120 : decode cX12_isGood 120 = .ok (.bipush 9, 2) := by decide +kernel
theorem dX12_isGood_122 : decode cX12_isGood 122 = .ok (.invokestatic 56, 3) := by decide +kernel
theorem dX12_isGood_125 : decode cX12_isGood 125 = .ok (.ifCond .eq 29, 3) := by decide +kernel
theorem dX12_isGood_128 : decode cX12_isGood 128 = .ok (.aload_n 0, 1) := by decide +kernel
theorem dX12_isGood_129 : decode cX12_isGood 129 = .ok (.iload_n 1, 1) := by decide +kernel
theorem dX12_isGood_130 : decode cX12_isGood 130 = .ok (.iconst 2, 1) := by decide +kernel
theorem dX12_isGood_131 : decode cX12_isGood 131 = .ok (.isub, 1) := by decide +kernel
theorem dX12_isGood_132 : decode cX12_isGood 132 = .ok (.invokevirtual 64, 3) := by decide +kernel
theorem dX12_isGood_135 : decode cX12_isGood 135 = .ok (.aload_n 0, 1) := by decide +kernel
theorem dX12_isGood_136 : decode cX12_isGood 136 = .ok (.iload_n 1, 1) := by decide +kernel
theorem dX12_isGood_137 : decode cX12_isGood 137 = .ok (.iconst 1, 1) := by decide +kernel
theorem dX12_isGood_138 : decode cX12_isGood 138 = .ok (.isub, 1) := by decide +kernel
theorem dX12_isGood_139 : decode cX12_isGood 139 = .ok (.invokevirtual 64, 3) := by decide +kernel
theorem dX12_isGood_142 : decode cX12_isGood 142 = .ok (.iadd, 1) := by decide +kernel
theorem dX12_isGood_143 : decode cX12_isGood 143 = .ok (.iload_n 2, 1) := by decide +kernel
theorem dX12_isGood_144 : decode cX12_isGood 144 = .ok (.iadd, 1) := by decide +kernel
theorem dX12_isGood_145 : decode cX12_isGood 145 = .ok (.bipush 10, 2) := by decide +kernel
theorem dX12_isGood_147 : decode cX12_isGood 147 = .ok (.if_icmp .ne 7, 3) := by decide +kernel
theorem dX12_isGood_150 : decode cX12_isGood 150 = .ok (.iconst 1, 1) := by decide +kernel
theorem dX12_isGood_151 : decode cX12_isGood 151 = .ok (.goto 4, 3) := by decide +kernel
theorem dX12_isGood_154 : decode cX12_isGood 154 = .ok (.iconst 0, 1) := by decide +kernel
theorem dX12_isGood_155 : decode cX12_isGood 155 = .ok (.ireturn, 1) := by decide +kernel
theorem dX12_isGood_156 : decode cX12_isGood 156 = .ok (.aload_n 0, 1) := by decide +kernel
theorem dX12_isGood_157 : decode cX12_isGood 157 = .ok (.getfield 34, 3) := by decide +kernel
theorem dX12_isGood_160 : decode cX12_isGood 160 = .ok (.iload_n 1, 1) := by decide +kernel
theorem dX12_isGood_161 : decode cX12_isGood 161 = .ok (.baload, 1) := by decide +kernel
theorem dX12_isGood_162 : decode cX12_isGood 162 = .ok (.iload_n 1, 1) := by decide +kernel
theorem dX12_isGood_163 : decode cX12_isGood 163 = .ok (.bipush 11, 2) := by decide +kernel
theorem dX12_isGood_165 : decode cX12_isGood 165 = .ok (.if_icmp .ne 8, 3) := by decide +kernel
theorem dX12_isGood_168 : decode cX12_isGood 168 = .ok (.bipush 59, 2) := by decide +kernel
theorem dX12_isGood_170 : decode cX12_isGood 170 = .ok (.goto 5, 3) := by decide +kernel
theorem dX12_isGood_173 : decode cX12_isGood 173 = .ok (.bipush 47, 2) := by decide +kernel
theorem dX12_isGood_175 : decode cX12_isGood 175 = .ok (.if_icmp .ne 7, 3) := by decide +kernel
theorem dX12_isGood_178 : decode cX12_isGood 178 = .ok (.iconst 1, 1) := by decide +kernel
theorem dX12_isGood_179 : decode cX12_isGood 179 = .ok (.goto 4, 3) := by decide +kernel
theorem dX12_isGood_182 : decode cX12_isGood 182 = .ok (.iconst 0, 1) := by decide +kernel
theorem dX12_isGood_183 : decode cX12_isGood 183 = .ok (.ireturn, 1) := by decide +kernel
theorem dX12_faultNow_0 : decode cX12_faultNow 0 = .ok (.iconst 0, 1) := by decide +kernel
theorem dX12_faultNow_1 : decode cX12_faultNow 1 = .ok (.istore_n 1, 1) := by decide +kernel
theorem dX12_faultNow_2 : decode cX12_faultNow 2 = .ok (.iload_n 1, 1) := by decide +kernel
theorem dX12_faultNow_3 : decode cX12_faultNow 3 = .ok (.aload_n 0, 1) := by decide +kernel
theorem dX12_faultNow_4 : decode cX12_faultNow 4 = .ok (.getfield 60, 3) := by decide +kernel
theorem dX12_faultNow_7 : decode cX12_faultNow 7 = .ok (.if_icmp .ge 17, 3) := by decide +kernel
theorem dX12_faultNow_10 : decode cX12_faultNow 10 = .ok (.aload_n 0, 1) := by decide +kernel
theorem dX12_faultNow_11 : decode cX12_faultNow 11 = .ok (.iload_n 1, 1) := by decide +kernel
theorem dX12_faultNow_12 : decode cX12_faultNow 12 = .ok (.invokevirtual 68, 3) := by decide +kernel
theorem dX12_faultNow_15 : decode cX12_faultNow 15 = .ok (.ifCond .eq 9, 3) := by decide +kernel
theorem dX12_faultNow_18 : decode cX12_faultNow 18 = .ok (.iinc 1 1, 3) := by decide +kernel
theorem dX12_faultNow_21 : decode cX12_faultNow 21 = .ok (.goto (-19), 3) := by decide +kernel
theorem dX12_faultNow_24 : decode cX12_faultNow 24 = .ok (.iload_n 1, 1) := by decide +kernel
theorem dX12_faultNow_25 : decode cX12_faultNow 25 = .ok (.ireturn, 1) := by decide +kernel
theorem dX12_fault_0 : decode cX12_fault 0 = .ok (.aload_n 0, 1) := by decide +kernel
theorem dX12_fault_1 : decode cX12_fault 1 = .ok (.invokevirtual 72, 3) := by decide +kernel
theorem dX12_fault_4 : decode cX12_fault 4 = .ok (.ireturn, 1) := by decide +kernel
theorem dX12_station_0 : decode cX12_station 0 = .ok (.aload_n 0, 1) := by decide +kernel
theorem dX12_station_1 : decode cX12_station 1 = .ok (.invokevirtual 72, 3) := by decide +kernel
theorem dX12_station_4 : decode cX12_station 4 = .ok (.aload_n 0, 1) := by decide +kernel
theorem dX12_station_5 : decode cX12_station 5 = .ok (.getfield 60, 3) := by decide +kernel
theorem dX12_station_8 : decode cX12_station 8 = .ok (.if_icmp .ne 12, 3) := by decide +kernel
theorem dX12_station_11 : decode cX12_station 11 = .ok (.aload_n 0, 1) := by decide +kernel
theorem dX12_station_12 : decode cX12_station 12 = .ok (.getfield 60, 3) := by decide +kernel
theorem dX12_station_15 : decode cX12_station 15 = .ok (.bipush 14, 2) := by decide +kernel
theorem dX12_station_17 : decode cX12_station 17 = .ok (.if_icmp .eq 6, 3) := by decide +kernel
theorem dX12_station_20 : decode cX12_station 20 = .ok (.bipush (-103), 2) := by decide +kernel
theorem dX12_station_22 : decode cX12_station 22 = .ok (.ireturn, 1) := by decide +kernel
theorem dX12_station_23 : decode cX12_station 23 = .ok (.iconst 0, 1) := by decide +kernel
theorem dX12_station_24 : decode cX12_station 24 = .ok (.istore_n 1, 1) := by decide +kernel
theorem dX12_station_25 : decode cX12_station 25 = .ok (.iload_n 1, 1) := by decide +kernel
theorem dX12_station_26 : decode cX12_station 26 = .ok (.iconst 3, 1) := by decide +kernel
theorem dX12_station_27 : decode cX12_station 27 = .ok (.if_icmp .ge 41, 3) := by decide +kernel
theorem dX12_station_30 : decode cX12_station 30 = .ok (.iconst 0, 1) := by decide +kernel
theorem dX12_station_31 : decode cX12_station 31 = .ok (.istore_n 2, 1) := by decide +kernel
theorem dX12_station_32 : decode cX12_station 32 = .ok (.iload_n 2, 1) := by decide +kernel
theorem dX12_station_33 : decode cX12_station 33 = .ok (.iconst 3, 1) := by decide +kernel
theorem dX12_station_34 : decode cX12_station 34 = .ok (.if_icmp .ge 28, 3) := by decide +kernel
theorem dX12_station_37 : decode cX12_station 37 = .ok (.aload_n 0, 1) := by decide +kernel
theorem dX12_station_38 : decode cX12_station 38 = .ok (.getfield 7, 3) := by decide +kernel
theorem dX12_station_41 : decode cX12_station 41 = .ok (.iconst 3, 1) := by decide +kernel
theorem dX12_station_42 : decode cX12_station 42 = .ok (.iload_n 1, 1) := by decide +kernel
theorem dX12_station_43 : decode cX12_station 43 = .ok (.imul, 1) := by decide +kernel
theorem dX12_station_44 : decode cX12_station 44 = .ok (.iload_n 2, 1) := by decide +kernel
theorem dX12_station_45 : decode cX12_station 45 = .ok (.iadd, 1) := by decide +kernel
theorem dX12_station_46 : decode cX12_station 46 = .ok (.aload_n 0, 1) := by decide +kernel
theorem dX12_station_47 : decode cX12_station 47 = .ok (.iconst 4, 1) := by decide +kernel
theorem dX12_station_48 : decode cX12_station 48 = .ok (.iload_n 1, 1) := by decide +kernel
theorem dX12_station_49 : decode cX12_station 49 = .ok (.imul, 1) := by decide +kernel
theorem dX12_station_50 : decode cX12_station 50 = .ok (.iload_n 2, 1) := by decide +kernel
theorem dX12_station_51 : decode cX12_station 51 = .ok (.iadd, 1) := by decide +kernel
theorem dX12_station_52 : decode cX12_station 52 = .ok (.invokevirtual 64, 3) := by decide +kernel
theorem dX12_station_55 : decode cX12_station 55 = .ok (.iastore, 1) := by decide +kernel
theorem dX12_station_56 : decode cX12_station 56 = .ok (.iinc 2 1, 3) := by decide +kernel
theorem dX12_station_59 : decode cX12_station 59 = .ok (.goto (-27), 3) := by decide +kernel
theorem dX12_station_62 : decode cX12_station 62 = .ok (.iinc 1 1, 3) := by decide +kernel
theorem dX12_station_65 : decode cX12_station 65 = .ok (.goto (-40), 3) := by decide +kernel
theorem dX12_station_68 : decode cX12_station 68 = .ok (.aload_n 0, 1) := by decide +kernel
theorem dX12_station_69 : decode cX12_station 69 = .ok (.aload_n 0, 1) := by decide +kernel
theorem dX12_station_70 : decode cX12_station 70 = .ok (.bipush 12, 2) := by decide +kernel
theorem dX12_station_72 : decode cX12_station 72 = .ok (.invokevirtual 64, 3) := by decide +kernel
theorem dX12_station_75 : decode cX12_station 75 = .ok (.putfield 76, 3) := by decide +kernel
theorem dX12_station_78 : decode cX12_station 78 = .ok (.aload_n 0, 1) := by decide +kernel
theorem dX12_station_79 : decode cX12_station 79 = .ok (.aload_n 0, 1) := by decide +kernel
theorem dX12_station_80 : decode cX12_station 80 = .ok (.bipush 13, 2) := by decide +kernel
theorem dX12_station_82 : decode cX12_station 82 = .ok (.invokevirtual 64, 3) := by decide +kernel
theorem dX12_station_85 : decode cX12_station 85 = .ok (.putfield 79, 3) := by decide +kernel
theorem dX12_station_88 : decode cX12_station 88 = .ok (.aload_n 0, 1) := by decide +kernel
theorem dX12_station_89 : decode cX12_station 89 = .ok (.iconst 1, 1) := by decide +kernel
theorem dX12_station_90 : decode cX12_station 90 = .ok (.putfield 82, 3) := by decide +kernel
theorem dX12_station_93 : decode cX12_station 93 = .ok (.aload_n 0, 1) := by decide +kernel
theorem dX12_station_94 : decode cX12_station 94 = .ok (.dup, 1) := by decide +kernel
theorem dX12_station_95 : decode cX12_station 95 = .ok (.getfield 86, 3) := by decide +kernel
theorem dX12_station_98 : decode cX12_station 98 = .ok (.iconst 1, 1) := by decide +kernel
theorem dX12_station_99 : decode cX12_station 99 = .ok (.iadd, 1) := by decide +kernel
theorem dX12_station_100 : decode cX12_station 100 = .ok (.putfield 86, 3) := by decide +kernel
theorem dX12_station_103 : decode cX12_station 103 = .ok (.aload_n 0, 1) := by decide +kernel
theorem dX12_station_104 : decode cX12_station 104 = .ok (.iconst 0, 1) := by decide +kernel
theorem dX12_station_105 : decode cX12_station 105 = .ok (.putfield 89, 3) := by decide +kernel
theorem dX12_station_108 : decode cX12_station 108 = .ok (.aload_n 0, 1) := by decide +kernel
theorem dX12_station_109 : decode cX12_station 109 = .ok (.iconst 0, 1) := by decide +kernel
theorem dX12_station_110 : decode cX12_station 110 = .ok (.putfield 92, 3) := by decide +kernel
theorem dX12_station_113 : decode cX12_station 113 = .ok (.iconst 0, 1) := by decide +kernel
theorem dX12_station_114 : decode cX12_station 114 = .ok (.istore_n 1, 1) := by decide +kernel
theorem dX12_station_115 : decode cX12_station 115 = .ok (.iload_n 1, 1) := by decide +kernel
theorem dX12_station_116 : decode cX12_station 116 = .ok (.iconst 4, 1) := by decide +kernel
theorem dX12_station_117 : decode cX12_station 117 = .ok (.if_icmp .gt 16, 3) := by decide +kernel
theorem dX12_station_120 : decode cX12_station 120 = .ok (.aload_n 0, 1) := by decide +kernel
theorem dX12_station_121 : decode cX12_station 121 = .ok (.getfield 13, 3) := by decide +kernel
theorem dX12_station_124 : decode cX12_station 124 = .ok (.iload_n 1, 1) := by decide +kernel
theorem dX12_station_125 : decode cX12_station 125 = .ok (.iconst (-1), 1) := by decide +kernel
theorem dX12_station_126 : decode cX12_station 126 = .ok (.iastore, 1) := by decide +kernel
theorem dX12_station_127 : decode cX12_station 127 = .ok (.iinc 1 1, 3) := by decide +kernel
theorem dX12_station_130 : decode cX12_station 130 = .ok (.goto (-15), 3) := by decide +kernel
theorem dX12_station_133 : decode cX12_station 133 = .ok (.aload_n 0, 1) := by decide +kernel
theorem dX12_station_134 : decode cX12_station 134 = .ok (.iconst 0, 1) := by decide +kernel
theorem dX12_station_135 : decode cX12_station 135 = .ok (.putfield 95, 3) := by decide +kernel
theorem dX12_station_138 : decode cX12_station 138 = .ok (.aload_n 0, 1) := by decide +kernel
theorem dX12_station_139 : decode cX12_station 139 = .ok (.iconst 0, 1) := by decide +kernel
theorem dX12_station_140 : decode cX12_station 140 = .ok (.putfield 98, 3) := by decide +kernel
theorem dX12_station_143 : decode cX12_station 143 = .ok (.aload_n 0, 1) := by decide +kernel
theorem dX12_station_144 : decode cX12_station 144 = .ok (.iconst 0, 1) := by decide +kernel
theorem dX12_station_145 : decode cX12_station 145 = .ok (.putfield 60, 3) := by decide +kernel
theorem dX12_station_148 : decode cX12_station 148 = .ok (.aload_n 0, 1) := by decide +kernel
theorem dX12_station_149 : decode cX12_station 149 = .ok (.getfield 76, 3) := by decide +kernel
theorem dX12_station_152 : decode cX12_station 152 = .ok (.ireturn, 1) := by decide +kernel
theorem dX12_follows_0 : decode cX12_follows 0 = .ok (.iload_n 1, 1) := by decide +kernel
theorem dX12_follows_1 : decode cX12_follows 1 = .ok (.invokestatic 101, 3) := by decide +kernel
theorem dX12_follows_4 : decode cX12_follows 4 = .ok (.ifCond .eq 10, 3) := by decide +kernel
theorem dX12_follows_7 : decode cX12_follows 7 = .ok (.iload_n 2, 1) := by decide +kernel
theorem dX12_follows_8 : decode cX12_follows 8 = .ok (.invokestatic 101, 3) := by decide +kernel
theorem dX12_follows_11 : decode cX12_follows 11 = .ok (.ifCond .ne 6, 3) := by decide +kernel
theorem dX12_follows_14 : decode cX12_follows 14 = .ok (.bipush (-101), 2) := by decide +kernel
theorem dX12_follows_16 : decode cX12_follows 16 = .ok (.ireturn, 1) := by decide +kernel
theorem dX12_follows_17 : decode cX12_follows 17 = .ok (.aload_n 0, 1) := by decide +kernel
theorem dX12_follows_18 : decode cX12_follows 18 = .ok (.getfield 82, 3) := by decide +kernel
theorem dX12_follows_21 : decode cX12_follows 21 = .ok (.ifCond .eq 16, 3) := by decide +kernel
theorem dX12_follows_24 : decode cX12_follows 24 = .ok (.aload_n 0, 1) := by decide +kernel
theorem dX12_follows_25 : decode cX12_follows 25 = .ok (.getfield 7, 3) := by decide +kernel
theorem dX12_follows_28 : decode cX12_follows 28 = .ok (.iconst 3, 1) := by decide +kernel
theorem dX12_follows_29 : decode cX12_follows 29 = .ok (.iload_n 1, 1) := by decide +kernel
theorem dX12_follows_30 : decode cX12_follows 30 = .ok (.imul, 1) := by decide +kernel
theorem dX12_follows_31 : decode cX12_follows 31 = .ok (.iload_n 2, 1) := by decide +kernel
theorem dX12_follows_32 : decode cX12_follows 32 = .ok (.iadd, 1) := by decide +kernel
theorem dX12_follows_33 : decode cX12_follows 33 = .ok (.iaload, 1) := by decide +kernel
theorem dX12_follows_34 : decode cX12_follows 34 = .ok (.goto 5, 3) := by decide +kernel
theorem dX12_follows_37 : decode cX12_follows 37 = .ok (.bipush (-103), 2) := by decide +kernel
theorem dX12_follows_39 : decode cX12_follows 39 = .ok (.ireturn, 1) := by decide +kernel
theorem dX12_weatherIn_0 : decode cX12_weatherIn 0 = .ok (.iload_n 0, 1) := by decide +kernel
theorem dX12_weatherIn_1 : decode cX12_weatherIn 1 = .ok (.istore_n 2, 1) := by decide +kernel
theorem dX12_weatherIn_2 : decode cX12_weatherIn 2 = .ok (.iload_n 1, 1) := by decide +kernel
theorem dX12_weatherIn_3 : decode cX12_weatherIn 3 = .ok (.istore_n 3, 1) := by decide +kernel
theorem dX12_weatherIn_4 : decode cX12_weatherIn 4 = .ok (.iload_n 3, 1) := by decide +kernel
theorem dX12_weatherIn_5 : decode cX12_weatherIn 5 = .ok (.bipush 6, 2) := by decide +kernel
theorem dX12_weatherIn_7 : decode cX12_weatherIn 7 = .ok (.if_icmp .ge 13, 3) := by decide +kernel
theorem dX12_weatherIn_10 : decode cX12_weatherIn 10 = .ok (.iload_n 2, 1) := by decide +kernel
theorem dX12_weatherIn_11 : decode cX12_weatherIn 11 = .ok (.iconst 3, 1) := by decide +kernel
theorem dX12_weatherIn_12 : decode cX12_weatherIn 12 = .ok (.idiv, 1) := by decide +kernel
theorem dX12_weatherIn_13 : decode cX12_weatherIn 13 = .ok (.istore_n 2, 1) := by decide +kernel
theorem dX12_weatherIn_14 : decode cX12_weatherIn 14 = .ok (.iinc 3 1, 3) := by decide +kernel
theorem dX12_weatherIn_17 : decode cX12_weatherIn 17 = .ok (.goto (-13), 3) := by decide +kernel
theorem dX12_weatherIn_20 : decode cX12_weatherIn 20 = .ok (.iload_n 2, 1) := by decide +kernel
theorem dX12_weatherIn_21 : decode cX12_weatherIn 21 = .ok (.iconst 3, 1) := by decide +kernel
theorem dX12_weatherIn_22 : decode cX12_weatherIn 22 = .ok (.irem, 1) := by decide +kernel
theorem dX12_weatherIn_23 : decode cX12_weatherIn 23 = .ok (.ireturn, 1) := by decide +kernel
theorem dX12_tells_0 : decode cX12_tells 0 = .ok (.iload_n 1, 1) := by decide +kernel
theorem dX12_tells_1 : decode cX12_tells 1 = .ok (.iload_n 2, 1) := by decide +kernel
theorem dX12_tells_2 : decode cX12_tells 2 = .ok (.if_icmp .ne 13, 3) := by decide +kernel
theorem dX12_tells_5 : decode cX12_tells 5 = .ok (.bipush 10, 2) := by decide +kernel
theorem dX12_tells_7 : decode cX12_tells 7 = .ok (.aload_n 0, 1) := by decide +kernel
theorem dX12_tells_8 : decode cX12_tells 8 = .ok (.getfield 79, 3) := by decide +kernel
theorem dX12_tells_11 : decode cX12_tells 11 = .ok (.isub, 1) := by decide +kernel
theorem dX12_tells_12 : decode cX12_tells 12 = .ok (.goto 20, 3) := by decide +kernel
theorem dX12_tells_15 : decode cX12_tells 15 = .ok (.iload_n 1, 1) := by decide +kernel
theorem dX12_tells_16 : decode cX12_tells 16 = .ok (.iload_n 2, 1) := by decide +kernel
theorem dX12_tells_17 : decode cX12_tells 17 = .ok (.iconst 1, 1) := by decide +kernel
theorem dX12_tells_18 : decode cX12_tells 18 = .ok (.iadd, 1) := by decide +kernel
theorem dX12_tells_19 : decode cX12_tells 19 = .ok (.iconst 3, 1) := by decide +kernel
theorem dX12_tells_20 : decode cX12_tells 20 = .ok (.irem, 1) := by decide +kernel
theorem dX12_tells_21 : decode cX12_tells 21 = .ok (.if_icmp .ne 10, 3) := by decide +kernel
theorem dX12_tells_24 : decode cX12_tells 24 = .ok (.aload_n 0, 1) := by decide +kernel
theorem dX12_tells_25 : decode cX12_tells 25 = .ok (.getfield 79, 3) := by decide +kernel
theorem dX12_tells_28 : decode cX12_tells 28 = .ok (.goto 4, 3) := by decide +kernel
theorem dX12_tells_31 : decode cX12_tells 31 = .ok (.iconst 0, 1) := by decide +kernel
theorem dX12_tells_32 : decode cX12_tells 32 = .ok (.ireturn, 1) := by decide +kernel
theorem dX12_oddsOf_0 : decode cX12_oddsOf 0 = .ok (.lconst 1, 1) := by decide +kernel
theorem dX12_oddsOf_1 : decode cX12_oddsOf 1 = .ok (.lstore_n 2, 1) := by decide +kernel
theorem dX12_oddsOf_2 : decode cX12_oddsOf 2 = .ok (.aload_n 0, 1) := by decide +kernel
theorem dX12_oddsOf_3 : decode cX12_oddsOf 3 = .ok (.getfield 92, 3) := by decide +kernel
theorem dX12_oddsOf_6 : decode cX12_oddsOf 6 = .ok (.istore 4, 2) := by decide +kernel
theorem dX12_oddsOf_8 : decode cX12_oddsOf 8 = .ok (.iconst 1, 1) := by decide +kernel
theorem dX12_oddsOf_9 : decode cX12_oddsOf 9 = .ok (.istore 5, 2) := by decide +kernel
theorem dX12_oddsOf_11 : decode cX12_oddsOf 11 = .ok (.iload 5, 2) := by decide +kernel
theorem dX12_oddsOf_13 : decode cX12_oddsOf 13 = .ok (.bipush 6, 2) := by decide +kernel
theorem dX12_oddsOf_15 : decode cX12_oddsOf 15 = .ok (.if_icmp .gt 75, 3) := by decide +kernel
theorem dX12_oddsOf_18 : decode cX12_oddsOf 18 = .ok (.iload_n 1, 1) := by decide +kernel
theorem dX12_oddsOf_19 : decode cX12_oddsOf 19 = .ok (.iload 5, 2) := by decide +kernel
theorem dX12_oddsOf_21 : decode cX12_oddsOf 21 = .ok (.invokestatic 104, 3) := by decide +kernel
theorem dX12_oddsOf_24 : decode cX12_oddsOf 24 = .ok (.istore 6, 2) := by decide +kernel
theorem dX12_oddsOf_26 : decode cX12_oddsOf 26 = .ok (.lload_n 2, 1) := by decide +kernel
theorem dX12_oddsOf_27 : decode cX12_oddsOf 27 = .ok (.aload_n 0, 1) := by decide +kernel
theorem dX12_oddsOf_28 : decode cX12_oddsOf 28 = .ok (.getfield 7, 3) := by decide +kernel
theorem dX12_oddsOf_31 : decode cX12_oddsOf 31 = .ok (.iconst 3, 1) := by decide +kernel
theorem dX12_oddsOf_32 : decode cX12_oddsOf 32 = .ok (.iload 4, 2) := by decide +kernel
theorem dX12_oddsOf_34 : decode cX12_oddsOf 34 = .ok (.imul, 1) := by decide +kernel
theorem dX12_oddsOf_35 : decode cX12_oddsOf 35 = .ok (.iload 6, 2) := by decide +kernel
theorem dX12_oddsOf_37 : decode cX12_oddsOf 37 = .ok (.iadd, 1) := by decide +kernel
theorem dX12_oddsOf_38 : decode cX12_oddsOf 38 = .ok (.iaload, 1) := by decide +kernel
theorem dX12_oddsOf_39 : decode cX12_oddsOf 39 = .ok (.i2l, 1) := by decide +kernel
theorem dX12_oddsOf_40 : decode cX12_oddsOf 40 = .ok (.lmul, 1) := by decide +kernel
theorem dX12_oddsOf_41 : decode cX12_oddsOf 41 = .ok (.lstore_n 2, 1) := by decide +kernel
theorem dX12_oddsOf_42 : decode cX12_oddsOf 42 = .ok (.lload_n 2, 1) := by decide +kernel
theorem dX12_oddsOf_43 : decode cX12_oddsOf 43 = .ok (.iload 5, 2) := by decide +kernel
theorem dX12_oddsOf_45 : decode cX12_oddsOf 45 = .ok (.iconst 4, 1) := by decide +kernel
theorem dX12_oddsOf_46 : decode cX12_oddsOf 46 = .ok (.if_icmp .gt 31, 3) := by decide +kernel
theorem dX12_oddsOf_49 : decode cX12_oddsOf 49 = .ok (.aload_n 0, 1) := by decide +kernel
theorem dX12_oddsOf_50 : decode cX12_oddsOf 50 = .ok (.getfield 13, 3) := by decide +kernel
theorem dX12_oddsOf_53 : decode cX12_oddsOf 53 = .ok (.iload 5, 2) := by decide +kernel
theorem dX12_oddsOf_55 : decode cX12_oddsOf 55 = .ok (.iaload, 1) := by decide +kernel
theorem dX12_oddsOf_56 : decode cX12_oddsOf 56 = .ok (.iconst (-1), 1) := by decide +kernel
theorem dX12_oddsOf_57 : decode cX12_oddsOf 57 = .ok (.if_icmp .eq 20, 3) := by decide +kernel
theorem dX12_oddsOf_60 : decode cX12_oddsOf 60 = .ok (.aload_n 0, 1) := by decide +kernel
theorem dX12_oddsOf_61 : decode cX12_oddsOf 61 = .ok (.aload_n 0, 1) := by decide +kernel
theorem dX12_oddsOf_62 : decode cX12_oddsOf 62 = .ok (.getfield 13, 3) := by decide +kernel
theorem dX12_oddsOf_65 : decode cX12_oddsOf 65 = .ok (.iload 5, 2) := by decide +kernel
theorem dX12_oddsOf_67 : decode cX12_oddsOf 67 = .ok (.iaload, 1) := by decide +kernel
theorem dX12_oddsOf_68 : decode cX12_oddsOf 68 = .ok (.iload 6, 2) := by decide +kernel
theorem dX12_oddsOf_70 : decode cX12_oddsOf 70 = .ok (.invokevirtual 108, 3) := by decide +kernel
theorem dX12_oddsOf_73 : decode cX12_oddsOf 73 = .ok (.i2l, 1) := by decide +kernel
theorem dX12_oddsOf_74 : decode cX12_oddsOf 74 = .ok (.goto 4, 3) := by decide +kernel
theorem dX12_oddsOf_77 : decode cX12_oddsOf 77 = .ok (.lconst 1, 1) := by decide +kernel
theorem dX12_oddsOf_78 : decode cX12_oddsOf 78 = .ok (.lmul, 1) := by decide +kernel
theorem dX12_oddsOf_79 : decode cX12_oddsOf 79 = .ok (.lstore_n 2, 1) := by decide +kernel
theorem dX12_oddsOf_80 : decode cX12_oddsOf 80 = .ok (.iload 6, 2) := by decide +kernel
theorem dX12_oddsOf_82 : decode cX12_oddsOf 82 = .ok (.istore 4, 2) := by decide +kernel
theorem dX12_oddsOf_84 : decode cX12_oddsOf 84 = .ok (.iinc 5 1, 3) := by decide +kernel
theorem dX12_oddsOf_87 : decode cX12_oddsOf 87 = .ok (.goto (-76), 3) := by decide +kernel
theorem dX12_oddsOf_90 : decode cX12_oddsOf 90 = .ok (.lload_n 2, 1) := by decide +kernel
theorem dX12_oddsOf_91 : decode cX12_oddsOf 91 = .ok (.lreturn, 1) := by decide +kernel
theorem dX12_weightOf_0 : decode cX12_weightOf 0 = .ok (.lconst 0, 1) := by decide +kernel
theorem dX12_weightOf_1 : decode cX12_weightOf 1 = .ok (.lstore_n 3, 1) := by decide +kernel
theorem dX12_weightOf_2 : decode cX12_weightOf 2 = .ok (.iconst 0, 1) := by decide +kernel
theorem dX12_weightOf_3 : decode cX12_weightOf 3 = .ok (.istore 5, 2) := by decide +kernel
theorem dX12_weightOf_5 : decode cX12_weightOf 5 = .ok (.iload 5, 2) := by decide +kernel
theorem dX12_weightOf_7 : decode cX12_weightOf 7 = .ok (.sipush 729, 3) := by decide +kernel
theorem dX12_weightOf_10 : decode cX12_weightOf 10 = .ok (.if_icmp .ge 37, 3) := by decide +kernel
theorem dX12_weightOf_13 : decode cX12_weightOf 13 = .ok (.lload_n 3, 1) := by decide +kernel
theorem dX12_weightOf_14 : decode cX12_weightOf 14 = .ok (.iload_n 2, 1) := by decide +kernel
theorem dX12_weightOf_15 : decode cX12_weightOf 15 = .ok (.iconst (-1), 1) := by decide +kernel
theorem dX12_weightOf_16 : decode cX12_weightOf 16 = .ok (.if_icmp .eq 13, 3) := by decide +kernel
theorem dX12_weightOf_19 : decode cX12_weightOf 19 = .ok (.iload 5, 2) := by decide +kernel
theorem dX12_weightOf_21 : decode cX12_weightOf 21 = .ok (.iload_n 1, 1) := by decide +kernel
theorem dX12_weightOf_22 : decode cX12_weightOf 22 = .ok (.invokestatic 104, 3) := by decide +kernel
theorem dX12_weightOf_25 : decode cX12_weightOf 25 = .ok (.iload_n 2, 1) := by decide +kernel
theorem dX12_weightOf_26 : decode cX12_weightOf 26 = .ok (.if_icmp .ne 12, 3) := by decide +kernel
theorem dX12_weightOf_29 : decode cX12_weightOf 29 = .ok (.aload_n 0, 1) := by decide +kernel
theorem dX12_weightOf_30 : decode cX12_weightOf 30 = .ok (.iload 5, 2) := by decide +kernel
theorem dX12_weightOf_32 : decode cX12_weightOf 32 = .ok (.invokevirtual 111, 3) := by decide +kernel
theorem dX12_weightOf_35 : decode cX12_weightOf 35 = .ok (.goto 4, 3) := by decide +kernel
theorem dX12_weightOf_38 : decode cX12_weightOf 38 = .ok (.lconst 0, 1) := by decide +kernel
theorem dX12_weightOf_39 : decode cX12_weightOf 39 = .ok (.ladd, 1) := by decide +kernel
theorem dX12_weightOf_40 : decode cX12_weightOf 40 = .ok (.lstore_n 3, 1) := by decide +kernel
theorem dX12_weightOf_41 : decode cX12_weightOf 41 = .ok (.iinc 5 1, 3) := by decide +kernel
theorem dX12_weightOf_44 : decode cX12_weightOf 44 = .ok (.goto (-39), 3) := by decide +kernel
theorem dX12_weightOf_47 : decode cX12_weightOf 47 = .ok (.lload_n 3, 1) := by decide +kernel
theorem dX12_weightOf_48 : decode cX12_weightOf 48 = .ok (.lreturn, 1) := by decide +kernel
theorem dX12_toldMany_0 : decode cX12_toldMany 0 = .ok (.iconst 0, 1) := by decide +kernel
theorem dX12_toldMany_1 : decode cX12_toldMany 1 = .ok (.istore_n 1, 1) := by decide +kernel
theorem dX12_toldMany_2 : decode cX12_toldMany 2 = .ok (.iconst 1, 1) := by decide +kernel
theorem dX12_toldMany_3 : decode cX12_toldMany 3 = .ok (.istore_n 2, 1) := by decide +kernel
theorem dX12_toldMany_4 : decode cX12_toldMany 4 = .ok (.iload_n 2, 1) := by decide +kernel
theorem dX12_toldMany_5 : decode cX12_toldMany 5 = .ok (.iconst 4, 1) := by decide +kernel
theorem dX12_toldMany_6 : decode cX12_toldMany 6 = .ok (.if_icmp .gt 27, 3) := by decide +kernel
theorem dX12_toldMany_9 : decode cX12_toldMany 9 = .ok (.iload_n 1, 1) := by decide +kernel
theorem dX12_toldMany_10 : decode cX12_toldMany 10 = .ok (.aload_n 0, 1) := by decide +kernel
theorem dX12_toldMany_11 : decode cX12_toldMany 11 = .ok (.getfield 13, 3) := by decide +kernel
theorem dX12_toldMany_14 : decode cX12_toldMany 14 = .ok (.iload_n 2, 1) := by decide +kernel
theorem dX12_toldMany_15 : decode cX12_toldMany 15 = .ok (.iaload, 1) := by decide +kernel
theorem dX12_toldMany_16 : decode cX12_toldMany 16 = .ok (.iconst (-1), 1) := by decide +kernel
theorem dX12_toldMany_17 : decode cX12_toldMany 17 = .ok (.if_icmp .ne 7, 3) := by decide +kernel
theorem dX12_toldMany_20 : decode cX12_toldMany 20 = .ok (.iconst 0, 1) := by decide +kernel
theorem dX12_toldMany_21 : decode cX12_toldMany 21 = .ok (.goto 4, 3) := by decide +kernel
theorem dX12_toldMany_24 : decode cX12_toldMany 24 = .ok (.iconst 1, 1) := by decide +kernel
theorem dX12_toldMany_25 : decode cX12_toldMany 25 = .ok (.iadd, 1) := by decide +kernel
theorem dX12_toldMany_26 : decode cX12_toldMany 26 = .ok (.istore_n 1, 1) := by decide +kernel
theorem dX12_toldMany_27 : decode cX12_toldMany 27 = .ok (.iinc 2 1, 3) := by decide +kernel
theorem dX12_toldMany_30 : decode cX12_toldMany 30 = .ok (.goto (-26), 3) := by decide +kernel
theorem dX12_toldMany_33 : decode cX12_toldMany 33 = .ok (.iload_n 1, 1) := by decide +kernel
theorem dX12_toldMany_34 : decode cX12_toldMany 34 = .ok (.ireturn, 1) := by decide +kernel
theorem dX12_reading_0 : decode cX12_reading 0 = .ok (.iload_n 1, 1) := by decide +kernel
theorem dX12_reading_1 : decode cX12_reading 1 = .ok (.invokestatic 101, 3) := by decide +kernel
theorem dX12_reading_4 : decode cX12_reading 4 = .ok (.ifCond .ne 6, 3) := by decide +kernel
theorem dX12_reading_7 : decode cX12_reading 7 = .ok (.bipush (-101), 2) := by decide +kernel
theorem dX12_reading_9 : decode cX12_reading 9 = .ok (.ireturn, 1) := by decide +kernel
theorem dX12_reading_10 : decode cX12_reading 10 = .ok (.aload_n 0, 1) := by decide +kernel
theorem dX12_reading_11 : decode cX12_reading 11 = .ok (.getfield 82, 3) := by decide +kernel
theorem dX12_reading_14 : decode cX12_reading 14 = .ok (.ifCond .ne 6, 3) := by decide +kernel
theorem dX12_reading_17 : decode cX12_reading 17 = .ok (.bipush (-103), 2) := by decide +kernel
theorem dX12_reading_19 : decode cX12_reading 19 = .ok (.ireturn, 1) := by decide +kernel
theorem dX12_reading_20 : decode cX12_reading 20 = .ok (.aload_n 0, 1) := by decide +kernel
theorem dX12_reading_21 : decode cX12_reading 21 = .ok (.getfield 13, 3) := by decide +kernel
theorem dX12_reading_24 : decode cX12_reading 24 = .ok (.aload_n 0, 1) := by decide +kernel
theorem dX12_reading_25 : decode cX12_reading 25 = .ok (.getfield 76, 3) := by decide +kernel
theorem dX12_reading_28 : decode cX12_reading 28 = .ok (.iaload, 1) := by decide +kernel
theorem dX12_reading_29 : decode cX12_reading 29 = .ok (.istore_n 2, 1) := by decide +kernel
theorem dX12_reading_30 : decode cX12_reading 30 = .ok (.aload_n 0, 1) := by decide +kernel
theorem dX12_reading_31 : decode cX12_reading 31 = .ok (.getfield 13, 3) := by decide +kernel
theorem dX12_reading_34 : decode cX12_reading 34 = .ok (.aload_n 0, 1) := by decide +kernel
theorem dX12_reading_35 : decode cX12_reading 35 = .ok (.getfield 76, 3) := by decide +kernel
theorem dX12_reading_38 : decode cX12_reading 38 = .ok (.iload_n 1, 1) := by decide +kernel
theorem dX12_reading_39 : decode cX12_reading 39 = .ok (.iastore, 1) := by decide +kernel
theorem dX12_reading_40 : decode cX12_reading 40 = .ok (.aload_n 0, 1) := by decide +kernel
theorem dX12_reading_41 : decode cX12_reading 41 = .ok (.iconst 1, 1) := by decide +kernel
theorem dX12_reading_42 : decode cX12_reading 42 = .ok (.iconst (-1), 1) := by decide +kernel
theorem dX12_reading_43 : decode cX12_reading 43 = .ok (.invokevirtual 115, 3) := by decide +kernel
theorem dX12_reading_46 : decode cX12_reading 46 = .ok (.lconst 0, 1) := by decide +kernel
theorem dX12_reading_47 : decode cX12_reading 47 = .ok (.lcmp, 1) := by decide +kernel
theorem dX12_reading_48 : decode cX12_reading 48 = .ok (.ifCond .ne 16, 3) := by decide +kernel
theorem dX12_reading_51 : decode cX12_reading 51 = .ok (.aload_n 0, 1) := by decide +kernel
theorem dX12_reading_52 : decode cX12_reading 52 = .ok (.getfield 13, 3) := by decide +kernel
theorem dX12_reading_55 : decode cX12_reading 55 = .ok (.aload_n 0, 1) := by decide +kernel
theorem dX12_reading_56 : decode cX12_reading 56 = .ok (.getfield 76, 3) := by decide +kernel
theorem dX12_reading_59 : decode cX12_reading 59 = .ok (.iload_n 2, 1) := by decide +kernel
theorem dX12_reading_60 : decode cX12_reading 60 = .ok (.iastore, 1) := by decide +kernel
theorem dX12_reading_61 : decode cX12_reading 61 = .ok (.bipush (-103), 2) := by decide +kernel
theorem dX12_reading_63 : decode cX12_reading 63 = .ok (.ireturn, 1) := by decide +kernel
theorem dX12_reading_64 : decode cX12_reading 64 = .ok (.aload_n 0, 1) := by decide +kernel
theorem dX12_reading_65 : decode cX12_reading 65 = .ok (.invokevirtual 119, 3) := by decide +kernel
theorem dX12_reading_68 : decode cX12_reading 68 = .ok (.ireturn, 1) := by decide +kernel
theorem dX12_told_0 : decode cX12_told 0 = .ok (.iload_n 1, 1) := by decide +kernel
theorem dX12_told_1 : decode cX12_told 1 = .ok (.iconst 1, 1) := by decide +kernel
theorem dX12_told_2 : decode cX12_told 2 = .ok (.iconst 4, 1) := by decide +kernel
theorem dX12_told_3 : decode cX12_told 3 = .ok (.invokestatic 56, 3) := by decide +kernel
theorem dX12_told_6 : decode cX12_told 6 = .ok (.ifCond .ne 6, 3) := by decide +kernel
theorem dX12_told_9 : decode cX12_told 9 = .ok (.bipush (-101), 2) := by decide +kernel
theorem dX12_told_11 : decode cX12_told 11 = .ok (.ireturn, 1) := by decide +kernel
theorem dX12_told_12 : decode cX12_told 12 = .ok (.aload_n 0, 1) := by decide +kernel
theorem dX12_told_13 : decode cX12_told 13 = .ok (.getfield 82, 3) := by decide +kernel
theorem dX12_told_16 : decode cX12_told 16 = .ok (.ifCond .eq 12, 3) := by decide +kernel
theorem dX12_told_19 : decode cX12_told 19 = .ok (.aload_n 0, 1) := by decide +kernel
theorem dX12_told_20 : decode cX12_told 20 = .ok (.getfield 13, 3) := by decide +kernel
theorem dX12_told_23 : decode cX12_told 23 = .ok (.iload_n 1, 1) := by decide +kernel
theorem dX12_told_24 : decode cX12_told 24 = .ok (.iaload, 1) := by decide +kernel
theorem dX12_told_25 : decode cX12_told 25 = .ok (.goto 5, 3) := by decide +kernel
theorem dX12_told_28 : decode cX12_told 28 = .ok (.bipush (-103), 2) := by decide +kernel
theorem dX12_told_30 : decode cX12_told 30 = .ok (.ireturn, 1) := by decide +kernel
theorem dX12_covers_0 : decode cX12_covers 0 = .ok (.aload_n 0, 1) := by decide +kernel
theorem dX12_covers_1 : decode cX12_covers 1 = .ok (.getfield 13, 3) := by decide +kernel
theorem dX12_covers_4 : decode cX12_covers 4 = .ok (.iconst 1, 1) := by decide +kernel
theorem dX12_covers_5 : decode cX12_covers 5 = .ok (.iaload, 1) := by decide +kernel
theorem dX12_covers_6 : decode cX12_covers 6 = .ok (.istore_n 2, 1) := by decide +kernel
theorem dX12_covers_7 : decode cX12_covers 7 = .ok (.aload_n 0, 1) := by decide +kernel
theorem dX12_covers_8 : decode cX12_covers 8 = .ok (.getfield 16, 3) := by decide +kernel
theorem dX12_covers_11 : decode cX12_covers 11 = .ok (.iload_n 1, 1) := by decide +kernel
theorem dX12_covers_12 : decode cX12_covers 12 = .ok (.iaload, 1) := by decide +kernel
theorem dX12_covers_13 : decode cX12_covers 13 = .ok (.tableswitch 118 1 4 #[31, 69, 91, 102], 31) := by decide +kernel
theorem dX12_covers_44 : decode cX12_covers 44 = .ok (.aload_n 0, 1) := by decide +kernel
theorem dX12_covers_45 : decode cX12_covers 45 = .ok (.getfield 22, 3) := by decide +kernel
theorem dX12_covers_48 : decode cX12_covers 48 = .ok (.iload_n 1, 1) := by decide +kernel
theorem dX12_covers_49 : decode cX12_covers 49 = .ok (.iaload, 1) := by decide +kernel
theorem dX12_covers_50 : decode cX12_covers 50 = .ok (.i2l, 1) := by decide +kernel
theorem dX12_covers_51 : decode cX12_covers 51 = .ok (.aload_n 0, 1) := by decide +kernel
theorem dX12_covers_52 : decode cX12_covers 52 = .ok (.iconst 1, 1) := by decide +kernel
theorem dX12_covers_53 : decode cX12_covers 53 = .ok (.iconst 1, 1) := by decide +kernel
theorem dX12_covers_54 : decode cX12_covers 54 = .ok (.invokevirtual 115, 3) := by decide +kernel
theorem dX12_covers_57 : decode cX12_covers 57 = .ok (.lmul, 1) := by decide +kernel
theorem dX12_covers_58 : decode cX12_covers 58 = .ok (.aload_n 0, 1) := by decide +kernel
theorem dX12_covers_59 : decode cX12_covers 59 = .ok (.getfield 19, 3) := by decide +kernel
theorem dX12_covers_62 : decode cX12_covers 62 = .ok (.iload_n 1, 1) := by decide +kernel
theorem dX12_covers_63 : decode cX12_covers 63 = .ok (.iaload, 1) := by decide +kernel
theorem dX12_covers_64 : decode cX12_covers 64 = .ok (.i2l, 1) := by decide +kernel
theorem dX12_covers_65 : decode cX12_covers 65 = .ok (.aload_n 0, 1) := by decide +kernel
theorem dX12_covers_66 : decode cX12_covers 66 = .ok (.iconst 1, 1) := by decide +kernel
theorem dX12_covers_67 : decode cX12_covers 67 = .ok (.iconst (-1), 1) := by decide +kernel
theorem dX12_covers_68 : decode cX12_covers 68 = .ok (.invokevirtual 115, 3) := by decide +kernel
theorem dX12_covers_71 : decode cX12_covers 71 = .ok (.lmul, 1) := by decide +kernel
theorem dX12_covers_72 : decode cX12_covers 72 = .ok (.lcmp, 1) := by decide +kernel
theorem dX12_covers_73 : decode cX12_covers 73 = .ok (.ifCond .le 7, 3) := by decide +kernel
theorem dX12_covers_76 : decode cX12_covers 76 = .ok (.iconst 1, 1) := by decide +kernel
theorem dX12_covers_77 : decode cX12_covers 77 = .ok (.goto 4, 3) := by decide +kernel
theorem dX12_covers_80 : decode cX12_covers 80 = .ok (.iconst 0, 1) := by decide +kernel
theorem dX12_covers_81 : decode cX12_covers 81 = .ok (.ireturn, 1) := by decide +kernel
theorem dX12_covers_82 : decode cX12_covers 82 = .ok (.aload_n 0, 1) := by decide +kernel
theorem dX12_covers_83 : decode cX12_covers 83 = .ok (.iconst 1, 1) := by decide +kernel
theorem dX12_covers_84 : decode cX12_covers 84 = .ok (.iconst 1, 1) := by decide +kernel
theorem dX12_covers_85 : decode cX12_covers 85 = .ok (.invokevirtual 115, 3) := by decide +kernel
theorem dX12_covers_88 : decode cX12_covers 88 = .ok (.aload_n 0, 1) := by decide +kernel
theorem dX12_covers_89 : decode cX12_covers 89 = .ok (.iconst 1, 1) := by decide +kernel
theorem dX12_covers_90 : decode cX12_covers 90 = .ok (.iconst (-1), 1) := by decide +kernel
theorem dX12_covers_91 : decode cX12_covers 91 = .ok (.invokevirtual 115, 3) := by decide +kernel
theorem dX12_covers_94 : decode cX12_covers 94 = .ok (.lcmp, 1) := by decide +kernel
theorem dX12_covers_95 : decode cX12_covers 95 = .ok (.ifCond .ne 7, 3) := by decide +kernel
theorem dX12_covers_98 : decode cX12_covers 98 = .ok (.iconst 1, 1) := by decide +kernel
theorem dX12_covers_99 : decode cX12_covers 99 = .ok (.goto 4, 3) := by decide +kernel
theorem dX12_covers_102 : decode cX12_covers 102 = .ok (.iconst 0, 1) := by decide +kernel
theorem dX12_covers_103 : decode cX12_covers 103 = .ok (.ireturn, 1) := by decide +kernel
theorem dX12_covers_104 : decode cX12_covers 104 = .ok (.iload_n 2, 1) := by decide +kernel
theorem dX12_covers_105 : decode cX12_covers 105 = .ok (.iconst 1, 1) := by decide +kernel
theorem dX12_covers_106 : decode cX12_covers 106 = .ok (.if_icmp .eq 7, 3) := by decide +kernel
theorem dX12_covers_109 : decode cX12_covers 109 = .ok (.iconst 1, 1) := by decide +kernel
theorem dX12_covers_110 : decode cX12_covers 110 = .ok (.goto 4, 3) := by decide +kernel
theorem dX12_covers_113 : decode cX12_covers 113 = .ok (.iconst 0, 1) := by decide +kernel
theorem dX12_covers_114 : decode cX12_covers 114 = .ok (.ireturn, 1) := by decide +kernel
theorem dX12_covers_115 : decode cX12_covers 115 = .ok (.iload_n 2, 1) := by decide +kernel
theorem dX12_covers_116 : decode cX12_covers 116 = .ok (.iconst 1, 1) := by decide +kernel
theorem dX12_covers_117 : decode cX12_covers 117 = .ok (.if_icmp .eq 12, 3) := by decide +kernel
theorem dX12_covers_120 : decode cX12_covers 120 = .ok (.iload_n 2, 1) := by decide +kernel
theorem dX12_covers_121 : decode cX12_covers 121 = .ok (.iconst (-1), 1) := by decide +kernel
theorem dX12_covers_122 : decode cX12_covers 122 = .ok (.if_icmp .eq 7, 3) := by decide +kernel
theorem dX12_covers_125 : decode cX12_covers 125 = .ok (.iconst 1, 1) := by decide +kernel
theorem dX12_covers_126 : decode cX12_covers 126 = .ok (.goto 4, 3) := by decide +kernel
theorem dX12_covers_129 : decode cX12_covers 129 = .ok (.iconst 0, 1) := by decide +kernel
theorem dX12_covers_130 : decode cX12_covers 130 = .ok (.ireturn, 1) := by decide +kernel
theorem dX12_covers_131 : decode cX12_covers 131 = .ok (.iload_n 2, 1) := by decide +kernel
theorem dX12_covers_132 : decode cX12_covers 132 = .ok (.iconst 1, 1) := by decide +kernel
theorem dX12_covers_133 : decode cX12_covers 133 = .ok (.if_icmp .ne 7, 3) := by decide +kernel
theorem dX12_covers_136 : decode cX12_covers 136 = .ok (.iconst 1, 1) := by decide +kernel
theorem dX12_covers_137 : decode cX12_covers 137 = .ok (.goto 4, 3) := by decide +kernel
theorem dX12_covers_140 : decode cX12_covers 140 = .ok (.iconst 0, 1) := by decide +kernel
theorem dX12_covers_141 : decode cX12_covers 141 = .ok (.ireturn, 1) := by decide +kernel
theorem dX12_goDay_0 : decode cX12_goDay 0 = .ok (.iconst 0, 1) := by decide +kernel
theorem dX12_goDay_1 : decode cX12_goDay 1 = .ok (.istore_n 3, 1) := by decide +kernel
theorem dX12_goDay_2 : decode cX12_goDay 2 = .ok (.iconst 0, 1) := by decide +kernel
theorem dX12_goDay_3 : decode cX12_goDay 3 = .ok (.istore 4, 2) := by decide +kernel
theorem dX12_goDay_5 : decode cX12_goDay 5 = .ok (.iload 4, 2) := by decide +kernel
theorem dX12_goDay_7 : decode cX12_goDay 7 = .ok (.aload_n 0, 1) := by decide +kernel
theorem dX12_goDay_8 : decode cX12_goDay 8 = .ok (.getfield 95, 3) := by decide +kernel
theorem dX12_goDay_11 : decode cX12_goDay 11 = .ok (.if_icmp .ge 71, 3) := by decide +kernel
theorem dX12_goDay_14 : decode cX12_goDay 14 = .ok (.aload_n 0, 1) := by decide +kernel
theorem dX12_goDay_15 : decode cX12_goDay 15 = .ok (.iload 4, 2) := by decide +kernel
theorem dX12_goDay_17 : decode cX12_goDay 17 = .ok (.invokevirtual 122, 3) := by decide +kernel
theorem dX12_goDay_20 : decode cX12_goDay 20 = .ok (.ifCond .eq 13, 3) := by decide +kernel
theorem dX12_goDay_23 : decode cX12_goDay 23 = .ok (.aload_n 0, 1) := by decide +kernel
theorem dX12_goDay_24 : decode cX12_goDay 24 = .ok (.getfield 19, 3) := by decide +kernel
theorem dX12_goDay_27 : decode cX12_goDay 27 = .ok (.iload 4, 2) := by decide +kernel
theorem dX12_goDay_29 : decode cX12_goDay 29 = .ok (.iaload, 1) := by decide +kernel
theorem dX12_goDay_30 : decode cX12_goDay 30 = .ok (.goto 19, 3) := by decide +kernel
theorem dX12_goDay_33 : decode cX12_goDay 33 = .ok (.iload_n 1, 1) := by decide +kernel
theorem dX12_goDay_34 : decode cX12_goDay 34 = .ok (.iconst 1, 1) := by decide +kernel
theorem dX12_goDay_35 : decode cX12_goDay 35 = .ok (.if_icmp .ne 13, 3) := by decide +kernel
theorem dX12_goDay_38 : decode cX12_goDay 38 = .ok (.aload_n 0, 1) := by decide +kernel
theorem dX12_goDay_39 : decode cX12_goDay 39 = .ok (.getfield 22, 3) := by decide +kernel
theorem dX12_goDay_42 : decode cX12_goDay 42 = .ok (.iload 4, 2) := by decide +kernel
theorem dX12_goDay_44 : decode cX12_goDay 44 = .ok (.iaload, 1) := by decide +kernel
theorem dX12_goDay_45 : decode cX12_goDay 45 = .ok (.goto 4, 3) := by decide +kernel
theorem dX12_goDay_48 : decode cX12_goDay 48 = .ok (.iconst 0, 1) := by decide +kernel
theorem dX12_goDay_49 : decode cX12_goDay 49 = .ok (.istore 5, 2) := by decide +kernel
theorem dX12_goDay_51 : decode cX12_goDay 51 = .ok (.aload_n 0, 1) := by decide +kernel
theorem dX12_goDay_52 : decode cX12_goDay 52 = .ok (.getfield 25, 3) := by decide +kernel
theorem dX12_goDay_55 : decode cX12_goDay 55 = .ok (.iload 4, 2) := by decide +kernel
theorem dX12_goDay_57 : decode cX12_goDay 57 = .ok (.dup2, 1) := by decide +kernel
theorem dX12_goDay_58 : decode cX12_goDay 58 = .ok (.iaload, 1) := by decide +kernel
theorem dX12_goDay_59 : decode cX12_goDay 59 = .ok (.iload_n 2, 1) := by decide +kernel
theorem dX12_goDay_60 : decode cX12_goDay 60 = .ok (.ifCond .eq 8, 3) := by decide +kernel
theorem dX12_goDay_63 : decode cX12_goDay 63 = .ok (.iload 5, 2) := by decide +kernel
theorem dX12_goDay_65 : decode cX12_goDay 65 = .ok (.goto 4, 3) := by decide +kernel
theorem dX12_goDay_68 : decode cX12_goDay 68 = .ok (.iconst 0, 1) := by decide +kernel
theorem dX12_goDay_69 : decode cX12_goDay 69 = .ok (.iadd, 1) := by decide +kernel
theorem dX12_goDay_70 : decode cX12_goDay 70 = .ok (.iastore, 1) := by decide +kernel
theorem dX12_goDay_71 : decode cX12_goDay 71 = .ok (.iload_n 3, 1) := by decide +kernel
theorem dX12_goDay_72 : decode cX12_goDay 72 = .ok (.iload 5, 2) := by decide +kernel
theorem dX12_goDay_74 : decode cX12_goDay 74 = .ok (.iadd, 1) := by decide +kernel
theorem dX12_goDay_75 : decode cX12_goDay 75 = .ok (.istore_n 3, 1) := by decide +kernel
theorem dX12_goDay_76 : decode cX12_goDay 76 = .ok (.iinc 4 1, 3) := by decide +kernel
theorem dX12_goDay_79 : decode cX12_goDay 79 = .ok (.goto (-74), 3) := by decide +kernel
theorem dX12_goDay_82 : decode cX12_goDay 82 = .ok (.iconst 1, 1) := by decide +kernel
theorem dX12_goDay_83 : decode cX12_goDay 83 = .ok (.istore 4, 2) := by decide +kernel
theorem dX12_goDay_85 : decode cX12_goDay 85 = .ok (.iload 4, 2) := by decide +kernel
theorem dX12_goDay_87 : decode cX12_goDay 87 = .ok (.iconst 4, 1) := by decide +kernel
theorem dX12_goDay_88 : decode cX12_goDay 88 = .ok (.if_icmp .gt 35, 3) := by decide +kernel
theorem dX12_goDay_91 : decode cX12_goDay 91 = .ok (.aload_n 0, 1) := by decide +kernel
theorem dX12_goDay_92 : decode cX12_goDay 92 = .ok (.getfield 13, 3) := by decide +kernel
theorem dX12_goDay_95 : decode cX12_goDay 95 = .ok (.iload 4, 2) := by decide +kernel
theorem dX12_goDay_97 : decode cX12_goDay 97 = .ok (.iload 4, 2) := by decide +kernel
theorem dX12_goDay_99 : decode cX12_goDay 99 = .ok (.iconst 4, 1) := by decide +kernel
theorem dX12_goDay_100 : decode cX12_goDay 100 = .ok (.if_icmp .ne 7, 3) := by decide +kernel
theorem dX12_goDay_103 : decode cX12_goDay 103 = .ok (.iconst (-1), 1) := by decide +kernel
theorem dX12_goDay_104 : decode cX12_goDay 104 = .ok (.goto 12, 3) := by decide +kernel
theorem dX12_goDay_107 : decode cX12_goDay 107 = .ok (.aload_n 0, 1) := by decide +kernel
theorem dX12_goDay_108 : decode cX12_goDay 108 = .ok (.getfield 13, 3) := by decide +kernel
theorem dX12_goDay_111 : decode cX12_goDay 111 = .ok (.iload 4, 2) := by decide +kernel
theorem dX12_goDay_113 : decode cX12_goDay 113 = .ok (.iconst 1, 1) := by decide +kernel
theorem dX12_goDay_114 : decode cX12_goDay 114 = .ok (.iadd, 1) := by decide +kernel
theorem dX12_goDay_115 : decode cX12_goDay 115 = .ok (.iaload, 1) := by decide +kernel
theorem dX12_goDay_116 : decode cX12_goDay 116 = .ok (.iastore, 1) := by decide +kernel
theorem dX12_goDay_117 : decode cX12_goDay 117 = .ok (.iinc 4 1, 3) := by decide +kernel
theorem dX12_goDay_120 : decode cX12_goDay 120 = .ok (.goto (-35), 3) := by decide +kernel
theorem dX12_goDay_123 : decode cX12_goDay 123 = .ok (.aload_n 0, 1) := by decide +kernel
theorem dX12_goDay_124 : decode cX12_goDay 124 = .ok (.iload_n 1, 1) := by decide +kernel
theorem dX12_goDay_125 : decode cX12_goDay 125 = .ok (.putfield 92, 3) := by decide +kernel
theorem dX12_goDay_128 : decode cX12_goDay 128 = .ok (.aload_n 0, 1) := by decide +kernel
theorem dX12_goDay_129 : decode cX12_goDay 129 = .ok (.dup, 1) := by decide +kernel
theorem dX12_goDay_130 : decode cX12_goDay 130 = .ok (.getfield 89, 3) := by decide +kernel
theorem dX12_goDay_133 : decode cX12_goDay 133 = .ok (.iconst 1, 1) := by decide +kernel
theorem dX12_goDay_134 : decode cX12_goDay 134 = .ok (.iadd, 1) := by decide +kernel
theorem dX12_goDay_135 : decode cX12_goDay 135 = .ok (.putfield 89, 3) := by decide +kernel
theorem dX12_goDay_138 : decode cX12_goDay 138 = .ok (.iload_n 3, 1) := by decide +kernel
theorem dX12_goDay_139 : decode cX12_goDay 139 = .ok (.ireturn, 1) := by decide +kernel
theorem dX12_day_0 : decode cX12_day 0 = .ok (.iload_n 1, 1) := by decide +kernel
theorem dX12_day_1 : decode cX12_day 1 = .ok (.invokestatic 101, 3) := by decide +kernel
theorem dX12_day_4 : decode cX12_day 4 = .ok (.ifCond .ne 6, 3) := by decide +kernel
theorem dX12_day_7 : decode cX12_day 7 = .ok (.bipush (-101), 2) := by decide +kernel
theorem dX12_day_9 : decode cX12_day 9 = .ok (.ireturn, 1) := by decide +kernel
theorem dX12_day_10 : decode cX12_day 10 = .ok (.aload_n 0, 1) := by decide +kernel
theorem dX12_day_11 : decode cX12_day 11 = .ok (.getfield 82, 3) := by decide +kernel
theorem dX12_day_14 : decode cX12_day 14 = .ok (.ifCond .eq 14, 3) := by decide +kernel
theorem dX12_day_17 : decode cX12_day 17 = .ok (.aload_n 0, 1) := by decide +kernel
theorem dX12_day_18 : decode cX12_day 18 = .ok (.iconst 1, 1) := by decide +kernel
theorem dX12_day_19 : decode cX12_day 19 = .ok (.iload_n 1, 1) := by decide +kernel
theorem dX12_day_20 : decode cX12_day 20 = .ok (.invokevirtual 115, 3) := by decide +kernel
theorem dX12_day_23 : decode cX12_day 23 = .ok (.lconst 0, 1) := by decide +kernel
theorem dX12_day_24 : decode cX12_day 24 = .ok (.lcmp, 1) := by decide +kernel
theorem dX12_day_25 : decode cX12_day 25 = .ok (.ifCond .ne 6, 3) := by decide +kernel
theorem dX12_day_28 : decode cX12_day 28 = .ok (.bipush (-103), 2) := by decide +kernel
theorem dX12_day_30 : decode cX12_day 30 = .ok (.ireturn, 1) := by decide +kernel
theorem dX12_day_31 : decode cX12_day 31 = .ok (.aload_n 0, 1) := by decide +kernel
theorem dX12_day_32 : decode cX12_day 32 = .ok (.iload_n 1, 1) := by decide +kernel
theorem dX12_day_33 : decode cX12_day 33 = .ok (.iconst 1, 1) := by decide +kernel
theorem dX12_day_34 : decode cX12_day 34 = .ok (.invokevirtual 125, 3) := by decide +kernel
theorem dX12_day_37 : decode cX12_day 37 = .ok (.pop, 1) := by decide +kernel
theorem dX12_day_38 : decode cX12_day 38 = .ok (.aload_n 0, 1) := by decide +kernel
theorem dX12_day_39 : decode cX12_day 39 = .ok (.getfield 89, 3) := by decide +kernel
theorem dX12_day_42 : decode cX12_day 42 = .ok (.ireturn, 1) := by decide +kernel
theorem dX12_isPerson_0 : decode cX12_isPerson 0 = .ok (.iload_n 1, 1) := by decide +kernel
theorem dX12_isPerson_1 : decode cX12_isPerson 1 = .ok (.iconst 0, 1) := by decide +kernel
theorem dX12_isPerson_2 : decode cX12_isPerson 2 = .ok (.aload_n 0, 1) := by decide +kernel
theorem dX12_isPerson_3 : decode cX12_isPerson 3 = .ok (.getfield 95, 3) := by decide +kernel
theorem dX12_isPerson_6 : decode cX12_isPerson 6 = .ok (.iconst 1, 1) := by decide +kernel
theorem dX12_isPerson_7 : decode cX12_isPerson 7 = .ok (.isub, 1) := by decide +kernel
theorem dX12_isPerson_8 : decode cX12_isPerson 8 = .ok (.invokestatic 56, 3) := by decide +kernel
theorem dX12_isPerson_11 : decode cX12_isPerson 11 = .ok (.ireturn, 1) := by decide +kernel
theorem dX12_person_0 : decode cX12_person 0 = .ok (.iload_n 1, 1) := by decide +kernel
theorem dX12_person_1 : decode cX12_person 1 = .ok (.iconst 0, 1) := by decide +kernel
theorem dX12_person_2 : decode cX12_person 2 = .ok (.iconst 4, 1) := by decide +kernel
theorem dX12_person_3 : decode cX12_person 3 = .ok (.invokestatic 56, 3) := by decide +kernel
theorem dX12_person_6 : decode cX12_person 6 = .ok (.ifCond .eq 23, 3) := by decide +kernel
theorem dX12_person_9 : decode cX12_person 9 = .ok (.iload_n 2, 1) := by decide +kernel
theorem dX12_person_10 : decode cX12_person 10 = .ok (.iconst 1, 1) := by decide +kernel
theorem dX12_person_11 : decode cX12_person 11 = .ok (.bipush 9, 2) := by decide +kernel
theorem dX12_person_13 : decode cX12_person 13 = .ok (.invokestatic 56, 3) := by decide +kernel
theorem dX12_person_16 : decode cX12_person 16 = .ok (.ifCond .eq 13, 3) := by decide +kernel
theorem dX12_person_19 : decode cX12_person 19 = .ok (.iload_n 3, 1) := by decide +kernel
theorem dX12_person_20 : decode cX12_person 20 = .ok (.iconst 1, 1) := by decide +kernel
theorem dX12_person_21 : decode cX12_person 21 = .ok (.bipush 9, 2) := by decide +kernel
theorem dX12_person_23 : decode cX12_person 23 = .ok (.invokestatic 56, 3) := by decide +kernel
theorem dX12_person_26 : decode cX12_person 26 = .ok (.ifCond .ne 6, 3) := by decide +kernel
theorem dX12_person_29 : decode cX12_person 29 = .ok (.bipush (-102), 2) := by decide +kernel
theorem dX12_person_31 : decode cX12_person 31 = .ok (.ireturn, 1) := by decide +kernel
theorem dX12_person_32 : decode cX12_person 32 = .ok (.aload_n 0, 1) := by decide +kernel
theorem dX12_person_33 : decode cX12_person 33 = .ok (.getfield 82, 3) := by decide +kernel
theorem dX12_person_36 : decode cX12_person 36 = .ok (.ifCond .ne 6, 3) := by decide +kernel
theorem dX12_person_39 : decode cX12_person 39 = .ok (.bipush (-103), 2) := by decide +kernel
theorem dX12_person_41 : decode cX12_person 41 = .ok (.ireturn, 1) := by decide +kernel
theorem dX12_person_42 : decode cX12_person 42 = .ok (.aload_n 0, 1) := by decide +kernel
theorem dX12_person_43 : decode cX12_person 43 = .ok (.getfield 95, 3) := by decide +kernel
theorem dX12_person_46 : decode cX12_person 46 = .ok (.iconst 4, 1) := by decide +kernel
theorem dX12_person_47 : decode cX12_person 47 = .ok (.if_icmp .ne 6, 3) := by decide +kernel
theorem dX12_person_50 : decode cX12_person 50 = .ok (.bipush (-104), 2) := by decide +kernel
theorem dX12_person_52 : decode cX12_person 52 = .ok (.ireturn, 1) := by decide +kernel
theorem dX12_person_53 : decode cX12_person 53 = .ok (.aload_n 0, 1) := by decide +kernel
theorem dX12_person_54 : decode cX12_person 54 = .ok (.getfield 16, 3) := by decide +kernel
theorem dX12_person_57 : decode cX12_person 57 = .ok (.aload_n 0, 1) := by decide +kernel
theorem dX12_person_58 : decode cX12_person 58 = .ok (.getfield 95, 3) := by decide +kernel
theorem dX12_person_61 : decode cX12_person 61 = .ok (.iload_n 1, 1) := by decide +kernel
theorem dX12_person_62 : decode cX12_person 62 = .ok (.iastore, 1) := by decide +kernel
theorem dX12_person_63 : decode cX12_person 63 = .ok (.aload_n 0, 1) := by decide +kernel
theorem dX12_person_64 : decode cX12_person 64 = .ok (.getfield 19, 3) := by decide +kernel
theorem dX12_person_67 : decode cX12_person 67 = .ok (.aload_n 0, 1) := by decide +kernel
theorem dX12_person_68 : decode cX12_person 68 = .ok (.getfield 95, 3) := by decide +kernel
theorem dX12_person_71 : decode cX12_person 71 = .ok (.iload_n 2, 1) := by decide +kernel
theorem dX12_person_72 : decode cX12_person 72 = .ok (.iastore, 1) := by decide +kernel
theorem dX12_person_73 : decode cX12_person 73 = .ok (.aload_n 0, 1) := by decide +kernel
theorem dX12_person_74 : decode cX12_person 74 = .ok (.getfield 22, 3) := by decide +kernel
theorem dX12_person_77 : decode cX12_person 77 = .ok (.aload_n 0, 1) := by decide +kernel
theorem dX12_person_78 : decode cX12_person 78 = .ok (.getfield 95, 3) := by decide +kernel
theorem dX12_person_81 : decode cX12_person 81 = .ok (.iload_n 3, 1) := by decide +kernel
theorem dX12_person_82 : decode cX12_person 82 = .ok (.iastore, 1) := by decide +kernel
theorem dX12_person_83 : decode cX12_person 83 = .ok (.aload_n 0, 1) := by decide +kernel
theorem dX12_person_84 : decode cX12_person 84 = .ok (.getfield 25, 3) := by decide +kernel
theorem dX12_person_87 : decode cX12_person 87 = .ok (.aload_n 0, 1) := by decide +kernel
theorem dX12_person_88 : decode cX12_person 88 = .ok (.getfield 95, 3) := by decide +kernel
theorem dX12_person_91 : decode cX12_person 91 = .ok (.iconst 0, 1) := by decide +kernel
theorem dX12_person_92 : decode cX12_person 92 = .ok (.iastore, 1) := by decide +kernel
theorem dX12_person_93 : decode cX12_person 93 = .ok (.aload_n 0, 1) := by decide +kernel
theorem dX12_person_94 : decode cX12_person 94 = .ok (.dup, 1) := by decide +kernel
theorem dX12_person_95 : decode cX12_person 95 = .ok (.getfield 95, 3) := by decide +kernel
theorem dX12_person_98 : decode cX12_person 98 = .ok (.iconst 1, 1) := by decide +kernel
theorem dX12_person_99 : decode cX12_person 99 = .ok (.iadd, 1) := by decide +kernel
theorem dX12_person_100 : decode cX12_person 100 = .ok (.putfield 95, 3) := by decide +kernel
theorem dX12_person_103 : decode cX12_person 103 = .ok (.aload_n 0, 1) := by decide +kernel
theorem dX12_person_104 : decode cX12_person 104 = .ok (.getfield 95, 3) := by decide +kernel
theorem dX12_person_107 : decode cX12_person 107 = .ok (.iconst 1, 1) := by decide +kernel
theorem dX12_person_108 : decode cX12_person 108 = .ok (.isub, 1) := by decide +kernel
theorem dX12_person_109 : decode cX12_person 109 = .ok (.ireturn, 1) := by decide +kernel
theorem dX12_personNow_0 : decode cX12_personNow 0 = .ok (.iload_n 2, 1) := by decide +kernel
theorem dX12_personNow_1 : decode cX12_personNow 1 = .ok (.tableswitch 59 0 3 #[31, 38, 45, 52], 31) := by decide +kernel
theorem dX12_personNow_32 : decode cX12_personNow 32 = .ok (.aload_n 0, 1) := by decide +kernel
theorem dX12_personNow_33 : decode cX12_personNow 33 = .ok (.getfield 16, 3) := by decide +kernel
theorem dX12_personNow_36 : decode cX12_personNow 36 = .ok (.iload_n 1, 1) := by decide +kernel
theorem dX12_personNow_37 : decode cX12_personNow 37 = .ok (.iaload, 1) := by decide +kernel
theorem dX12_personNow_38 : decode cX12_personNow 38 = .ok (.ireturn, 1) := by decide +kernel
theorem dX12_personNow_39 : decode cX12_personNow 39 = .ok (.aload_n 0, 1) := by decide +kernel
theorem dX12_personNow_40 : decode cX12_personNow 40 = .ok (.getfield 19, 3) := by decide +kernel
theorem dX12_personNow_43 : decode cX12_personNow 43 = .ok (.iload_n 1, 1) := by decide +kernel
theorem dX12_personNow_44 : decode cX12_personNow 44 = .ok (.iaload, 1) := by decide +kernel
theorem dX12_personNow_45 : decode cX12_personNow 45 = .ok (.ireturn, 1) := by decide +kernel
theorem dX12_personNow_46 : decode cX12_personNow 46 = .ok (.aload_n 0, 1) := by decide +kernel
theorem dX12_personNow_47 : decode cX12_personNow 47 = .ok (.getfield 22, 3) := by decide +kernel
theorem dX12_personNow_50 : decode cX12_personNow 50 = .ok (.iload_n 1, 1) := by decide +kernel
theorem dX12_personNow_51 : decode cX12_personNow 51 = .ok (.iaload, 1) := by decide +kernel
theorem dX12_personNow_52 : decode cX12_personNow 52 = .ok (.ireturn, 1) := by decide +kernel
theorem dX12_personNow_53 : decode cX12_personNow 53 = .ok (.aload_n 0, 1) := by decide +kernel
theorem dX12_personNow_54 : decode cX12_personNow 54 = .ok (.getfield 25, 3) := by decide +kernel
theorem dX12_personNow_57 : decode cX12_personNow 57 = .ok (.iload_n 1, 1) := by decide +kernel
theorem dX12_personNow_58 : decode cX12_personNow 58 = .ok (.iaload, 1) := by decide +kernel
theorem dX12_personNow_59 : decode cX12_personNow 59 = .ok (.ireturn, 1) := by decide +kernel
theorem dX12_personNow_60 : decode cX12_personNow 60 = .ok (.aload_n 0, 1) := by decide +kernel
theorem dX12_personNow_61 : decode cX12_personNow 61 = .ok (.iload_n 1, 1) := by decide +kernel
theorem dX12_personNow_62 : decode cX12_personNow 62 = .ok (.invokevirtual 122, 3) := by decide +kernel
theorem dX12_personNow_65 : decode cX12_personNow 65 = .ok (.ifCond .eq 7, 3) := by decide +kernel
theorem dX12_personNow_68 : decode cX12_personNow 68 = .ok (.iconst 1, 1) := by decide +kernel
theorem dX12_personNow_69 : decode cX12_personNow 69 = .ok (.goto 4, 3) := by decide +kernel
theorem dX12_personNow_72 : decode cX12_personNow 72 = .ok (.iconst 0, 1) := by decide +kernel
theorem dX12_personNow_73 : decode cX12_personNow 73 = .ok (.ireturn, 1) := by decide +kernel
theorem dX12_about_0 : decode cX12_about 0 = .ok (.aload_n 0, 1) := by decide +kernel
theorem dX12_about_1 : decode cX12_about 1 = .ok (.iload_n 1, 1) := by decide +kernel
theorem dX12_about_2 : decode cX12_about 2 = .ok (.invokevirtual 129, 3) := by decide +kernel
theorem dX12_about_5 : decode cX12_about 5 = .ok (.ifCond .ne 8, 3) := by decide +kernel
theorem dX12_about_8 : decode cX12_about 8 = .ok (.bipush (-101), 2) := by decide +kernel
theorem dX12_about_10 : decode cX12_about 10 = .ok (.goto 23, 3) := by decide +kernel
theorem dX12_about_13 : decode cX12_about 13 = .ok (.iload_n 2, 1) := by decide +kernel
theorem dX12_about_14 : decode cX12_about 14 = .ok (.iconst 0, 1) := by decide +kernel
theorem dX12_about_15 : decode cX12_about 15 = .ok (.iconst 4, 1) := by decide +kernel
theorem dX12_about_16 : decode cX12_about 16 = .ok (.invokestatic 56, 3) := by decide +kernel
theorem dX12_about_19 : decode cX12_about 19 = .ok (.ifCond .eq 12, 3) := by decide +kernel
theorem dX12_about_22 : decode cX12_about 22 = .ok (.aload_n 0, 1) := by decide +kernel
theorem dX12_about_23 : decode cX12_about 23 = .ok (.iload_n 1, 1) := by decide +kernel
theorem dX12_about_24 : decode cX12_about 24 = .ok (.iload_n 2, 1) := by decide +kernel
theorem dX12_about_25 : decode cX12_about 25 = .ok (.invokevirtual 132, 3) := by decide +kernel
theorem dX12_about_28 : decode cX12_about 28 = .ok (.goto 5, 3) := by decide +kernel
theorem dX12_about_31 : decode cX12_about 31 = .ok (.bipush (-102), 2) := by decide +kernel
theorem dX12_about_33 : decode cX12_about 33 = .ok (.ireturn, 1) := by decide +kernel
theorem dX12_as_0 : decode cX12_as 0 = .ok (.aload_n 0, 1) := by decide +kernel
theorem dX12_as_1 : decode cX12_as 1 = .ok (.iload_n 1, 1) := by decide +kernel
theorem dX12_as_2 : decode cX12_as 2 = .ok (.invokevirtual 129, 3) := by decide +kernel
theorem dX12_as_5 : decode cX12_as 5 = .ok (.ifCond .ne 6, 3) := by decide +kernel
theorem dX12_as_8 : decode cX12_as 8 = .ok (.bipush (-101), 2) := by decide +kernel
theorem dX12_as_10 : decode cX12_as 10 = .ok (.ireturn, 1) := by decide +kernel
theorem dX12_as_11 : decode cX12_as 11 = .ok (.iload_n 2, 1) := by decide +kernel
theorem dX12_as_12 : decode cX12_as 12 = .ok (.iconst 0, 1) := by decide +kernel
theorem dX12_as_13 : decode cX12_as 13 = .ok (.iconst 4, 1) := by decide +kernel
theorem dX12_as_14 : decode cX12_as 14 = .ok (.invokestatic 56, 3) := by decide +kernel
theorem dX12_as_17 : decode cX12_as 17 = .ok (.ifCond .ne 6, 3) := by decide +kernel
theorem dX12_as_20 : decode cX12_as 20 = .ok (.bipush (-102), 2) := by decide +kernel
theorem dX12_as_22 : decode cX12_as 22 = .ok (.ireturn, 1) := by decide +kernel
theorem dX12_as_23 : decode cX12_as 23 = .ok (.aload_n 0, 1) := by decide +kernel
theorem dX12_as_24 : decode cX12_as 24 = .ok (.getfield 16, 3) := by decide +kernel
theorem dX12_as_27 : decode cX12_as 27 = .ok (.iload_n 1, 1) := by decide +kernel
theorem dX12_as_28 : decode cX12_as 28 = .ok (.iaload, 1) := by decide +kernel
theorem dX12_as_29 : decode cX12_as 29 = .ok (.istore_n 3, 1) := by decide +kernel
theorem dX12_as_30 : decode cX12_as 30 = .ok (.iload_n 2, 1) := by decide +kernel
theorem dX12_as_31 : decode cX12_as 31 = .ok (.ifCond .eq 18, 3) := by decide +kernel
theorem dX12_as_34 : decode cX12_as 34 = .ok (.iload_n 3, 1) := by decide +kernel
theorem dX12_as_35 : decode cX12_as 35 = .ok (.iload_n 2, 1) := by decide +kernel
theorem dX12_as_36 : decode cX12_as 36 = .ok (.if_icmp .eq 13, 3) := by decide +kernel
theorem dX12_as_39 : decode cX12_as 39 = .ok (.iload_n 2, 1) := by decide +kernel
theorem dX12_as_40 : decode cX12_as 40 = .ok (.iconst 3, 1) := by decide +kernel
theorem dX12_as_41 : decode cX12_as 41 = .ok (.if_icmp .ne 12, 3) := by decide +kernel
theorem dX12_as_44 : decode cX12_as 44 = .ok (.iload_n 3, 1) := by decide +kernel
theorem dX12_as_45 : decode cX12_as 45 = .ok (.iconst 4, 1) := by decide +kernel
theorem dX12_as_46 : decode cX12_as 46 = .ok (.if_icmp .ne 7, 3) := by decide +kernel
theorem dX12_as_49 : decode cX12_as 49 = .ok (.iload_n 1, 1) := by decide +kernel
theorem dX12_as_50 : decode cX12_as 50 = .ok (.goto 4, 3) := by decide +kernel
theorem dX12_as_53 : decode cX12_as 53 = .ok (.iconst (-1), 1) := by decide +kernel
theorem dX12_as_54 : decode cX12_as 54 = .ok (.ireturn, 1) := by decide +kernel
theorem dX12_likelyNow_0 : decode cX12_likelyNow 0 = .ok (.aload_n 0, 1) := by decide +kernel
theorem dX12_likelyNow_1 : decode cX12_likelyNow 1 = .ok (.iload_n 1, 1) := by decide +kernel
theorem dX12_likelyNow_2 : decode cX12_likelyNow 2 = .ok (.iload_n 2, 1) := by decide +kernel
theorem dX12_likelyNow_3 : decode cX12_likelyNow 3 = .ok (.invokevirtual 115, 3) := by decide +kernel
theorem dX12_likelyNow_6 : decode cX12_likelyNow 6 = .ok (.aload_n 0, 1) := by decide +kernel
theorem dX12_likelyNow_7 : decode cX12_likelyNow 7 = .ok (.iconst 1, 1) := by decide +kernel
theorem dX12_likelyNow_8 : decode cX12_likelyNow 8 = .ok (.iconst (-1), 1) := by decide +kernel
theorem dX12_likelyNow_9 : decode cX12_likelyNow 9 = .ok (.invokevirtual 115, 3) := by decide +kernel
theorem dX12_likelyNow_12 : decode cX12_likelyNow 12 = .ok (.iload_n 3, 1) := by decide +kernel
theorem dX12_likelyNow_13 : decode cX12_likelyNow 13 = .ok (.invokestatic 135, 3) := by decide +kernel
theorem dX12_likelyNow_16 : decode cX12_likelyNow 16 = .ok (.lreturn, 1) := by decide +kernel
theorem dX12_likely_0 : decode cX12_likely 0 = .ok (.iload_n 1, 1) := by decide +kernel
theorem dX12_likely_1 : decode cX12_likely 1 = .ok (.iconst 1, 1) := by decide +kernel
theorem dX12_likely_2 : decode cX12_likely 2 = .ok (.bipush 6, 2) := by decide +kernel
theorem dX12_likely_4 : decode cX12_likely 4 = .ok (.invokestatic 56, 3) := by decide +kernel
theorem dX12_likely_7 : decode cX12_likely 7 = .ok (.ifCond .eq 10, 3) := by decide +kernel
theorem dX12_likely_10 : decode cX12_likely 10 = .ok (.iload_n 2, 1) := by decide +kernel
theorem dX12_likely_11 : decode cX12_likely 11 = .ok (.invokestatic 101, 3) := by decide +kernel
theorem dX12_likely_14 : decode cX12_likely 14 = .ok (.ifCond .ne 7, 3) := by decide +kernel
theorem dX12_likely_17 : decode cX12_likely 17 = .ok (.ldc2_w 139, 3) := by decide +kernel
theorem dX12_likely_20 : decode cX12_likely 20 = .ok (.lreturn, 1) := by decide +kernel
theorem dX12_likely_21 : decode cX12_likely 21 = .ok (.iload_n 3, 1) := by decide +kernel
theorem dX12_likely_22 : decode cX12_likely 22 = .ok (.iconst 0, 1) := by decide +kernel
theorem dX12_likely_23 : decode cX12_likely 23 = .ok (.iconst 1, 1) := by decide +kernel
theorem dX12_likely_24 : decode cX12_likely 24 = .ok (.invokestatic 56, 3) := by decide +kernel
theorem dX12_likely_27 : decode cX12_likely 27 = .ok (.ifCond .ne 7, 3) := by decide +kernel
theorem dX12_likely_30 : decode cX12_likely 30 = .ok (.ldc2_w 141, 3) := by decide +kernel
theorem dX12_likely_33 : decode cX12_likely 33 = .ok (.lreturn, 1) := by decide +kernel
theorem dX12_likely_34 : decode cX12_likely 34 = .ok (.aload_n 0, 1) := by decide +kernel
theorem dX12_likely_35 : decode cX12_likely 35 = .ok (.getfield 82, 3) := by decide +kernel
theorem dX12_likely_38 : decode cX12_likely 38 = .ok (.ifCond .eq 13, 3) := by decide +kernel
theorem dX12_likely_41 : decode cX12_likely 41 = .ok (.aload_n 0, 1) := by decide +kernel
theorem dX12_likely_42 : decode cX12_likely 42 = .ok (.iload_n 1, 1) := by decide +kernel
theorem dX12_likely_43 : decode cX12_likely 43 = .ok (.iload_n 2, 1) := by decide +kernel
theorem dX12_likely_44 : decode cX12_likely 44 = .ok (.iload_n 3, 1) := by decide +kernel
theorem dX12_likely_45 : decode cX12_likely 45 = .ok (.invokevirtual 143, 3) := by decide +kernel
theorem dX12_likely_48 : decode cX12_likely 48 = .ok (.goto 6, 3) := by decide +kernel
theorem dX12_likely_51 : decode cX12_likely 51 = .ok (.ldc2_w 147, 3) := by decide +kernel
theorem dX12_likely_54 : decode cX12_likely 54 = .ok (.lreturn, 1) := by decide +kernel
theorem dX12_likeliestNow_0 : decode cX12_likeliestNow 0 = .ok (.iconst (-1), 1) := by decide +kernel
theorem dX12_likeliestNow_1 : decode cX12_likeliestNow 1 = .ok (.istore_n 1, 1) := by decide +kernel
theorem dX12_likeliestNow_2 : decode cX12_likeliestNow 2 = .ok (.ldc2_w 149, 3) := by decide +kernel
theorem dX12_likeliestNow_5 : decode cX12_likeliestNow 5 = .ok (.lstore_n 2, 1) := by decide +kernel
theorem dX12_likeliestNow_6 : decode cX12_likeliestNow 6 = .ok (.iconst 0, 1) := by decide +kernel
theorem dX12_likeliestNow_7 : decode cX12_likeliestNow 7 = .ok (.istore 4, 2) := by decide +kernel
theorem dX12_likeliestNow_9 : decode cX12_likeliestNow 9 = .ok (.iload 4, 2) := by decide +kernel
theorem dX12_likeliestNow_11 : decode cX12_likeliestNow 11 = .ok (.sipush 729, 3) := by decide +kernel
theorem dX12_likeliestNow_14 : decode cX12_likeliestNow 14 = .ok (.if_icmp .ge 45, 3) := by decide +kernel
theorem dX12_likeliestNow_17 : decode cX12_likeliestNow 17 = .ok (.aload_n 0, 1) := by decide +kernel
theorem dX12_likeliestNow_18 : decode cX12_likeliestNow 18 = .ok (.iload 4, 2) := by decide +kernel
theorem dX12_likeliestNow_20 : decode cX12_likeliestNow 20 = .ok (.invokevirtual 111, 3) := by decide +kernel
theorem dX12_likeliestNow_23 : decode cX12_likeliestNow 23 = .ok (.lstore 5, 2) := by decide +kernel
theorem dX12_likeliestNow_25 : decode cX12_likeliestNow 25 = .ok (.lload 5, 2) := by decide +kernel
theorem dX12_likeliestNow_27 : decode cX12_likeliestNow 27 = .ok (.lload_n 2, 1) := by decide +kernel
theorem dX12_likeliestNow_28 : decode cX12_likeliestNow 28 = .ok (.lcmp, 1) := by decide +kernel
theorem dX12_likeliestNow_29 : decode cX12_likeliestNow 29 = .ok (.ifCond .le 8, 3) := by decide +kernel
theorem dX12_likeliestNow_32 : decode cX12_likeliestNow 32 = .ok (.iload 4, 2) := by decide +kernel
theorem dX12_likeliestNow_34 : decode cX12_likeliestNow 34 = .ok (.goto 4, 3) := by decide +kernel
theorem dX12_likeliestNow_37 : decode cX12_likeliestNow 37 = .ok (.iload_n 1, 1) := by decide +kernel
theorem dX12_likeliestNow_38 : decode cX12_likeliestNow 38 = .ok (.istore_n 1, 1) := by decide +kernel
theorem dX12_likeliestNow_39 : decode cX12_likeliestNow 39 = .ok (.lload 5, 2) := by decide +kernel
theorem dX12_likeliestNow_41 : decode cX12_likeliestNow 41 = .ok (.lload_n 2, 1) := by decide +kernel
theorem dX12_likeliestNow_42 : decode cX12_likeliestNow 42 = .ok (.lcmp, 1) := by decide +kernel
theorem dX12_likeliestNow_43 : decode cX12_likeliestNow 43 = .ok (.ifCond .le 8, 3) := by decide +kernel
theorem dX12_likeliestNow_46 : decode cX12_likeliestNow 46 = .ok (.lload 5, 2) := by decide +kernel
theorem dX12_likeliestNow_48 : decode cX12_likeliestNow 48 = .ok (.goto 4, 3) := by decide +kernel
theorem dX12_likeliestNow_51 : decode cX12_likeliestNow 51 = .ok (.lload_n 2, 1) := by decide +kernel
theorem dX12_likeliestNow_52 : decode cX12_likeliestNow 52 = .ok (.lstore_n 2, 1) := by decide +kernel
theorem dX12_likeliestNow_53 : decode cX12_likeliestNow 53 = .ok (.iinc 4 1, 3) := by decide +kernel
theorem dX12_likeliestNow_56 : decode cX12_likeliestNow 56 = .ok (.goto (-47), 3) := by decide +kernel
theorem dX12_likeliestNow_59 : decode cX12_likeliestNow 59 = .ok (.iload_n 1, 1) := by decide +kernel
theorem dX12_likeliestNow_60 : decode cX12_likeliestNow 60 = .ok (.ireturn, 1) := by decide +kernel
theorem dX12_likeliest_0 : decode cX12_likeliest 0 = .ok (.aload_n 0, 1) := by decide +kernel
theorem dX12_likeliest_1 : decode cX12_likeliest 1 = .ok (.getfield 82, 3) := by decide +kernel
theorem dX12_likeliest_4 : decode cX12_likeliest 4 = .ok (.ifCond .eq 10, 3) := by decide +kernel
theorem dX12_likeliest_7 : decode cX12_likeliest 7 = .ok (.aload_n 0, 1) := by decide +kernel
theorem dX12_likeliest_8 : decode cX12_likeliest 8 = .ok (.invokevirtual 151, 3) := by decide +kernel
theorem dX12_likeliest_11 : decode cX12_likeliest 11 = .ok (.goto 5, 3) := by decide +kernel
theorem dX12_likeliest_14 : decode cX12_likeliest 14 = .ok (.bipush (-103), 2) := by decide +kernel
theorem dX12_likeliest_16 : decode cX12_likeliest 16 = .ok (.ireturn, 1) := by decide +kernel
theorem dX12_waysNow_0 : decode cX12_waysNow 0 = .ok (.iconst 0, 1) := by decide +kernel
theorem dX12_waysNow_1 : decode cX12_waysNow 1 = .ok (.istore_n 1, 1) := by decide +kernel
theorem dX12_waysNow_2 : decode cX12_waysNow 2 = .ok (.iconst 0, 1) := by decide +kernel
theorem dX12_waysNow_3 : decode cX12_waysNow 3 = .ok (.istore_n 2, 1) := by decide +kernel
theorem dX12_waysNow_4 : decode cX12_waysNow 4 = .ok (.iload_n 2, 1) := by decide +kernel
theorem dX12_waysNow_5 : decode cX12_waysNow 5 = .ok (.sipush 729, 3) := by decide +kernel
theorem dX12_waysNow_8 : decode cX12_waysNow 8 = .ok (.if_icmp .ge 27, 3) := by decide +kernel
theorem dX12_waysNow_11 : decode cX12_waysNow 11 = .ok (.iload_n 1, 1) := by decide +kernel
theorem dX12_waysNow_12 : decode cX12_waysNow 12 = .ok (.aload_n 0, 1) := by decide +kernel
theorem dX12_waysNow_13 : decode cX12_waysNow 13 = .ok (.iload_n 2, 1) := by decide +kernel
theorem dX12_waysNow_14 : decode cX12_waysNow 14 = .ok (.invokevirtual 111, 3) := by decide +kernel
theorem dX12_waysNow_17 : decode cX12_waysNow 17 = .ok (.lconst 0, 1) := by decide +kernel
theorem dX12_waysNow_18 : decode cX12_waysNow 18 = .ok (.lcmp, 1) := by decide +kernel
theorem dX12_waysNow_19 : decode cX12_waysNow 19 = .ok (.ifCond .le 7, 3) := by decide +kernel
theorem dX12_waysNow_22 : decode cX12_waysNow 22 = .ok (.iconst 1, 1) := by decide +kernel
theorem dX12_waysNow_23 : decode cX12_waysNow 23 = .ok (.goto 4, 3) := by decide +kernel
theorem dX12_waysNow_26 : decode cX12_waysNow 26 = .ok (.iconst 0, 1) := by decide +kernel
theorem dX12_waysNow_27 : decode cX12_waysNow 27 = .ok (.iadd, 1) := by decide +kernel
theorem dX12_waysNow_28 : decode cX12_waysNow 28 = .ok (.istore_n 1, 1) := by decide +kernel
theorem dX12_waysNow_29 : decode cX12_waysNow 29 = .ok (.iinc 2 1, 3) := by decide +kernel
theorem dX12_waysNow_32 : decode cX12_waysNow 32 = .ok (.goto (-28), 3) := by decide +kernel
theorem dX12_waysNow_35 : decode cX12_waysNow 35 = .ok (.iload_n 1, 1) := by decide +kernel
theorem dX12_waysNow_36 : decode cX12_waysNow 36 = .ok (.ireturn, 1) := by decide +kernel
theorem dX12_ways_0 : decode cX12_ways 0 = .ok (.aload_n 0, 1) := by decide +kernel
theorem dX12_ways_1 : decode cX12_ways 1 = .ok (.getfield 82, 3) := by decide +kernel
theorem dX12_ways_4 : decode cX12_ways 4 = .ok (.ifCond .eq 10, 3) := by decide +kernel
theorem dX12_ways_7 : decode cX12_ways 7 = .ok (.aload_n 0, 1) := by decide +kernel
theorem dX12_ways_8 : decode cX12_ways 8 = .ok (.invokevirtual 154, 3) := by decide +kernel
theorem dX12_ways_11 : decode cX12_ways 11 = .ok (.goto 5, 3) := by decide +kernel
theorem dX12_ways_14 : decode cX12_ways 14 = .ok (.bipush (-103), 2) := by decide +kernel
theorem dX12_ways_16 : decode cX12_ways 16 = .ok (.ireturn, 1) := by decide +kernel
theorem dX12_sureNow_0 : decode cX12_sureNow 0 = .ok (.iconst (-1), 1) := by decide +kernel
theorem dX12_sureNow_1 : decode cX12_sureNow 1 = .ok (.istore_n 2, 1) := by decide +kernel
theorem dX12_sureNow_2 : decode cX12_sureNow 2 = .ok (.iconst 0, 1) := by decide +kernel
theorem dX12_sureNow_3 : decode cX12_sureNow 3 = .ok (.istore_n 3, 1) := by decide +kernel
theorem dX12_sureNow_4 : decode cX12_sureNow 4 = .ok (.iconst 0, 1) := by decide +kernel
theorem dX12_sureNow_5 : decode cX12_sureNow 5 = .ok (.istore 4, 2) := by decide +kernel
theorem dX12_sureNow_7 : decode cX12_sureNow 7 = .ok (.iload 4, 2) := by decide +kernel
theorem dX12_sureNow_9 : decode cX12_sureNow 9 = .ok (.iconst 3, 1) := by decide +kernel
theorem dX12_sureNow_10 : decode cX12_sureNow 10 = .ok (.if_icmp .ge 53, 3) := by decide +kernel
theorem dX12_sureNow_13 : decode cX12_sureNow 13 = .ok (.aload_n 0, 1) := by decide +kernel
theorem dX12_sureNow_14 : decode cX12_sureNow 14 = .ok (.iload_n 1, 1) := by decide +kernel
theorem dX12_sureNow_15 : decode cX12_sureNow 15 = .ok (.iload 4, 2) := by decide +kernel
theorem dX12_sureNow_17 : decode cX12_sureNow 17 = .ok (.invokevirtual 115, 3) := by decide +kernel
theorem dX12_sureNow_20 : decode cX12_sureNow 20 = .ok (.lconst 0, 1) := by decide +kernel
theorem dX12_sureNow_21 : decode cX12_sureNow 21 = .ok (.lcmp, 1) := by decide +kernel
theorem dX12_sureNow_22 : decode cX12_sureNow 22 = .ok (.ifCond .le 7, 3) := by decide +kernel
theorem dX12_sureNow_25 : decode cX12_sureNow 25 = .ok (.iconst 1, 1) := by decide +kernel
theorem dX12_sureNow_26 : decode cX12_sureNow 26 = .ok (.goto 4, 3) := by decide +kernel
theorem dX12_sureNow_29 : decode cX12_sureNow 29 = .ok (.iconst 0, 1) := by decide +kernel
theorem dX12_sureNow_30 : decode cX12_sureNow 30 = .ok (.istore 5, 2) := by decide +kernel
theorem dX12_sureNow_32 : decode cX12_sureNow 32 = .ok (.iload 5, 2) := by decide +kernel
theorem dX12_sureNow_34 : decode cX12_sureNow 34 = .ok (.ifCond .eq 8, 3) := by decide +kernel
theorem dX12_sureNow_37 : decode cX12_sureNow 37 = .ok (.iload 4, 2) := by decide +kernel
theorem dX12_sureNow_39 : decode cX12_sureNow 39 = .ok (.goto 4, 3) := by decide +kernel
theorem dX12_sureNow_42 : decode cX12_sureNow 42 = .ok (.iload_n 2, 1) := by decide +kernel
theorem dX12_sureNow_43 : decode cX12_sureNow 43 = .ok (.istore_n 2, 1) := by decide +kernel
theorem dX12_sureNow_44 : decode cX12_sureNow 44 = .ok (.iload_n 3, 1) := by decide +kernel
theorem dX12_sureNow_45 : decode cX12_sureNow 45 = .ok (.iload 5, 2) := by decide +kernel
theorem dX12_sureNow_47 : decode cX12_sureNow 47 = .ok (.ifCond .eq 7, 3) := by decide +kernel
theorem dX12_sureNow_50 : decode cX12_sureNow 50 = .ok (.iconst 1, 1) := by decide +kernel
theorem dX12_sureNow_51 : decode cX12_sureNow 51 = .ok (.goto 4, 3) := by decide +kernel
theorem dX12_sureNow_54 : decode cX12_sureNow 54 = .ok (.iconst 0, 1) := by decide +kernel
theorem dX12_sureNow_55 : decode cX12_sureNow 55 = .ok (.iadd, 1) := by decide +kernel
theorem dX12_sureNow_56 : decode cX12_sureNow 56 = .ok (.istore_n 3, 1) := by decide +kernel
theorem dX12_sureNow_57 : decode cX12_sureNow 57 = .ok (.iinc 4 1, 3) := by decide +kernel
theorem dX12_sureNow_60 : decode cX12_sureNow 60 = .ok (.goto (-53), 3) := by decide +kernel
theorem dX12_sureNow_63 : decode cX12_sureNow 63 = .ok (.iload_n 3, 1) := by decide +kernel
theorem dX12_sureNow_64 : decode cX12_sureNow 64 = .ok (.iconst 1, 1) := by decide +kernel
theorem dX12_sureNow_65 : decode cX12_sureNow 65 = .ok (.if_icmp .ne 7, 3) := by decide +kernel
theorem dX12_sureNow_68 : decode cX12_sureNow 68 = .ok (.iload_n 2, 1) := by decide +kernel
theorem dX12_sureNow_69 : decode cX12_sureNow 69 = .ok (.goto 4, 3) := by decide +kernel
theorem dX12_sureNow_72 : decode cX12_sureNow 72 = .ok (.iconst (-1), 1) := by decide +kernel
theorem dX12_sureNow_73 : decode cX12_sureNow 73 = .ok (.ireturn, 1) := by decide +kernel
theorem dX12_sure_0 : decode cX12_sure 0 = .ok (.iload_n 1, 1) := by decide +kernel
theorem dX12_sure_1 : decode cX12_sure 1 = .ok (.iconst 1, 1) := by decide +kernel
theorem dX12_sure_2 : decode cX12_sure 2 = .ok (.bipush 6, 2) := by decide +kernel
theorem dX12_sure_4 : decode cX12_sure 4 = .ok (.invokestatic 56, 3) := by decide +kernel
theorem dX12_sure_7 : decode cX12_sure 7 = .ok (.ifCond .ne 6, 3) := by decide +kernel
theorem dX12_sure_10 : decode cX12_sure 10 = .ok (.bipush (-101), 2) := by decide +kernel
theorem dX12_sure_12 : decode cX12_sure 12 = .ok (.ireturn, 1) := by decide +kernel
theorem dX12_sure_13 : decode cX12_sure 13 = .ok (.aload_n 0, 1) := by decide +kernel
theorem dX12_sure_14 : decode cX12_sure 14 = .ok (.getfield 82, 3) := by decide +kernel
theorem dX12_sure_17 : decode cX12_sure 17 = .ok (.ifCond .eq 11, 3) := by decide +kernel
theorem dX12_sure_20 : decode cX12_sure 20 = .ok (.aload_n 0, 1) := by decide +kernel
theorem dX12_sure_21 : decode cX12_sure 21 = .ok (.iload_n 1, 1) := by decide +kernel
theorem dX12_sure_22 : decode cX12_sure 22 = .ok (.invokevirtual 157, 3) := by decide +kernel
theorem dX12_sure_25 : decode cX12_sure 25 = .ok (.goto 5, 3) := by decide +kernel
theorem dX12_sure_28 : decode cX12_sure 28 = .ok (.bipush (-103), 2) := by decide +kernel
theorem dX12_sure_30 : decode cX12_sure 30 = .ok (.ireturn, 1) := by decide +kernel
theorem dX12_less_0 : decode cX12_less 0 = .ok (.lload_n 0, 1) := by decide +kernel
theorem dX12_less_1 : decode cX12_less 1 = .ok (.lload_n 2, 1) := by decide +kernel
theorem dX12_less_2 : decode cX12_less 2 = .ok (.lcmp, 1) := by decide +kernel
theorem dX12_less_3 : decode cX12_less 3 = .ok (.ifCond .ge 7, 3) := by decide +kernel
theorem dX12_less_6 : decode cX12_less 6 = .ok (.lload_n 0, 1) := by decide +kernel
theorem dX12_less_7 : decode cX12_less 7 = .ok (.goto 4, 3) := by decide +kernel
theorem dX12_less_10 : decode cX12_less 10 = .ok (.lload_n 2, 1) := by decide +kernel
theorem dX12_less_11 : decode cX12_less 11 = .ok (.lreturn, 1) := by decide +kernel
theorem dX12_lookNow_0 : decode cX12_lookNow 0 = .ok (.aload_n 0, 1) := by decide +kernel
theorem dX12_lookNow_1 : decode cX12_lookNow 1 = .ok (.iconst 1, 1) := by decide +kernel
theorem dX12_lookNow_2 : decode cX12_lookNow 2 = .ok (.iconst (-1), 1) := by decide +kernel
theorem dX12_lookNow_3 : decode cX12_lookNow 3 = .ok (.invokevirtual 115, 3) := by decide +kernel
theorem dX12_lookNow_6 : decode cX12_lookNow 6 = .ok (.lstore 4, 2) := by decide +kernel
theorem dX12_lookNow_8 : decode cX12_lookNow 8 = .ok (.aload_n 0, 1) := by decide +kernel
theorem dX12_lookNow_9 : decode cX12_lookNow 9 = .ok (.iconst 1, 1) := by decide +kernel
theorem dX12_lookNow_10 : decode cX12_lookNow 10 = .ok (.iconst 1, 1) := by decide +kernel
theorem dX12_lookNow_11 : decode cX12_lookNow 11 = .ok (.invokevirtual 115, 3) := by decide +kernel
theorem dX12_lookNow_14 : decode cX12_lookNow 14 = .ok (.lstore 6, 2) := by decide +kernel
theorem dX12_lookNow_16 : decode cX12_lookNow 16 = .ok (.ldc2_w 160, 3) := by decide +kernel
theorem dX12_lookNow_19 : decode cX12_lookNow 19 = .ok (.iload_n 1, 1) := by decide +kernel
theorem dX12_lookNow_20 : decode cX12_lookNow 20 = .ok (.i2l, 1) := by decide +kernel
theorem dX12_lookNow_21 : decode cX12_lookNow 21 = .ok (.lload 4, 2) := by decide +kernel
theorem dX12_lookNow_23 : decode cX12_lookNow 23 = .ok (.lmul, 1) := by decide +kernel
theorem dX12_lookNow_24 : decode cX12_lookNow 24 = .ok (.iload_n 2, 1) := by decide +kernel
theorem dX12_lookNow_25 : decode cX12_lookNow 25 = .ok (.i2l, 1) := by decide +kernel
theorem dX12_lookNow_26 : decode cX12_lookNow 26 = .ok (.lload 6, 2) := by decide +kernel
theorem dX12_lookNow_28 : decode cX12_lookNow 28 = .ok (.lmul, 1) := by decide +kernel
theorem dX12_lookNow_29 : decode cX12_lookNow 29 = .ok (.invokestatic 162, 3) := by decide +kernel
theorem dX12_lookNow_32 : decode cX12_lookNow 32 = .ok (.lmul, 1) := by decide +kernel
theorem dX12_lookNow_33 : decode cX12_lookNow 33 = .ok (.lstore 8, 2) := by decide +kernel
theorem dX12_lookNow_35 : decode cX12_lookNow 35 = .ok (.iconst 0, 1) := by decide +kernel
theorem dX12_lookNow_36 : decode cX12_lookNow 36 = .ok (.istore 10, 2) := by decide +kernel
theorem dX12_lookNow_38 : decode cX12_lookNow 38 = .ok (.iload 10, 2) := by decide +kernel
theorem dX12_lookNow_40 : decode cX12_lookNow 40 = .ok (.iconst 3, 1) := by decide +kernel
theorem dX12_lookNow_41 : decode cX12_lookNow 41 = .ok (.if_icmp .ge 76, 3) := by decide +kernel
theorem dX12_lookNow_44 : decode cX12_lookNow 44 = .ok (.lconst 0, 1) := by decide +kernel
theorem dX12_lookNow_45 : decode cX12_lookNow 45 = .ok (.lstore 11, 2) := by decide +kernel
theorem dX12_lookNow_47 : decode cX12_lookNow 47 = .ok (.iconst 0, 1) := by decide +kernel
theorem dX12_lookNow_48 : decode cX12_lookNow 48 = .ok (.istore 13, 2) := by decide +kernel
theorem dX12_lookNow_50 : decode cX12_lookNow 50 = .ok (.iload 13, 2) := by decide +kernel
theorem dX12_lookNow_52 : decode cX12_lookNow 52 = .ok (.iconst 3, 1) := by decide +kernel
theorem dX12_lookNow_53 : decode cX12_lookNow 53 = .ok (.if_icmp .ge 31, 3) := by decide +kernel
theorem dX12_lookNow_56 : decode cX12_lookNow 56 = .ok (.lload 11, 2) := by decide +kernel
theorem dX12_lookNow_58 : decode cX12_lookNow 58 = .ok (.aload_n 0, 1) := by decide +kernel
theorem dX12_lookNow_59 : decode cX12_lookNow 59 = .ok (.iconst 1, 1) := by decide +kernel
theorem dX12_lookNow_60 : decode cX12_lookNow 60 = .ok (.iload 13, 2) := by decide +kernel
theorem dX12_lookNow_62 : decode cX12_lookNow 62 = .ok (.invokevirtual 115, 3) := by decide +kernel
theorem dX12_lookNow_65 : decode cX12_lookNow 65 = .ok (.aload_n 0, 1) := by decide +kernel
theorem dX12_lookNow_66 : decode cX12_lookNow 66 = .ok (.iload 10, 2) := by decide +kernel
theorem dX12_lookNow_68 : decode cX12_lookNow 68 = .ok (.iload 13, 2) := by decide +kernel
theorem dX12_lookNow_70 : decode cX12_lookNow 70 = .ok (.invokevirtual 108, 3) := by decide +kernel
theorem dX12_lookNow_73 : decode cX12_lookNow 73 = .ok (.i2l, 1) := by decide +kernel
theorem dX12_lookNow_74 : decode cX12_lookNow 74 = .ok (.lmul, 1) := by decide +kernel
theorem dX12_lookNow_75 : decode cX12_lookNow 75 = .ok (.ladd, 1) := by decide +kernel
theorem dX12_lookNow_76 : decode cX12_lookNow 76 = .ok (.lstore 11, 2) := by decide +kernel
theorem dX12_lookNow_78 : decode cX12_lookNow 78 = .ok (.iinc 13 1, 3) := by decide +kernel
theorem dX12_lookNow_81 : decode cX12_lookNow 81 = .ok (.goto (-31), 3) := by decide +kernel
theorem dX12_lookNow_84 : decode cX12_lookNow 84 = .ok (.lload 8, 2) := by decide +kernel
theorem dX12_lookNow_86 : decode cX12_lookNow 86 = .ok (.iload_n 1, 1) := by decide +kernel
theorem dX12_lookNow_87 : decode cX12_lookNow 87 = .ok (.i2l, 1) := by decide +kernel
theorem dX12_lookNow_88 : decode cX12_lookNow 88 = .ok (.lload 11, 2) := by decide +kernel
theorem dX12_lookNow_90 : decode cX12_lookNow 90 = .ok (.lmul, 1) := by decide +kernel
theorem dX12_lookNow_91 : decode cX12_lookNow 91 = .ok (.iload_n 2, 1) := by decide +kernel
theorem dX12_lookNow_92 : decode cX12_lookNow 92 = .ok (.i2l, 1) := by decide +kernel
theorem dX12_lookNow_93 : decode cX12_lookNow 93 = .ok (.lload 6, 2) := by decide +kernel
theorem dX12_lookNow_95 : decode cX12_lookNow 95 = .ok (.lmul, 1) := by decide +kernel
theorem dX12_lookNow_96 : decode cX12_lookNow 96 = .ok (.aload_n 0, 1) := by decide +kernel
theorem dX12_lookNow_97 : decode cX12_lookNow 97 = .ok (.iload 10, 2) := by decide +kernel
theorem dX12_lookNow_99 : decode cX12_lookNow 99 = .ok (.iconst 1, 1) := by decide +kernel
theorem dX12_lookNow_100 : decode cX12_lookNow 100 = .ok (.invokevirtual 108, 3) := by decide +kernel
theorem dX12_lookNow_103 : decode cX12_lookNow 103 = .ok (.i2l, 1) := by decide +kernel
theorem dX12_lookNow_104 : decode cX12_lookNow 104 = .ok (.lmul, 1) := by decide +kernel
theorem dX12_lookNow_105 : decode cX12_lookNow 105 = .ok (.invokestatic 162, 3) := by decide +kernel
theorem dX12_lookNow_108 : decode cX12_lookNow 108 = .ok (.lsub, 1) := by decide +kernel
theorem dX12_lookNow_109 : decode cX12_lookNow 109 = .ok (.lstore 8, 2) := by decide +kernel
theorem dX12_lookNow_111 : decode cX12_lookNow 111 = .ok (.iinc 10 1, 3) := by decide +kernel
theorem dX12_lookNow_114 : decode cX12_lookNow 114 = .ok (.goto (-76), 3) := by decide +kernel
theorem dX12_lookNow_117 : decode cX12_lookNow 117 = .ok (.lload 8, 2) := by decide +kernel
theorem dX12_lookNow_119 : decode cX12_lookNow 119 = .ok (.ldc2_w 160, 3) := by decide +kernel
theorem dX12_lookNow_122 : decode cX12_lookNow 122 = .ok (.lload 4, 2) := by decide +kernel
theorem dX12_lookNow_124 : decode cX12_lookNow 124 = .ok (.lmul, 1) := by decide +kernel
theorem dX12_lookNow_125 : decode cX12_lookNow 125 = .ok (.iload_n 3, 1) := by decide +kernel
theorem dX12_lookNow_126 : decode cX12_lookNow 126 = .ok (.invokestatic 135, 3) := by decide +kernel
theorem dX12_lookNow_129 : decode cX12_lookNow 129 = .ok (.lreturn, 1) := by decide +kernel
theorem dX12_look_0 : decode cX12_look 0 = .ok (.iload_n 1, 1) := by decide +kernel
theorem dX12_look_1 : decode cX12_look 1 = .ok (.iconst 1, 1) := by decide +kernel
theorem dX12_look_2 : decode cX12_look 2 = .ok (.bipush 9, 2) := by decide +kernel
theorem dX12_look_4 : decode cX12_look 4 = .ok (.invokestatic 56, 3) := by decide +kernel
theorem dX12_look_7 : decode cX12_look 7 = .ok (.ifCond .eq 22, 3) := by decide +kernel
theorem dX12_look_10 : decode cX12_look 10 = .ok (.iload_n 2, 1) := by decide +kernel
theorem dX12_look_11 : decode cX12_look 11 = .ok (.iconst 1, 1) := by decide +kernel
theorem dX12_look_12 : decode cX12_look 12 = .ok (.bipush 9, 2) := by decide +kernel
theorem dX12_look_14 : decode cX12_look 14 = .ok (.invokestatic 56, 3) := by decide +kernel
theorem dX12_look_17 : decode cX12_look 17 = .ok (.ifCond .eq 12, 3) := by decide +kernel
theorem dX12_look_20 : decode cX12_look 20 = .ok (.iload_n 3, 1) := by decide +kernel
theorem dX12_look_21 : decode cX12_look 21 = .ok (.iconst 0, 1) := by decide +kernel
theorem dX12_look_22 : decode cX12_look 22 = .ok (.iconst 1, 1) := by decide +kernel
theorem dX12_look_23 : decode cX12_look 23 = .ok (.invokestatic 56, 3) := by decide +kernel
theorem dX12_look_26 : decode cX12_look 26 = .ok (.ifCond .ne 7, 3) := by decide +kernel
theorem dX12_look_29 : decode cX12_look 29 = .ok (.ldc2_w 141, 3) := by decide +kernel
theorem dX12_look_32 : decode cX12_look 32 = .ok (.lreturn, 1) := by decide +kernel
theorem dX12_look_33 : decode cX12_look 33 = .ok (.aload_n 0, 1) := by decide +kernel
theorem dX12_look_34 : decode cX12_look 34 = .ok (.getfield 82, 3) := by decide +kernel
theorem dX12_look_37 : decode cX12_look 37 = .ok (.ifCond .eq 13, 3) := by decide +kernel
theorem dX12_look_40 : decode cX12_look 40 = .ok (.aload_n 0, 1) := by decide +kernel
theorem dX12_look_41 : decode cX12_look 41 = .ok (.iload_n 1, 1) := by decide +kernel
theorem dX12_look_42 : decode cX12_look 42 = .ok (.iload_n 2, 1) := by decide +kernel
theorem dX12_look_43 : decode cX12_look 43 = .ok (.iload_n 3, 1) := by decide +kernel
theorem dX12_look_44 : decode cX12_look 44 = .ok (.invokevirtual 166, 3) := by decide +kernel
theorem dX12_look_47 : decode cX12_look 47 = .ok (.goto 6, 3) := by decide +kernel
theorem dX12_look_50 : decode cX12_look 50 = .ok (.ldc2_w 147, 3) := by decide +kernel
theorem dX12_look_53 : decode cX12_look 53 = .ok (.lreturn, 1) := by decide +kernel
theorem dX12_book_0 : decode cX12_book 0 = .ok (.iload_n 1, 1) := by decide +kernel
theorem dX12_book_1 : decode cX12_book 1 = .ok (.invokestatic 101, 3) := by decide +kernel
theorem dX12_book_4 : decode cX12_book 4 = .ok (.ifCond .eq 15, 3) := by decide +kernel
theorem dX12_book_7 : decode cX12_book 7 = .ok (.iload_n 2, 1) := by decide +kernel
theorem dX12_book_8 : decode cX12_book 8 = .ok (.iconst (-1), 1) := by decide +kernel
theorem dX12_book_9 : decode cX12_book 9 = .ok (.if_icmp .eq 13, 3) := by decide +kernel
theorem dX12_book_12 : decode cX12_book 12 = .ok (.iload_n 2, 1) := by decide +kernel
theorem dX12_book_13 : decode cX12_book 13 = .ok (.invokestatic 101, 3) := by decide +kernel
theorem dX12_book_16 : decode cX12_book 16 = .ok (.ifCond .ne 6, 3) := by decide +kernel
theorem dX12_book_19 : decode cX12_book 19 = .ok (.bipush (-101), 2) := by decide +kernel
theorem dX12_book_21 : decode cX12_book 21 = .ok (.ireturn, 1) := by decide +kernel
theorem dX12_book_22 : decode cX12_book 22 = .ok (.aload_n 0, 1) := by decide +kernel
theorem dX12_book_23 : decode cX12_book 23 = .ok (.getfield 98, 3) := by decide +kernel
theorem dX12_book_26 : decode cX12_book 26 = .ok (.bipush 12, 2) := by decide +kernel
theorem dX12_book_28 : decode cX12_book 28 = .ok (.if_icmp .ne 6, 3) := by decide +kernel
theorem dX12_book_31 : decode cX12_book 31 = .ok (.bipush (-104), 2) := by decide +kernel
theorem dX12_book_33 : decode cX12_book 33 = .ok (.ireturn, 1) := by decide +kernel
theorem dX12_book_34 : decode cX12_book 34 = .ok (.aload_n 0, 1) := by decide +kernel
theorem dX12_book_35 : decode cX12_book 35 = .ok (.getfield 28, 3) := by decide +kernel
theorem dX12_book_38 : decode cX12_book 38 = .ok (.aload_n 0, 1) := by decide +kernel
theorem dX12_book_39 : decode cX12_book 39 = .ok (.getfield 98, 3) := by decide +kernel
theorem dX12_book_42 : decode cX12_book 42 = .ok (.iload_n 1, 1) := by decide +kernel
theorem dX12_book_43 : decode cX12_book 43 = .ok (.iastore, 1) := by decide +kernel
theorem dX12_book_44 : decode cX12_book 44 = .ok (.aload_n 0, 1) := by decide +kernel
theorem dX12_book_45 : decode cX12_book 45 = .ok (.getfield 31, 3) := by decide +kernel
theorem dX12_book_48 : decode cX12_book 48 = .ok (.aload_n 0, 1) := by decide +kernel
theorem dX12_book_49 : decode cX12_book 49 = .ok (.getfield 98, 3) := by decide +kernel
theorem dX12_book_52 : decode cX12_book 52 = .ok (.iload_n 2, 1) := by decide +kernel
theorem dX12_book_53 : decode cX12_book 53 = .ok (.iastore, 1) := by decide +kernel
theorem dX12_book_54 : decode cX12_book 54 = .ok (.aload_n 0, 1) := by decide +kernel
theorem dX12_book_55 : decode cX12_book 55 = .ok (.dup, 1) := by decide +kernel
theorem dX12_book_56 : decode cX12_book 56 = .ok (.getfield 98, 3) := by decide +kernel
theorem dX12_book_59 : decode cX12_book 59 = .ok (.iconst 1, 1) := by decide +kernel
theorem dX12_book_60 : decode cX12_book 60 = .ok (.iadd, 1) := by decide +kernel
theorem dX12_book_61 : decode cX12_book 61 = .ok (.putfield 98, 3) := by decide +kernel
theorem dX12_book_64 : decode cX12_book 64 = .ok (.aload_n 0, 1) := by decide +kernel
theorem dX12_book_65 : decode cX12_book 65 = .ok (.getfield 98, 3) := by decide +kernel
theorem dX12_book_68 : decode cX12_book 68 = .ok (.ireturn, 1) := by decide +kernel
theorem dX12_forget_0 : decode cX12_forget 0 = .ok (.aload_n 0, 1) := by decide +kernel
theorem dX12_forget_1 : decode cX12_forget 1 = .ok (.getfield 98, 3) := by decide +kernel
theorem dX12_forget_4 : decode cX12_forget 4 = .ok (.istore_n 1, 1) := by decide +kernel
theorem dX12_forget_5 : decode cX12_forget 5 = .ok (.aload_n 0, 1) := by decide +kernel
theorem dX12_forget_6 : decode cX12_forget 6 = .ok (.iconst 0, 1) := by decide +kernel
theorem dX12_forget_7 : decode cX12_forget 7 = .ok (.putfield 98, 3) := by decide +kernel
theorem dX12_forget_10 : decode cX12_forget 10 = .ok (.iload_n 1, 1) := by decide +kernel
theorem dX12_forget_11 : decode cX12_forget 11 = .ok (.ireturn, 1) := by decide +kernel
theorem dX12_lookedAt_0 : decode cX12_lookedAt 0 = .ok (.iconst 0, 1) := by decide +kernel
theorem dX12_lookedAt_1 : decode cX12_lookedAt 1 = .ok (.istore_n 3, 1) := by decide +kernel
theorem dX12_lookedAt_2 : decode cX12_lookedAt 2 = .ok (.iconst 0, 1) := by decide +kernel
theorem dX12_lookedAt_3 : decode cX12_lookedAt 3 = .ok (.istore 4, 2) := by decide +kernel
theorem dX12_lookedAt_5 : decode cX12_lookedAt 5 = .ok (.iload 4, 2) := by decide +kernel
theorem dX12_lookedAt_7 : decode cX12_lookedAt 7 = .ok (.iload_n 1, 1) := by decide +kernel
theorem dX12_lookedAt_8 : decode cX12_lookedAt 8 = .ok (.iadd, 1) := by decide +kernel
theorem dX12_lookedAt_9 : decode cX12_lookedAt 9 = .ok (.aload_n 0, 1) := by decide +kernel
theorem dX12_lookedAt_10 : decode cX12_lookedAt 10 = .ok (.getfield 98, 3) := by decide +kernel
theorem dX12_lookedAt_13 : decode cX12_lookedAt 13 = .ok (.if_icmp .ge 63, 3) := by decide +kernel
theorem dX12_lookedAt_16 : decode cX12_lookedAt 16 = .ok (.aload_n 0, 1) := by decide +kernel
theorem dX12_lookedAt_17 : decode cX12_lookedAt 17 = .ok (.getfield 31, 3) := by decide +kernel
theorem dX12_lookedAt_20 : decode cX12_lookedAt 20 = .ok (.iload 4, 2) := by decide +kernel
theorem dX12_lookedAt_22 : decode cX12_lookedAt 22 = .ok (.iaload, 1) := by decide +kernel
theorem dX12_lookedAt_23 : decode cX12_lookedAt 23 = .ok (.iconst (-1), 1) := by decide +kernel
theorem dX12_lookedAt_24 : decode cX12_lookedAt 24 = .ok (.if_icmp .eq 30, 3) := by decide +kernel
theorem dX12_lookedAt_27 : decode cX12_lookedAt 27 = .ok (.iload_n 2, 1) := by decide +kernel
theorem dX12_lookedAt_28 : decode cX12_lookedAt 28 = .ok (.ifCond .eq 22, 3) := by decide +kernel
theorem dX12_lookedAt_31 : decode cX12_lookedAt 31 = .ok (.aload_n 0, 1) := by decide +kernel
theorem dX12_lookedAt_32 : decode cX12_lookedAt 32 = .ok (.getfield 31, 3) := by decide +kernel
theorem dX12_lookedAt_35 : decode cX12_lookedAt 35 = .ok (.iload 4, 2) := by decide +kernel
theorem dX12_lookedAt_37 : decode cX12_lookedAt 37 = .ok (.iaload, 1) := by decide +kernel
theorem dX12_lookedAt_38 : decode cX12_lookedAt 38 = .ok (.aload_n 0, 1) := by decide +kernel
theorem dX12_lookedAt_39 : decode cX12_lookedAt 39 = .ok (.getfield 28, 3) := by decide +kernel
theorem dX12_lookedAt_42 : decode cX12_lookedAt 42 = .ok (.iload 4, 2) := by decide +kernel
theorem dX12_lookedAt_44 : decode cX12_lookedAt 44 = .ok (.iload_n 1, 1) := by decide +kernel
theorem dX12_lookedAt_45 : decode cX12_lookedAt 45 = .ok (.iadd, 1) := by decide +kernel
theorem dX12_lookedAt_46 : decode cX12_lookedAt 46 = .ok (.iaload, 1) := by decide +kernel
theorem dX12_lookedAt_47 : decode cX12_lookedAt 47 = .ok (.if_icmp .eq 7, 3) := by decide +kernel
theorem dX12_lookedAt_50 : decode cX12_lookedAt 50 = .ok (.iconst 1, 1) := by decide +kernel
theorem dX12_lookedAt_51 : decode cX12_lookedAt 51 = .ok (.goto 4, 3) := by decide +kernel
theorem dX12_lookedAt_54 : decode cX12_lookedAt 54 = .ok (.iconst 0, 1) := by decide +kernel
theorem dX12_lookedAt_55 : decode cX12_lookedAt 55 = .ok (.istore 5, 2) := by decide +kernel
theorem dX12_lookedAt_57 : decode cX12_lookedAt 57 = .ok (.iload_n 3, 1) := by decide +kernel
theorem dX12_lookedAt_58 : decode cX12_lookedAt 58 = .ok (.iload 5, 2) := by decide +kernel
theorem dX12_lookedAt_60 : decode cX12_lookedAt 60 = .ok (.ifCond .eq 7, 3) := by decide +kernel
theorem dX12_lookedAt_63 : decode cX12_lookedAt 63 = .ok (.iconst 1, 1) := by decide +kernel
theorem dX12_lookedAt_64 : decode cX12_lookedAt 64 = .ok (.goto 4, 3) := by decide +kernel
theorem dX12_lookedAt_67 : decode cX12_lookedAt 67 = .ok (.iconst 0, 1) := by decide +kernel
theorem dX12_lookedAt_68 : decode cX12_lookedAt 68 = .ok (.iadd, 1) := by decide +kernel
theorem dX12_lookedAt_69 : decode cX12_lookedAt 69 = .ok (.istore_n 3, 1) := by decide +kernel
theorem dX12_lookedAt_70 : decode cX12_lookedAt 70 = .ok (.iinc 4 1, 3) := by decide +kernel
theorem dX12_lookedAt_73 : decode cX12_lookedAt 73 = .ok (.goto (-68), 3) := by decide +kernel
theorem dX12_lookedAt_76 : decode cX12_lookedAt 76 = .ok (.iload_n 3, 1) := by decide +kernel
theorem dX12_lookedAt_77 : decode cX12_lookedAt 77 = .ok (.ireturn, 1) := by decide +kernel
theorem dX12_wrong_0 : decode cX12_wrong 0 = .ok (.iload_n 1, 1) := by decide +kernel
theorem dX12_wrong_1 : decode cX12_wrong 1 = .ok (.iconst 0, 1) := by decide +kernel
theorem dX12_wrong_2 : decode cX12_wrong 2 = .ok (.iconst 4, 1) := by decide +kernel
theorem dX12_wrong_3 : decode cX12_wrong 3 = .ok (.invokestatic 56, 3) := by decide +kernel
theorem dX12_wrong_6 : decode cX12_wrong 6 = .ok (.ifCond .eq 12, 3) := by decide +kernel
theorem dX12_wrong_9 : decode cX12_wrong 9 = .ok (.aload_n 0, 1) := by decide +kernel
theorem dX12_wrong_10 : decode cX12_wrong 10 = .ok (.iload_n 1, 1) := by decide +kernel
theorem dX12_wrong_11 : decode cX12_wrong 11 = .ok (.iconst 1, 1) := by decide +kernel
theorem dX12_wrong_12 : decode cX12_wrong 12 = .ok (.invokevirtual 169, 3) := by decide +kernel
theorem dX12_wrong_15 : decode cX12_wrong 15 = .ok (.goto 5, 3) := by decide +kernel
theorem dX12_wrong_18 : decode cX12_wrong 18 = .ok (.bipush (-102), 2) := by decide +kernel
theorem dX12_wrong_20 : decode cX12_wrong 20 = .ok (.ireturn, 1) := by decide +kernel
theorem dX12_earliestNow_0 : decode cX12_earliestNow 0 = .ok (.iconst (-1), 1) := by decide +kernel
theorem dX12_earliestNow_1 : decode cX12_earliestNow 1 = .ok (.istore_n 1, 1) := by decide +kernel
theorem dX12_earliestNow_2 : decode cX12_earliestNow 2 = .ok (.bipush 13, 2) := by decide +kernel
theorem dX12_earliestNow_4 : decode cX12_earliestNow 4 = .ok (.istore_n 2, 1) := by decide +kernel
theorem dX12_earliestNow_5 : decode cX12_earliestNow 5 = .ok (.iconst 0, 1) := by decide +kernel
theorem dX12_earliestNow_6 : decode cX12_earliestNow 6 = .ok (.istore_n 3, 1) := by decide +kernel
theorem dX12_earliestNow_7 : decode cX12_earliestNow 7 = .ok (.iload_n 3, 1) := by decide +kernel
theorem dX12_earliestNow_8 : decode cX12_earliestNow 8 = .ok (.iconst 5, 1) := by decide +kernel
theorem dX12_earliestNow_9 : decode cX12_earliestNow 9 = .ok (.if_icmp .ge 62, 3) := by decide +kernel
theorem dX12_earliestNow_12 : decode cX12_earliestNow 12 = .ok (.aload_n 0, 1) := by decide +kernel
theorem dX12_earliestNow_13 : decode cX12_earliestNow 13 = .ok (.iload_n 3, 1) := by decide +kernel
theorem dX12_earliestNow_14 : decode cX12_earliestNow 14 = .ok (.iconst 1, 1) := by decide +kernel
theorem dX12_earliestNow_15 : decode cX12_earliestNow 15 = .ok (.invokevirtual 169, 3) := by decide +kernel
theorem dX12_earliestNow_18 : decode cX12_earliestNow 18 = .ok (.istore 4, 2) := by decide +kernel
theorem dX12_earliestNow_20 : decode cX12_earliestNow 20 = .ok (.aload_n 0, 1) := by decide +kernel
theorem dX12_earliestNow_21 : decode cX12_earliestNow 21 = .ok (.iload_n 3, 1) := by decide +kernel
theorem dX12_earliestNow_22 : decode cX12_earliestNow 22 = .ok (.iconst 0, 1) := by decide +kernel
theorem dX12_earliestNow_23 : decode cX12_earliestNow 23 = .ok (.invokevirtual 169, 3) := by decide +kernel
theorem dX12_earliestNow_26 : decode cX12_earliestNow 26 = .ok (.ifCond .le 13, 3) := by decide +kernel
theorem dX12_earliestNow_29 : decode cX12_earliestNow 29 = .ok (.iload 4, 2) := by decide +kernel
theorem dX12_earliestNow_31 : decode cX12_earliestNow 31 = .ok (.iload_n 2, 1) := by decide +kernel
theorem dX12_earliestNow_32 : decode cX12_earliestNow 32 = .ok (.if_icmp .ge 7, 3) := by decide +kernel
theorem dX12_earliestNow_35 : decode cX12_earliestNow 35 = .ok (.iconst 1, 1) := by decide +kernel
theorem dX12_earliestNow_36 : decode cX12_earliestNow 36 = .ok (.goto 4, 3) := by decide +kernel
theorem dX12_earliestNow_39 : decode cX12_earliestNow 39 = .ok (.iconst 0, 1) := by decide +kernel
theorem dX12_earliestNow_40 : decode cX12_earliestNow 40 = .ok (.istore 5, 2) := by decide +kernel
theorem dX12_earliestNow_42 : decode cX12_earliestNow 42 = .ok (.iload 5, 2) := by decide +kernel
theorem dX12_earliestNow_44 : decode cX12_earliestNow 44 = .ok (.ifCond .eq 7, 3) := by decide +kernel
theorem dX12_earliestNow_47 : decode cX12_earliestNow 47 = .ok (.iload_n 3, 1) := by decide +kernel
theorem dX12_earliestNow_48 : decode cX12_earliestNow 48 = .ok (.goto 4, 3) := by decide +kernel
theorem dX12_earliestNow_51 : decode cX12_earliestNow 51 = .ok (.iload_n 1, 1) := by decide +kernel
theorem dX12_earliestNow_52 : decode cX12_earliestNow 52 = .ok (.istore_n 1, 1) := by decide +kernel
theorem dX12_earliestNow_53 : decode cX12_earliestNow 53 = .ok (.iload 5, 2) := by decide +kernel
theorem dX12_earliestNow_55 : decode cX12_earliestNow 55 = .ok (.ifCond .eq 8, 3) := by decide +kernel
theorem dX12_earliestNow_58 : decode cX12_earliestNow 58 = .ok (.iload 4, 2) := by decide +kernel
theorem dX12_earliestNow_60 : decode cX12_earliestNow 60 = .ok (.goto 4, 3) := by decide +kernel
theorem dX12_earliestNow_63 : decode cX12_earliestNow 63 = .ok (.iload_n 2, 1) := by decide +kernel
theorem dX12_earliestNow_64 : decode cX12_earliestNow 64 = .ok (.istore_n 2, 1) := by decide +kernel
theorem dX12_earliestNow_65 : decode cX12_earliestNow 65 = .ok (.iinc 3 1, 3) := by decide +kernel
theorem dX12_earliestNow_68 : decode cX12_earliestNow 68 = .ok (.goto (-61), 3) := by decide +kernel
theorem dX12_earliestNow_71 : decode cX12_earliestNow 71 = .ok (.iload_n 1, 1) := by decide +kernel
theorem dX12_earliestNow_72 : decode cX12_earliestNow 72 = .ok (.ireturn, 1) := by decide +kernel
theorem dX12_earliest_0 : decode cX12_earliest 0 = .ok (.aload_n 0, 1) := by decide +kernel
theorem dX12_earliest_1 : decode cX12_earliest 1 = .ok (.invokevirtual 172, 3) := by decide +kernel
theorem dX12_earliest_4 : decode cX12_earliest 4 = .ok (.ireturn, 1) := by decide +kernel
theorem dX12_draw_0 : decode cX12_draw 0 = .ok (.aload_n 0, 1) := by decide +kernel
theorem dX12_draw_1 : decode cX12_draw 1 = .ok (.ldc2_w 175, 3) := by decide +kernel
theorem dX12_draw_4 : decode cX12_draw 4 = .ok (.aload_n 0, 1) := by decide +kernel
theorem dX12_draw_5 : decode cX12_draw 5 = .ok (.getfield 177, 3) := by decide +kernel
theorem dX12_draw_8 : decode cX12_draw 8 = .ok (.lmul, 1) := by decide +kernel
theorem dX12_draw_9 : decode cX12_draw 9 = .ok (.ldc2_w 181, 3) := by decide +kernel
theorem dX12_draw_12 : decode cX12_draw 12 = .ok (.ladd, 1) := by decide +kernel
theorem dX12_draw_13 : decode cX12_draw 13 = .ok (.ldc2_w 183, 3) := by decide +kernel
theorem dX12_draw_16 : decode cX12_draw 16 = .ok (.land, 1) := by decide +kernel
theorem dX12_draw_17 : decode cX12_draw 17 = .ok (.putfield 177, 3) := by decide +kernel
theorem dX12_draw_20 : decode cX12_draw 20 = .ok (.aload_n 0, 1) := by decide +kernel
theorem dX12_draw_21 : decode cX12_draw 21 = .ok (.getfield 177, 3) := by decide +kernel
theorem dX12_draw_24 : decode cX12_draw 24 = .ok (.ldc2_w 185, 3) := by decide +kernel
theorem dX12_draw_27 : decode cX12_draw 27 = .ok (.ldiv, 1) := by decide +kernel
theorem dX12_draw_28 : decode cX12_draw 28 = .ok (.iload_n 1, 1) := by decide +kernel
theorem dX12_draw_29 : decode cX12_draw 29 = .ok (.i2l, 1) := by decide +kernel
theorem dX12_draw_30 : decode cX12_draw 30 = .ok (.lrem, 1) := by decide +kernel
theorem dX12_draw_31 : decode cX12_draw 31 = .ok (.l2i, 1) := by decide +kernel
theorem dX12_draw_32 : decode cX12_draw 32 = .ok (.ireturn, 1) := by decide +kernel
theorem dX12_drawDays_0 : decode cX12_drawDays 0 = .ok (.aload_n 0, 1) := by decide +kernel
theorem dX12_drawDays_1 : decode cX12_drawDays 1 = .ok (.getfield 187, 3) := by decide +kernel
theorem dX12_drawDays_4 : decode cX12_drawDays 4 = .ok (.aload_n 0, 1) := by decide +kernel
theorem dX12_drawDays_5 : decode cX12_drawDays 5 = .ok (.getfield 76, 3) := by decide +kernel
theorem dX12_drawDays_8 : decode cX12_drawDays 8 = .ok (.if_icmp .ge 95, 3) := by decide +kernel
theorem dX12_drawDays_11 : decode cX12_drawDays 11 = .ok (.aload_n 0, 1) := by decide +kernel
theorem dX12_drawDays_12 : decode cX12_drawDays 12 = .ok (.getfield 187, 3) := by decide +kernel
theorem dX12_drawDays_15 : decode cX12_drawDays 15 = .ok (.ifCond .ne 10, 3) := by decide +kernel
theorem dX12_drawDays_18 : decode cX12_drawDays 18 = .ok (.aload_n 0, 1) := by decide +kernel
theorem dX12_drawDays_19 : decode cX12_drawDays 19 = .ok (.getfield 92, 3) := by decide +kernel
theorem dX12_drawDays_22 : decode cX12_drawDays 22 = .ok (.goto 12, 3) := by decide +kernel
theorem dX12_drawDays_25 : decode cX12_drawDays 25 = .ok (.aload_n 0, 1) := by decide +kernel
theorem dX12_drawDays_26 : decode cX12_drawDays 26 = .ok (.getfield 41, 3) := by decide +kernel
theorem dX12_drawDays_29 : decode cX12_drawDays 29 = .ok (.aload_n 0, 1) := by decide +kernel
theorem dX12_drawDays_30 : decode cX12_drawDays 30 = .ok (.getfield 187, 3) := by decide +kernel
theorem dX12_drawDays_33 : decode cX12_drawDays 33 = .ok (.iaload, 1) := by decide +kernel
theorem dX12_drawDays_34 : decode cX12_drawDays 34 = .ok (.istore_n 1, 1) := by decide +kernel
theorem dX12_drawDays_35 : decode cX12_drawDays 35 = .ok (.aload_n 0, 1) := by decide +kernel
theorem dX12_drawDays_36 : decode cX12_drawDays 36 = .ok (.bipush 10, 2) := by decide +kernel
theorem dX12_drawDays_38 : decode cX12_drawDays 38 = .ok (.invokevirtual 190, 3) := by decide +kernel
theorem dX12_drawDays_41 : decode cX12_drawDays 41 = .ok (.istore_n 2, 1) := by decide +kernel
theorem dX12_drawDays_42 : decode cX12_drawDays 42 = .ok (.aload_n 0, 1) := by decide +kernel
theorem dX12_drawDays_43 : decode cX12_drawDays 43 = .ok (.getfield 7, 3) := by decide +kernel
theorem dX12_drawDays_46 : decode cX12_drawDays 46 = .ok (.iconst 3, 1) := by decide +kernel
theorem dX12_drawDays_47 : decode cX12_drawDays 47 = .ok (.iload_n 1, 1) := by decide +kernel
theorem dX12_drawDays_48 : decode cX12_drawDays 48 = .ok (.imul, 1) := by decide +kernel
theorem dX12_drawDays_49 : decode cX12_drawDays 49 = .ok (.iaload, 1) := by decide +kernel
theorem dX12_drawDays_50 : decode cX12_drawDays 50 = .ok (.istore_n 3, 1) := by decide +kernel
theorem dX12_drawDays_51 : decode cX12_drawDays 51 = .ok (.aload_n 0, 1) := by decide +kernel
theorem dX12_drawDays_52 : decode cX12_drawDays 52 = .ok (.dup, 1) := by decide +kernel
theorem dX12_drawDays_53 : decode cX12_drawDays 53 = .ok (.getfield 187, 3) := by decide +kernel
theorem dX12_drawDays_56 : decode cX12_drawDays 56 = .ok (.iconst 1, 1) := by decide +kernel
theorem dX12_drawDays_57 : decode cX12_drawDays 57 = .ok (.iadd, 1) := by decide +kernel
theorem dX12_drawDays_58 : decode cX12_drawDays 58 = .ok (.putfield 187, 3) := by decide +kernel
theorem dX12_drawDays_61 : decode cX12_drawDays 61 = .ok (.aload_n 0, 1) := by decide +kernel
theorem dX12_drawDays_62 : decode cX12_drawDays 62 = .ok (.getfield 41, 3) := by decide +kernel
theorem dX12_drawDays_65 : decode cX12_drawDays 65 = .ok (.aload_n 0, 1) := by decide +kernel
theorem dX12_drawDays_66 : decode cX12_drawDays 66 = .ok (.getfield 187, 3) := by decide +kernel
theorem dX12_drawDays_69 : decode cX12_drawDays 69 = .ok (.iload_n 2, 1) := by decide +kernel
theorem dX12_drawDays_70 : decode cX12_drawDays 70 = .ok (.iload_n 3, 1) := by decide +kernel
theorem dX12_drawDays_71 : decode cX12_drawDays 71 = .ok (.if_icmp .ge 7, 3) := by decide +kernel
theorem dX12_drawDays_74 : decode cX12_drawDays 74 = .ok (.iconst 0, 1) := by decide +kernel
theorem dX12_drawDays_75 : decode cX12_drawDays 75 = .ok (.goto 24, 3) := by decide +kernel
theorem dX12_drawDays_78 : decode cX12_drawDays 78 = .ok (.iload_n 2, 1) := by decide +kernel
theorem dX12_drawDays_79 : decode cX12_drawDays 79 = .ok (.iload_n 3, 1) := by decide +kernel
theorem dX12_drawDays_80 : decode cX12_drawDays 80 = .ok (.aload_n 0, 1) := by decide +kernel
theorem dX12_drawDays_81 : decode cX12_drawDays 81 = .ok (.getfield 7, 3) := by decide +kernel
theorem dX12_drawDays_84 : decode cX12_drawDays 84 = .ok (.iconst 3, 1) := by decide +kernel
theorem dX12_drawDays_85 : decode cX12_drawDays 85 = .ok (.iload_n 1, 1) := by decide +kernel
theorem dX12_drawDays_86 : decode cX12_drawDays 86 = .ok (.imul, 1) := by decide +kernel
theorem dX12_drawDays_87 : decode cX12_drawDays 87 = .ok (.iconst 1, 1) := by decide +kernel
theorem dX12_drawDays_88 : decode cX12_drawDays 88 = .ok (.iadd, 1) := by decide +kernel
theorem dX12_drawDays_89 : decode cX12_drawDays 89 = .ok (.iaload, 1) := by decide +kernel
theorem dX12_drawDays_90 : decode cX12_drawDays 90 = .ok (.iadd, 1) := by decide +kernel
theorem dX12_drawDays_91 : decode cX12_drawDays 91 = .ok (.if_icmp .ge 7, 3) := by decide +kernel
theorem dX12_drawDays_94 : decode cX12_drawDays 94 = .ok (.iconst 1, 1) := by decide +kernel
theorem dX12_drawDays_95 : decode cX12_drawDays 95 = .ok (.goto 4, 3) := by decide +kernel
theorem dX12_drawDays_98 : decode cX12_drawDays 98 = .ok (.iconst 2, 1) := by decide +kernel
theorem dX12_drawDays_99 : decode cX12_drawDays 99 = .ok (.iastore, 1) := by decide +kernel
theorem dX12_drawDays_100 : decode cX12_drawDays 100 = .ok (.goto (-100), 3) := by decide +kernel
theorem dX12_drawDays_103 : decode cX12_drawDays 103 = .ok (.return_, 1) := by decide +kernel
theorem dX12_goSeeded_0 : decode cX12_goSeeded 0 = .ok (.aload_n 0, 1) := by decide +kernel
theorem dX12_goSeeded_1 : decode cX12_goSeeded 1 = .ok (.invokevirtual 193, 3) := by decide +kernel
theorem dX12_goSeeded_4 : decode cX12_goSeeded 4 = .ok (.aload_n 0, 1) := by decide +kernel
theorem dX12_goSeeded_5 : decode cX12_goSeeded 5 = .ok (.bipush 10, 2) := by decide +kernel
theorem dX12_goSeeded_7 : decode cX12_goSeeded 7 = .ok (.invokevirtual 190, 3) := by decide +kernel
theorem dX12_goSeeded_10 : decode cX12_goSeeded 10 = .ok (.aload_n 0, 1) := by decide +kernel
theorem dX12_goSeeded_11 : decode cX12_goSeeded 11 = .ok (.getfield 79, 3) := by decide +kernel
theorem dX12_goSeeded_14 : decode cX12_goSeeded 14 = .ok (.if_icmp .ge 7, 3) := by decide +kernel
theorem dX12_goSeeded_17 : decode cX12_goSeeded 17 = .ok (.iconst 1, 1) := by decide +kernel
theorem dX12_goSeeded_18 : decode cX12_goSeeded 18 = .ok (.goto 4, 3) := by decide +kernel
theorem dX12_goSeeded_21 : decode cX12_goSeeded 21 = .ok (.iconst 0, 1) := by decide +kernel
theorem dX12_goSeeded_22 : decode cX12_goSeeded 22 = .ok (.istore_n 1, 1) := by decide +kernel
theorem dX12_goSeeded_23 : decode cX12_goSeeded 23 = .ok (.aload_n 0, 1) := by decide +kernel
theorem dX12_goSeeded_24 : decode cX12_goSeeded 24 = .ok (.dup, 1) := by decide +kernel
theorem dX12_goSeeded_25 : decode cX12_goSeeded 25 = .ok (.getfield 196, 3) := by decide +kernel
theorem dX12_goSeeded_28 : decode cX12_goSeeded 28 = .ok (.iload_n 1, 1) := by decide +kernel
theorem dX12_goSeeded_29 : decode cX12_goSeeded 29 = .ok (.ifCond .eq 7, 3) := by decide +kernel
theorem dX12_goSeeded_32 : decode cX12_goSeeded 32 = .ok (.iconst 1, 1) := by decide +kernel
theorem dX12_goSeeded_33 : decode cX12_goSeeded 33 = .ok (.goto 4, 3) := by decide +kernel
theorem dX12_goSeeded_36 : decode cX12_goSeeded 36 = .ok (.iconst 0, 1) := by decide +kernel
theorem dX12_goSeeded_37 : decode cX12_goSeeded 37 = .ok (.iadd, 1) := by decide +kernel
theorem dX12_goSeeded_38 : decode cX12_goSeeded 38 = .ok (.putfield 196, 3) := by decide +kernel
theorem dX12_goSeeded_41 : decode cX12_goSeeded 41 = .ok (.aload_n 0, 1) := by decide +kernel
theorem dX12_goSeeded_42 : decode cX12_goSeeded 42 = .ok (.getfield 13, 3) := by decide +kernel
theorem dX12_goSeeded_45 : decode cX12_goSeeded 45 = .ok (.aload_n 0, 1) := by decide +kernel
theorem dX12_goSeeded_46 : decode cX12_goSeeded 46 = .ok (.getfield 76, 3) := by decide +kernel
theorem dX12_goSeeded_49 : decode cX12_goSeeded 49 = .ok (.iload_n 1, 1) := by decide +kernel
theorem dX12_goSeeded_50 : decode cX12_goSeeded 50 = .ok (.ifCond .eq 19, 3) := by decide +kernel
theorem dX12_goSeeded_53 : decode cX12_goSeeded 53 = .ok (.aload_n 0, 1) := by decide +kernel
theorem dX12_goSeeded_54 : decode cX12_goSeeded 54 = .ok (.getfield 41, 3) := by decide +kernel
theorem dX12_goSeeded_57 : decode cX12_goSeeded 57 = .ok (.aload_n 0, 1) := by decide +kernel
theorem dX12_goSeeded_58 : decode cX12_goSeeded 58 = .ok (.getfield 76, 3) := by decide +kernel
theorem dX12_goSeeded_61 : decode cX12_goSeeded 61 = .ok (.iaload, 1) := by decide +kernel
theorem dX12_goSeeded_62 : decode cX12_goSeeded 62 = .ok (.iconst 1, 1) := by decide +kernel
theorem dX12_goSeeded_63 : decode cX12_goSeeded 63 = .ok (.iadd, 1) := by decide +kernel
theorem dX12_goSeeded_64 : decode cX12_goSeeded 64 = .ok (.iconst 3, 1) := by decide +kernel
theorem dX12_goSeeded_65 : decode cX12_goSeeded 65 = .ok (.irem, 1) := by decide +kernel
theorem dX12_goSeeded_66 : decode cX12_goSeeded 66 = .ok (.goto 12, 3) := by decide +kernel
theorem dX12_goSeeded_69 : decode cX12_goSeeded 69 = .ok (.aload_n 0, 1) := by decide +kernel
theorem dX12_goSeeded_70 : decode cX12_goSeeded 70 = .ok (.getfield 41, 3) := by decide +kernel
theorem dX12_goSeeded_73 : decode cX12_goSeeded 73 = .ok (.aload_n 0, 1) := by decide +kernel
theorem dX12_goSeeded_74 : decode cX12_goSeeded 74 = .ok (.getfield 76, 3) := by decide +kernel
theorem dX12_goSeeded_77 : decode cX12_goSeeded 77 = .ok (.iaload, 1) := by decide +kernel
theorem dX12_goSeeded_78 : decode cX12_goSeeded 78 = .ok (.iastore, 1) := by decide +kernel
theorem dX12_goSeeded_79 : decode cX12_goSeeded 79 = .ok (.aload_n 0, 1) := by decide +kernel
theorem dX12_goSeeded_80 : decode cX12_goSeeded 80 = .ok (.getfield 41, 3) := by decide +kernel
theorem dX12_goSeeded_83 : decode cX12_goSeeded 83 = .ok (.iconst 1, 1) := by decide +kernel
theorem dX12_goSeeded_84 : decode cX12_goSeeded 84 = .ok (.iaload, 1) := by decide +kernel
theorem dX12_goSeeded_85 : decode cX12_goSeeded 85 = .ok (.istore_n 2, 1) := by decide +kernel
theorem dX12_goSeeded_86 : decode cX12_goSeeded 86 = .ok (.aload_n 0, 1) := by decide +kernel
theorem dX12_goSeeded_87 : decode cX12_goSeeded 87 = .ok (.iload_n 2, 1) := by decide +kernel
theorem dX12_goSeeded_88 : decode cX12_goSeeded 88 = .ok (.iconst 0, 1) := by decide +kernel
theorem dX12_goSeeded_89 : decode cX12_goSeeded 89 = .ok (.invokevirtual 125, 3) := by decide +kernel
theorem dX12_goSeeded_92 : decode cX12_goSeeded 92 = .ok (.istore_n 3, 1) := by decide +kernel
theorem dX12_goSeeded_93 : decode cX12_goSeeded 93 = .ok (.iconst 1, 1) := by decide +kernel
theorem dX12_goSeeded_94 : decode cX12_goSeeded 94 = .ok (.istore 4, 2) := by decide +kernel
theorem dX12_goSeeded_96 : decode cX12_goSeeded 96 = .ok (.iload 4, 2) := by decide +kernel
theorem dX12_goSeeded_98 : decode cX12_goSeeded 98 = .ok (.aload_n 0, 1) := by decide +kernel
theorem dX12_goSeeded_99 : decode cX12_goSeeded 99 = .ok (.getfield 187, 3) := by decide +kernel
theorem dX12_goSeeded_102 : decode cX12_goSeeded 102 = .ok (.if_icmp .ge 25, 3) := by decide +kernel
theorem dX12_goSeeded_105 : decode cX12_goSeeded 105 = .ok (.aload_n 0, 1) := by decide +kernel
theorem dX12_goSeeded_106 : decode cX12_goSeeded 106 = .ok (.getfield 41, 3) := by decide +kernel
theorem dX12_goSeeded_109 : decode cX12_goSeeded 109 = .ok (.iload 4, 2) := by decide +kernel
theorem dX12_goSeeded_111 : decode cX12_goSeeded 111 = .ok (.aload_n 0, 1) := by decide +kernel
theorem dX12_goSeeded_112 : decode cX12_goSeeded 112 = .ok (.getfield 41, 3) := by decide +kernel
theorem dX12_goSeeded_115 : decode cX12_goSeeded 115 = .ok (.iload 4, 2) := by decide +kernel
theorem dX12_goSeeded_117 : decode cX12_goSeeded 117 = .ok (.iconst 1, 1) := by decide +kernel
theorem dX12_goSeeded_118 : decode cX12_goSeeded 118 = .ok (.iadd, 1) := by decide +kernel
theorem dX12_goSeeded_119 : decode cX12_goSeeded 119 = .ok (.iaload, 1) := by decide +kernel
theorem dX12_goSeeded_120 : decode cX12_goSeeded 120 = .ok (.iastore, 1) := by decide +kernel
theorem dX12_goSeeded_121 : decode cX12_goSeeded 121 = .ok (.iinc 4 1, 3) := by decide +kernel
theorem dX12_goSeeded_124 : decode cX12_goSeeded 124 = .ok (.goto (-28), 3) := by decide +kernel
theorem dX12_goSeeded_127 : decode cX12_goSeeded 127 = .ok (.aload_n 0, 1) := by decide +kernel
theorem dX12_goSeeded_128 : decode cX12_goSeeded 128 = .ok (.dup, 1) := by decide +kernel
theorem dX12_goSeeded_129 : decode cX12_goSeeded 129 = .ok (.getfield 187, 3) := by decide +kernel
theorem dX12_goSeeded_132 : decode cX12_goSeeded 132 = .ok (.iconst 1, 1) := by decide +kernel
theorem dX12_goSeeded_133 : decode cX12_goSeeded 133 = .ok (.isub, 1) := by decide +kernel
theorem dX12_goSeeded_134 : decode cX12_goSeeded 134 = .ok (.putfield 187, 3) := by decide +kernel
theorem dX12_goSeeded_137 : decode cX12_goSeeded 137 = .ok (.iload_n 3, 1) := by decide +kernel
theorem dX12_goSeeded_138 : decode cX12_goSeeded 138 = .ok (.ireturn, 1) := by decide +kernel
theorem dX12_daysNow_0 : decode cX12_daysNow 0 = .ok (.aload_n 0, 1) := by decide +kernel
theorem dX12_daysNow_1 : decode cX12_daysNow 1 = .ok (.aload_n 0, 1) := by decide +kernel
theorem dX12_daysNow_2 : decode cX12_daysNow 2 = .ok (.getfield 89, 3) := by decide +kernel
theorem dX12_daysNow_5 : decode cX12_daysNow 5 = .ok (.putfield 199, 3) := by decide +kernel
theorem dX12_daysNow_8 : decode cX12_daysNow 8 = .ok (.aload_n 0, 1) := by decide +kernel
theorem dX12_daysNow_9 : decode cX12_daysNow 9 = .ok (.aload_n 0, 1) := by decide +kernel
theorem dX12_daysNow_10 : decode cX12_daysNow 10 = .ok (.getfield 92, 3) := by decide +kernel
theorem dX12_daysNow_13 : decode cX12_daysNow 13 = .ok (.putfield 202, 3) := by decide +kernel
theorem dX12_daysNow_16 : decode cX12_daysNow 16 = .ok (.iconst 0, 1) := by decide +kernel
theorem dX12_daysNow_17 : decode cX12_daysNow 17 = .ok (.istore 4, 2) := by decide +kernel
theorem dX12_daysNow_19 : decode cX12_daysNow 19 = .ok (.iload 4, 2) := by decide +kernel
theorem dX12_daysNow_21 : decode cX12_daysNow 21 = .ok (.iconst 4, 1) := by decide +kernel
theorem dX12_daysNow_22 : decode cX12_daysNow 22 = .ok (.if_icmp .gt 31, 3) := by decide +kernel
theorem dX12_daysNow_25 : decode cX12_daysNow 25 = .ok (.aload_n 0, 1) := by decide +kernel
theorem dX12_daysNow_26 : decode cX12_daysNow 26 = .ok (.getfield 38, 3) := by decide +kernel
theorem dX12_daysNow_29 : decode cX12_daysNow 29 = .ok (.iload 4, 2) := by decide +kernel
theorem dX12_daysNow_31 : decode cX12_daysNow 31 = .ok (.aload_n 0, 1) := by decide +kernel
theorem dX12_daysNow_32 : decode cX12_daysNow 32 = .ok (.getfield 13, 3) := by decide +kernel
theorem dX12_daysNow_35 : decode cX12_daysNow 35 = .ok (.iload 4, 2) := by decide +kernel
theorem dX12_daysNow_37 : decode cX12_daysNow 37 = .ok (.iaload, 1) := by decide +kernel
theorem dX12_daysNow_38 : decode cX12_daysNow 38 = .ok (.iastore, 1) := by decide +kernel
theorem dX12_daysNow_39 : decode cX12_daysNow 39 = .ok (.aload_n 0, 1) := by decide +kernel
theorem dX12_daysNow_40 : decode cX12_daysNow 40 = .ok (.getfield 13, 3) := by decide +kernel
theorem dX12_daysNow_43 : decode cX12_daysNow 43 = .ok (.iload 4, 2) := by decide +kernel
theorem dX12_daysNow_45 : decode cX12_daysNow 45 = .ok (.iconst (-1), 1) := by decide +kernel
theorem dX12_daysNow_46 : decode cX12_daysNow 46 = .ok (.iastore, 1) := by decide +kernel
theorem dX12_daysNow_47 : decode cX12_daysNow 47 = .ok (.iinc 4 1, 3) := by decide +kernel
theorem dX12_daysNow_50 : decode cX12_daysNow 50 = .ok (.goto (-31), 3) := by decide +kernel
theorem dX12_daysNow_53 : decode cX12_daysNow 53 = .ok (.aload_n 0, 1) := by decide +kernel
theorem dX12_daysNow_54 : decode cX12_daysNow 54 = .ok (.iload_n 2, 1) := by decide +kernel
theorem dX12_daysNow_55 : decode cX12_daysNow 55 = .ok (.i2l, 1) := by decide +kernel
theorem dX12_daysNow_56 : decode cX12_daysNow 56 = .ok (.putfield 177, 3) := by decide +kernel
theorem dX12_daysNow_59 : decode cX12_daysNow 59 = .ok (.aload_n 0, 1) := by decide +kernel
theorem dX12_daysNow_60 : decode cX12_daysNow 60 = .ok (.iconst 0, 1) := by decide +kernel
theorem dX12_daysNow_61 : decode cX12_daysNow 61 = .ok (.putfield 187, 3) := by decide +kernel
theorem dX12_daysNow_64 : decode cX12_daysNow 64 = .ok (.aload_n 0, 1) := by decide +kernel
theorem dX12_daysNow_65 : decode cX12_daysNow 65 = .ok (.iconst 0, 1) := by decide +kernel
theorem dX12_daysNow_66 : decode cX12_daysNow 66 = .ok (.putfield 196, 3) := by decide +kernel
theorem dX12_daysNow_69 : decode cX12_daysNow 69 = .ok (.iconst 0, 1) := by decide +kernel
theorem dX12_daysNow_70 : decode cX12_daysNow 70 = .ok (.istore 4, 2) := by decide +kernel
theorem dX12_daysNow_72 : decode cX12_daysNow 72 = .ok (.iconst 0, 1) := by decide +kernel
theorem dX12_daysNow_73 : decode cX12_daysNow 73 = .ok (.istore 5, 2) := by decide +kernel
theorem dX12_daysNow_75 : decode cX12_daysNow 75 = .ok (.iconst 0, 1) := by decide +kernel
theorem dX12_daysNow_76 : decode cX12_daysNow 76 = .ok (.istore 6, 2) := by decide +kernel
theorem dX12_daysNow_78 : decode cX12_daysNow 78 = .ok (.iload 6, 2) := by decide +kernel
theorem dX12_daysNow_80 : decode cX12_daysNow 80 = .ok (.iload_n 1, 1) := by decide +kernel
theorem dX12_daysNow_81 : decode cX12_daysNow 81 = .ok (.if_icmp .ge 36, 3) := by decide +kernel
theorem dX12_daysNow_84 : decode cX12_daysNow 84 = .ok (.iload 5, 2) := by decide +kernel
theorem dX12_daysNow_86 : decode cX12_daysNow 86 = .ok (.aload_n 0, 1) := by decide +kernel
theorem dX12_daysNow_87 : decode cX12_daysNow 87 = .ok (.invokevirtual 205, 3) := by decide +kernel
theorem dX12_daysNow_90 : decode cX12_daysNow 90 = .ok (.iadd, 1) := by decide +kernel
theorem dX12_daysNow_91 : decode cX12_daysNow 91 = .ok (.istore 5, 2) := by decide +kernel
theorem dX12_daysNow_93 : decode cX12_daysNow 93 = .ok (.iload 4, 2) := by decide +kernel
theorem dX12_daysNow_95 : decode cX12_daysNow 95 = .ok (.aload_n 0, 1) := by decide +kernel
theorem dX12_daysNow_96 : decode cX12_daysNow 96 = .ok (.getfield 92, 3) := by decide +kernel
theorem dX12_daysNow_99 : decode cX12_daysNow 99 = .ok (.iconst 1, 1) := by decide +kernel
theorem dX12_daysNow_100 : decode cX12_daysNow 100 = .ok (.if_icmp .ne 7, 3) := by decide +kernel
theorem dX12_daysNow_103 : decode cX12_daysNow 103 = .ok (.iconst 1, 1) := by decide +kernel
theorem dX12_daysNow_104 : decode cX12_daysNow 104 = .ok (.goto 4, 3) := by decide +kernel
theorem dX12_daysNow_107 : decode cX12_daysNow 107 = .ok (.iconst 0, 1) := by decide +kernel
theorem dX12_daysNow_108 : decode cX12_daysNow 108 = .ok (.iadd, 1) := by decide +kernel
theorem dX12_daysNow_109 : decode cX12_daysNow 109 = .ok (.istore 4, 2) := by decide +kernel
theorem dX12_daysNow_111 : decode cX12_daysNow 111 = .ok (.iinc 6 1, 3) := by decide +kernel
theorem dX12_daysNow_114 : decode cX12_daysNow 114 = .ok (.goto (-36), 3) := by decide +kernel
theorem dX12_daysNow_117 : decode cX12_daysNow 117 = .ok (.aload_n 0, 1) := by decide +kernel
theorem dX12_daysNow_118 : decode cX12_daysNow 118 = .ok (.aload_n 0, 1) := by decide +kernel
theorem dX12_daysNow_119 : decode cX12_daysNow 119 = .ok (.getfield 199, 3) := by decide +kernel
theorem dX12_daysNow_122 : decode cX12_daysNow 122 = .ok (.putfield 89, 3) := by decide +kernel
theorem dX12_daysNow_125 : decode cX12_daysNow 125 = .ok (.aload_n 0, 1) := by decide +kernel
theorem dX12_daysNow_126 : decode cX12_daysNow 126 = .ok (.aload_n 0, 1) := by decide +kernel
theorem dX12_daysNow_127 : decode cX12_daysNow 127 = .ok (.getfield 202, 3) := by decide +kernel
theorem dX12_daysNow_130 : decode cX12_daysNow 130 = .ok (.putfield 92, 3) := by decide +kernel
theorem dX12_daysNow_133 : decode cX12_daysNow 133 = .ok (.iconst 0, 1) := by decide +kernel
theorem dX12_daysNow_134 : decode cX12_daysNow 134 = .ok (.istore 6, 2) := by decide +kernel
theorem dX12_daysNow_136 : decode cX12_daysNow 136 = .ok (.iload 6, 2) := by decide +kernel
theorem dX12_daysNow_138 : decode cX12_daysNow 138 = .ok (.iconst 4, 1) := by decide +kernel
theorem dX12_daysNow_139 : decode cX12_daysNow 139 = .ok (.if_icmp .gt 23, 3) := by decide +kernel
theorem dX12_daysNow_142 : decode cX12_daysNow 142 = .ok (.aload_n 0, 1) := by decide +kernel
theorem dX12_daysNow_143 : decode cX12_daysNow 143 = .ok (.getfield 13, 3) := by decide +kernel
theorem dX12_daysNow_146 : decode cX12_daysNow 146 = .ok (.iload 6, 2) := by decide +kernel
theorem dX12_daysNow_148 : decode cX12_daysNow 148 = .ok (.aload_n 0, 1) := by decide +kernel
theorem dX12_daysNow_149 : decode cX12_daysNow 149 = .ok (.getfield 38, 3) := by decide +kernel
theorem dX12_daysNow_152 : decode cX12_daysNow 152 = .ok (.iload 6, 2) := by decide +kernel
theorem dX12_daysNow_154 : decode cX12_daysNow 154 = .ok (.iaload, 1) := by decide +kernel
theorem dX12_daysNow_155 : decode cX12_daysNow 155 = .ok (.iastore, 1) := by decide +kernel
theorem dX12_daysNow_156 : decode cX12_daysNow 156 = .ok (.iinc 6 1, 3) := by decide +kernel
theorem dX12_daysNow_159 : decode cX12_daysNow 159 = .ok (.goto (-23), 3) := by decide +kernel
theorem dX12_daysNow_162 : decode cX12_daysNow 162 = .ok (.iload_n 3, 1) := by decide +kernel
theorem dX12_daysNow_163 : decode cX12_daysNow 163 = .ok (.ifCond .ne 8, 3) := by decide +kernel
theorem dX12_daysNow_166 : decode cX12_daysNow 166 = .ok (.iload 4, 2) := by decide +kernel
theorem dX12_daysNow_168 : decode cX12_daysNow 168 = .ok (.goto 30, 3) := by decide +kernel
theorem dX12_daysNow_171 : decode cX12_daysNow 171 = .ok (.iload_n 3, 1) := by decide +kernel
theorem dX12_daysNow_172 : decode cX12_daysNow 172 = .ok (.iconst 1, 1) := by decide +kernel
theorem dX12_daysNow_173 : decode cX12_daysNow 173 = .ok (.if_icmp .ne 8, 3) := by decide +kernel
theorem dX12_daysNow_176 : decode cX12_daysNow 176 = .ok (.iload 5, 2) := by decide +kernel
theorem dX12_daysNow_178 : decode cX12_daysNow 178 = .ok (.goto 20, 3) := by decide +kernel
theorem dX12_daysNow_181 : decode cX12_daysNow 181 = .ok (.iload_n 3, 1) := by decide +kernel
theorem dX12_daysNow_182 : decode cX12_daysNow 182 = .ok (.iconst 2, 1) := by decide +kernel
theorem dX12_daysNow_183 : decode cX12_daysNow 183 = .ok (.if_icmp .ne 10, 3) := by decide +kernel
theorem dX12_daysNow_186 : decode cX12_daysNow 186 = .ok (.aload_n 0, 1) := by decide +kernel
theorem dX12_daysNow_187 : decode cX12_daysNow 187 = .ok (.getfield 196, 3) := by decide +kernel
theorem dX12_daysNow_190 : decode cX12_daysNow 190 = .ok (.goto 8, 3) := by decide +kernel
theorem dX12_daysNow_193 : decode cX12_daysNow 193 = .ok (.aload_n 0, 1) := by decide +kernel
theorem dX12_daysNow_194 : decode cX12_daysNow 194 = .ok (.getfield 177, 3) := by decide +kernel
theorem dX12_daysNow_197 : decode cX12_daysNow 197 = .ok (.l2i, 1) := by decide +kernel
theorem dX12_daysNow_198 : decode cX12_daysNow 198 = .ok (.ireturn, 1) := by decide +kernel
theorem dX12_days_0 : decode cX12_days 0 = .ok (.iload_n 1, 1) := by decide +kernel
theorem dX12_days_1 : decode cX12_days 1 = .ok (.iconst 1, 1) := by decide +kernel
theorem dX12_days_2 : decode cX12_days 2 = .ok (.bipush 30, 2) := by decide +kernel
theorem dX12_days_4 : decode cX12_days 4 = .ok (.invokestatic 56, 3) := by decide +kernel
theorem dX12_days_7 : decode cX12_days 7 = .ok (.ifCond .eq 16, 3) := by decide +kernel
theorem dX12_days_10 : decode cX12_days 10 = .ok (.iload_n 2, 1) := by decide +kernel
theorem dX12_days_11 : decode cX12_days 11 = .ok (.ifCond .lt 12, 3) := by decide +kernel
theorem dX12_days_14 : decode cX12_days 14 = .ok (.iload_n 3, 1) := by decide +kernel
theorem dX12_days_15 : decode cX12_days 15 = .ok (.iconst 0, 1) := by decide +kernel
theorem dX12_days_16 : decode cX12_days 16 = .ok (.iconst 3, 1) := by decide +kernel
theorem dX12_days_17 : decode cX12_days 17 = .ok (.invokestatic 56, 3) := by decide +kernel
theorem dX12_days_20 : decode cX12_days 20 = .ok (.ifCond .ne 6, 3) := by decide +kernel
theorem dX12_days_23 : decode cX12_days 23 = .ok (.bipush (-102), 2) := by decide +kernel
theorem dX12_days_25 : decode cX12_days 25 = .ok (.ireturn, 1) := by decide +kernel
theorem dX12_days_26 : decode cX12_days 26 = .ok (.aload_n 0, 1) := by decide +kernel
theorem dX12_days_27 : decode cX12_days 27 = .ok (.getfield 82, 3) := by decide +kernel
theorem dX12_days_30 : decode cX12_days 30 = .ok (.ifCond .eq 13, 3) := by decide +kernel
theorem dX12_days_33 : decode cX12_days 33 = .ok (.aload_n 0, 1) := by decide +kernel
theorem dX12_days_34 : decode cX12_days 34 = .ok (.iload_n 1, 1) := by decide +kernel
theorem dX12_days_35 : decode cX12_days 35 = .ok (.iload_n 2, 1) := by decide +kernel
theorem dX12_days_36 : decode cX12_days 36 = .ok (.iload_n 3, 1) := by decide +kernel
theorem dX12_days_37 : decode cX12_days 37 = .ok (.invokevirtual 208, 3) := by decide +kernel
theorem dX12_days_40 : decode cX12_days 40 = .ok (.goto 5, 3) := by decide +kernel
theorem dX12_days_43 : decode cX12_days 43 = .ok (.bipush (-103), 2) := by decide +kernel
theorem dX12_days_45 : decode cX12_days 45 = .ok (.ireturn, 1) := by decide +kernel
theorem dX12_image_0 : decode cX12_image 0 = .ok (.aload_n 0, 1) := by decide +kernel
theorem dX12_image_1 : decode cX12_image 1 = .ok (.getfield 82, 3) := by decide +kernel
theorem dX12_image_4 : decode cX12_image 4 = .ok (.ifCond .ne 6, 3) := by decide +kernel
theorem dX12_image_7 : decode cX12_image 7 = .ok (.bipush (-103), 2) := by decide +kernel
theorem dX12_image_9 : decode cX12_image 9 = .ok (.ireturn, 1) := by decide +kernel
theorem dX12_image_10 : decode cX12_image 10 = .ok (.aload_n 0, 1) := by decide +kernel
theorem dX12_image_11 : decode cX12_image 11 = .ok (.iconst 1, 1) := by decide +kernel
theorem dX12_image_12 : decode cX12_image 12 = .ok (.putfield 212, 3) := by decide +kernel
theorem dX12_image_15 : decode cX12_image 15 = .ok (.aload_n 0, 1) := by decide +kernel
theorem dX12_image_16 : decode cX12_image 16 = .ok (.aload_n 0, 1) := by decide +kernel
theorem dX12_image_17 : decode cX12_image 17 = .ok (.getfield 86, 3) := by decide +kernel
theorem dX12_image_20 : decode cX12_image 20 = .ok (.putfield 215, 3) := by decide +kernel
theorem dX12_image_23 : decode cX12_image 23 = .ok (.aload_n 0, 1) := by decide +kernel
theorem dX12_image_24 : decode cX12_image 24 = .ok (.aload_n 0, 1) := by decide +kernel
theorem dX12_image_25 : decode cX12_image 25 = .ok (.getfield 89, 3) := by decide +kernel
theorem dX12_image_28 : decode cX12_image 28 = .ok (.putfield 218, 3) := by decide +kernel
theorem dX12_image_31 : decode cX12_image 31 = .ok (.aload_n 0, 1) := by decide +kernel
theorem dX12_image_32 : decode cX12_image 32 = .ok (.aload_n 0, 1) := by decide +kernel
theorem dX12_image_33 : decode cX12_image 33 = .ok (.getfield 92, 3) := by decide +kernel
theorem dX12_image_36 : decode cX12_image 36 = .ok (.putfield 221, 3) := by decide +kernel
theorem dX12_image_39 : decode cX12_image 39 = .ok (.aload_n 0, 1) := by decide +kernel
theorem dX12_image_40 : decode cX12_image 40 = .ok (.aload_n 0, 1) := by decide +kernel
theorem dX12_image_41 : decode cX12_image 41 = .ok (.getfield 95, 3) := by decide +kernel
theorem dX12_image_44 : decode cX12_image 44 = .ok (.putfield 224, 3) := by decide +kernel
theorem dX12_image_47 : decode cX12_image 47 = .ok (.aload_n 0, 1) := by decide +kernel
theorem dX12_image_48 : decode cX12_image 48 = .ok (.aload_n 0, 1) := by decide +kernel
theorem dX12_image_49 : decode cX12_image 49 = .ok (.getfield 98, 3) := by decide +kernel
theorem dX12_image_52 : decode cX12_image 52 = .ok (.putfield 227, 3) := by decide +kernel
theorem dX12_image_55 : decode cX12_image 55 = .ok (.iconst 0, 1) := by decide +kernel
theorem dX12_image_56 : decode cX12_image 56 = .ok (.istore_n 1, 1) := by decide +kernel
theorem dX12_image_57 : decode cX12_image 57 = .ok (.iload_n 1, 1) := by decide +kernel
theorem dX12_image_58 : decode cX12_image 58 = .ok (.iconst 4, 1) := by decide +kernel
theorem dX12_image_59 : decode cX12_image 59 = .ok (.if_icmp .gt 21, 3) := by decide +kernel
theorem dX12_image_62 : decode cX12_image 62 = .ok (.aload_n 0, 1) := by decide +kernel
theorem dX12_image_63 : decode cX12_image 63 = .ok (.getfield 44, 3) := by decide +kernel
theorem dX12_image_66 : decode cX12_image 66 = .ok (.iload_n 1, 1) := by decide +kernel
theorem dX12_image_67 : decode cX12_image 67 = .ok (.aload_n 0, 1) := by decide +kernel
theorem dX12_image_68 : decode cX12_image 68 = .ok (.getfield 13, 3) := by decide +kernel
theorem dX12_image_71 : decode cX12_image 71 = .ok (.iload_n 1, 1) := by decide +kernel
theorem dX12_image_72 : decode cX12_image 72 = .ok (.iaload, 1) := by decide +kernel
theorem dX12_image_73 : decode cX12_image 73 = .ok (.iastore, 1) := by decide +kernel
theorem dX12_image_74 : decode cX12_image 74 = .ok (.iinc 1 1, 3) := by decide +kernel
theorem dX12_image_77 : decode cX12_image 77 = .ok (.goto (-20), 3) := by decide +kernel
theorem dX12_image_80 : decode cX12_image 80 = .ok (.iconst 0, 1) := by decide +kernel
theorem dX12_image_81 : decode cX12_image 81 = .ok (.istore_n 1, 1) := by decide +kernel
theorem dX12_image_82 : decode cX12_image 82 = .ok (.iload_n 1, 1) := by decide +kernel
theorem dX12_image_83 : decode cX12_image 83 = .ok (.iconst 4, 1) := by decide +kernel
theorem dX12_image_84 : decode cX12_image 84 = .ok (.if_icmp .ge 21, 3) := by decide +kernel
theorem dX12_image_87 : decode cX12_image 87 = .ok (.aload_n 0, 1) := by decide +kernel
theorem dX12_image_88 : decode cX12_image 88 = .ok (.getfield 47, 3) := by decide +kernel
theorem dX12_image_91 : decode cX12_image 91 = .ok (.iload_n 1, 1) := by decide +kernel
theorem dX12_image_92 : decode cX12_image 92 = .ok (.aload_n 0, 1) := by decide +kernel
theorem dX12_image_93 : decode cX12_image 93 = .ok (.getfield 25, 3) := by decide +kernel
theorem dX12_image_96 : decode cX12_image 96 = .ok (.iload_n 1, 1) := by decide +kernel
theorem dX12_image_97 : decode cX12_image 97 = .ok (.iaload, 1) := by decide +kernel
theorem dX12_image_98 : decode cX12_image 98 = .ok (.iastore, 1) := by decide +kernel
theorem dX12_image_99 : decode cX12_image 99 = .ok (.iinc 1 1, 3) := by decide +kernel
theorem dX12_image_102 : decode cX12_image 102 = .ok (.goto (-20), 3) := by decide +kernel
theorem dX12_image_105 : decode cX12_image 105 = .ok (.iconst 0, 1) := by decide +kernel
theorem dX12_image_106 : decode cX12_image 106 = .ok (.istore_n 1, 1) := by decide +kernel
theorem dX12_image_107 : decode cX12_image 107 = .ok (.iload_n 1, 1) := by decide +kernel
theorem dX12_image_108 : decode cX12_image 108 = .ok (.bipush 12, 2) := by decide +kernel
theorem dX12_image_110 : decode cX12_image 110 = .ok (.if_icmp .ge 33, 3) := by decide +kernel
theorem dX12_image_113 : decode cX12_image 113 = .ok (.aload_n 0, 1) := by decide +kernel
theorem dX12_image_114 : decode cX12_image 114 = .ok (.getfield 50, 3) := by decide +kernel
theorem dX12_image_117 : decode cX12_image 117 = .ok (.iload_n 1, 1) := by decide +kernel
theorem dX12_image_118 : decode cX12_image 118 = .ok (.aload_n 0, 1) := by decide +kernel
theorem dX12_image_119 : decode cX12_image 119 = .ok (.getfield 28, 3) := by decide +kernel
theorem dX12_image_122 : decode cX12_image 122 = .ok (.iload_n 1, 1) := by decide +kernel
theorem dX12_image_123 : decode cX12_image 123 = .ok (.iaload, 1) := by decide +kernel
theorem dX12_image_124 : decode cX12_image 124 = .ok (.iastore, 1) := by decide +kernel
theorem dX12_image_125 : decode cX12_image 125 = .ok (.aload_n 0, 1) := by decide +kernel
theorem dX12_image_126 : decode cX12_image 126 = .ok (.getfield 53, 3) := by decide +kernel
theorem dX12_image_129 : decode cX12_image 129 = .ok (.iload_n 1, 1) := by decide +kernel
theorem dX12_image_130 : decode cX12_image 130 = .ok (.aload_n 0, 1) := by decide +kernel
theorem dX12_image_131 : decode cX12_image 131 = .ok (.getfield 31, 3) := by decide +kernel
theorem dX12_image_134 : decode cX12_image 134 = .ok (.iload_n 1, 1) := by decide +kernel
theorem dX12_image_135 : decode cX12_image 135 = .ok (.iaload, 1) := by decide +kernel
theorem dX12_image_136 : decode cX12_image 136 = .ok (.iastore, 1) := by decide +kernel
theorem dX12_image_137 : decode cX12_image 137 = .ok (.iinc 1 1, 3) := by decide +kernel
theorem dX12_image_140 : decode cX12_image 140 = .ok (.goto (-33), 3) := by decide +kernel
theorem dX12_image_143 : decode cX12_image 143 = .ok (.aload_n 0, 1) := by decide +kernel
theorem dX12_image_144 : decode cX12_image 144 = .ok (.getfield 89, 3) := by decide +kernel
theorem dX12_image_147 : decode cX12_image 147 = .ok (.ireturn, 1) := by decide +kernel
theorem dX12_restore_0 : decode cX12_restore 0 = .ok (.aload_n 0, 1) := by decide +kernel
theorem dX12_restore_1 : decode cX12_restore 1 = .ok (.getfield 212, 3) := by decide +kernel
theorem dX12_restore_4 : decode cX12_restore 4 = .ok (.ifCond .eq 14, 3) := by decide +kernel
theorem dX12_restore_7 : decode cX12_restore 7 = .ok (.aload_n 0, 1) := by decide +kernel
theorem dX12_restore_8 : decode cX12_restore 8 = .ok (.getfield 215, 3) := by decide +kernel
theorem dX12_restore_11 : decode cX12_restore 11 = .ok (.aload_n 0, 1) := by decide +kernel
theorem dX12_restore_12 : decode cX12_restore 12 = .ok (.getfield 86, 3) := by decide +kernel
theorem dX12_restore_15 : decode cX12_restore 15 = .ok (.if_icmp .eq 6, 3) := by decide +kernel
theorem dX12_restore_18 : decode cX12_restore 18 = .ok (.bipush (-103), 2) := by decide +kernel
theorem dX12_restore_20 : decode cX12_restore 20 = .ok (.ireturn, 1) := by decide +kernel
theorem dX12_restore_21 : decode cX12_restore 21 = .ok (.aload_n 0, 1) := by decide +kernel
theorem dX12_restore_22 : decode cX12_restore 22 = .ok (.aload_n 0, 1) := by decide +kernel
theorem dX12_restore_23 : decode cX12_restore 23 = .ok (.getfield 218, 3) := by decide +kernel
theorem dX12_restore_26 : decode cX12_restore 26 = .ok (.putfield 89, 3) := by decide +kernel
theorem dX12_restore_29 : decode cX12_restore 29 = .ok (.aload_n 0, 1) := by decide +kernel
theorem dX12_restore_30 : decode cX12_restore 30 = .ok (.aload_n 0, 1) := by decide +kernel
theorem dX12_restore_31 : decode cX12_restore 31 = .ok (.getfield 221, 3) := by decide +kernel
theorem dX12_restore_34 : decode cX12_restore 34 = .ok (.putfield 92, 3) := by decide +kernel
theorem dX12_restore_37 : decode cX12_restore 37 = .ok (.aload_n 0, 1) := by decide +kernel
theorem dX12_restore_38 : decode cX12_restore 38 = .ok (.aload_n 0, 1) := by decide +kernel
theorem dX12_restore_39 : decode cX12_restore 39 = .ok (.getfield 224, 3) := by decide +kernel
theorem dX12_restore_42 : decode cX12_restore 42 = .ok (.putfield 95, 3) := by decide +kernel
theorem dX12_restore_45 : decode cX12_restore 45 = .ok (.aload_n 0, 1) := by decide +kernel
theorem dX12_restore_46 : decode cX12_restore 46 = .ok (.aload_n 0, 1) := by decide +kernel
theorem dX12_restore_47 : decode cX12_restore 47 = .ok (.getfield 227, 3) := by decide +kernel
theorem dX12_restore_50 : decode cX12_restore 50 = .ok (.putfield 98, 3) := by decide +kernel
theorem dX12_restore_53 : decode cX12_restore 53 = .ok (.iconst 0, 1) := by decide +kernel
theorem dX12_restore_54 : decode cX12_restore 54 = .ok (.istore_n 1, 1) := by decide +kernel
theorem dX12_restore_55 : decode cX12_restore 55 = .ok (.iload_n 1, 1) := by decide +kernel
theorem dX12_restore_56 : decode cX12_restore 56 = .ok (.iconst 4, 1) := by decide +kernel
theorem dX12_restore_57 : decode cX12_restore 57 = .ok (.if_icmp .gt 21, 3) := by decide +kernel
theorem dX12_restore_60 : decode cX12_restore 60 = .ok (.aload_n 0, 1) := by decide +kernel
theorem dX12_restore_61 : decode cX12_restore 61 = .ok (.getfield 13, 3) := by decide +kernel
theorem dX12_restore_64 : decode cX12_restore 64 = .ok (.iload_n 1, 1) := by decide +kernel
theorem dX12_restore_65 : decode cX12_restore 65 = .ok (.aload_n 0, 1) := by decide +kernel
theorem dX12_restore_66 : decode cX12_restore 66 = .ok (.getfield 44, 3) := by decide +kernel
theorem dX12_restore_69 : decode cX12_restore 69 = .ok (.iload_n 1, 1) := by decide +kernel
theorem dX12_restore_70 : decode cX12_restore 70 = .ok (.iaload, 1) := by decide +kernel
theorem dX12_restore_71 : decode cX12_restore 71 = .ok (.iastore, 1) := by decide +kernel
theorem dX12_restore_72 : decode cX12_restore 72 = .ok (.iinc 1 1, 3) := by decide +kernel
theorem dX12_restore_75 : decode cX12_restore 75 = .ok (.goto (-20), 3) := by decide +kernel
theorem dX12_restore_78 : decode cX12_restore 78 = .ok (.iconst 0, 1) := by decide +kernel
theorem dX12_restore_79 : decode cX12_restore 79 = .ok (.istore_n 1, 1) := by decide +kernel
theorem dX12_restore_80 : decode cX12_restore 80 = .ok (.iload_n 1, 1) := by decide +kernel
theorem dX12_restore_81 : decode cX12_restore 81 = .ok (.iconst 4, 1) := by decide +kernel
theorem dX12_restore_82 : decode cX12_restore 82 = .ok (.if_icmp .ge 21, 3) := by decide +kernel
theorem dX12_restore_85 : decode cX12_restore 85 = .ok (.aload_n 0, 1) := by decide +kernel
theorem dX12_restore_86 : decode cX12_restore 86 = .ok (.getfield 25, 3) := by decide +kernel
theorem dX12_restore_89 : decode cX12_restore 89 = .ok (.iload_n 1, 1) := by decide +kernel
theorem dX12_restore_90 : decode cX12_restore 90 = .ok (.aload_n 0, 1) := by decide +kernel
theorem dX12_restore_91 : decode cX12_restore 91 = .ok (.getfield 47, 3) := by decide +kernel
theorem dX12_restore_94 : decode cX12_restore 94 = .ok (.iload_n 1, 1) := by decide +kernel
theorem dX12_restore_95 : decode cX12_restore 95 = .ok (.iaload, 1) := by decide +kernel
theorem dX12_restore_96 : decode cX12_restore 96 = .ok (.iastore, 1) := by decide +kernel
theorem dX12_restore_97 : decode cX12_restore 97 = .ok (.iinc 1 1, 3) := by decide +kernel
theorem dX12_restore_100 : decode cX12_restore 100 = .ok (.goto (-20), 3) := by decide +kernel
theorem dX12_restore_103 : decode cX12_restore 103 = .ok (.iconst 0, 1) := by decide +kernel
theorem dX12_restore_104 : decode cX12_restore 104 = .ok (.istore_n 1, 1) := by decide +kernel
theorem dX12_restore_105 : decode cX12_restore 105 = .ok (.iload_n 1, 1) := by decide +kernel
theorem dX12_restore_106 : decode cX12_restore 106 = .ok (.bipush 12, 2) := by decide +kernel
theorem dX12_restore_108 : decode cX12_restore 108 = .ok (.if_icmp .ge 33, 3) := by decide +kernel
theorem dX12_restore_111 : decode cX12_restore 111 = .ok (.aload_n 0, 1) := by decide +kernel
theorem dX12_restore_112 : decode cX12_restore 112 = .ok (.getfield 28, 3) := by decide +kernel
theorem dX12_restore_115 : decode cX12_restore 115 = .ok (.iload_n 1, 1) := by decide +kernel
theorem dX12_restore_116 : decode cX12_restore 116 = .ok (.aload_n 0, 1) := by decide +kernel
theorem dX12_restore_117 : decode cX12_restore 117 = .ok (.getfield 50, 3) := by decide +kernel
theorem dX12_restore_120 : decode cX12_restore 120 = .ok (.iload_n 1, 1) := by decide +kernel
theorem dX12_restore_121 : decode cX12_restore 121 = .ok (.iaload, 1) := by decide +kernel
theorem dX12_restore_122 : decode cX12_restore 122 = .ok (.iastore, 1) := by decide +kernel
theorem dX12_restore_123 : decode cX12_restore 123 = .ok (.aload_n 0, 1) := by decide +kernel
theorem dX12_restore_124 : decode cX12_restore 124 = .ok (.getfield 31, 3) := by decide +kernel
theorem dX12_restore_127 : decode cX12_restore 127 = .ok (.iload_n 1, 1) := by decide +kernel
theorem dX12_restore_128 : decode cX12_restore 128 = .ok (.aload_n 0, 1) := by decide +kernel
theorem dX12_restore_129 : decode cX12_restore 129 = .ok (.getfield 53, 3) := by decide +kernel
theorem dX12_restore_132 : decode cX12_restore 132 = .ok (.iload_n 1, 1) := by decide +kernel
theorem dX12_restore_133 : decode cX12_restore 133 = .ok (.iaload, 1) := by decide +kernel
theorem dX12_restore_134 : decode cX12_restore 134 = .ok (.iastore, 1) := by decide +kernel
theorem dX12_restore_135 : decode cX12_restore 135 = .ok (.iinc 1 1, 3) := by decide +kernel
theorem dX12_restore_138 : decode cX12_restore 138 = .ok (.goto (-33), 3) := by decide +kernel
theorem dX12_restore_141 : decode cX12_restore 141 = .ok (.aload_n 0, 1) := by decide +kernel
theorem dX12_restore_142 : decode cX12_restore 142 = .ok (.getfield 89, 3) := by decide +kernel
theorem dX12_restore_145 : decode cX12_restore 145 = .ok (.ireturn, 1) := by decide +kernel
theorem dX12_paidAll_0 : decode cX12_paidAll 0 = .ok (.iconst 0, 1) := by decide +kernel
theorem dX12_paidAll_1 : decode cX12_paidAll 1 = .ok (.istore_n 1, 1) := by decide +kernel
theorem dX12_paidAll_2 : decode cX12_paidAll 2 = .ok (.iconst 0, 1) := by decide +kernel
theorem dX12_paidAll_3 : decode cX12_paidAll 3 = .ok (.istore_n 2, 1) := by decide +kernel
theorem dX12_paidAll_4 : decode cX12_paidAll 4 = .ok (.iload_n 2, 1) := by decide +kernel
theorem dX12_paidAll_5 : decode cX12_paidAll 5 = .ok (.aload_n 0, 1) := by decide +kernel
theorem dX12_paidAll_6 : decode cX12_paidAll 6 = .ok (.getfield 95, 3) := by decide +kernel
theorem dX12_paidAll_9 : decode cX12_paidAll 9 = .ok (.if_icmp .ge 18, 3) := by decide +kernel
theorem dX12_paidAll_12 : decode cX12_paidAll 12 = .ok (.iload_n 1, 1) := by decide +kernel
theorem dX12_paidAll_13 : decode cX12_paidAll 13 = .ok (.aload_n 0, 1) := by decide +kernel
theorem dX12_paidAll_14 : decode cX12_paidAll 14 = .ok (.getfield 25, 3) := by decide +kernel
theorem dX12_paidAll_17 : decode cX12_paidAll 17 = .ok (.iload_n 2, 1) := by decide +kernel
theorem dX12_paidAll_18 : decode cX12_paidAll 18 = .ok (.iaload, 1) := by decide +kernel
theorem dX12_paidAll_19 : decode cX12_paidAll 19 = .ok (.iadd, 1) := by decide +kernel
theorem dX12_paidAll_20 : decode cX12_paidAll 20 = .ok (.istore_n 1, 1) := by decide +kernel
theorem dX12_paidAll_21 : decode cX12_paidAll 21 = .ok (.iinc 2 1, 3) := by decide +kernel
theorem dX12_paidAll_24 : decode cX12_paidAll 24 = .ok (.goto (-20), 3) := by decide +kernel
theorem dX12_paidAll_27 : decode cX12_paidAll 27 = .ok (.iload_n 1, 1) := by decide +kernel
theorem dX12_paidAll_28 : decode cX12_paidAll 28 = .ok (.ireturn, 1) := by decide +kernel
theorem dX12_howMany_0 : decode cX12_howMany 0 = .ok (.iload_n 1, 1) := by decide +kernel
theorem dX12_howMany_1 : decode cX12_howMany 1 = .ok (.tableswitch 105 0 9 #[55, 60, 65, 70, 75, 80, 85, 90, 95, 100], 55) := by decide +kernel
theorem dX12_howMany_56 : decode cX12_howMany 56 = .ok (.aload_n 0, 1) := by decide +kernel
theorem dX12_howMany_57 : decode cX12_howMany 57 = .ok (.getfield 76, 3) := by decide +kernel
theorem dX12_howMany_60 : decode cX12_howMany 60 = .ok (.ireturn, 1) := by decide +kernel
theorem dX12_howMany_61 : decode cX12_howMany 61 = .ok (.aload_n 0, 1) := by decide +kernel
theorem dX12_howMany_62 : decode cX12_howMany 62 = .ok (.getfield 79, 3) := by decide +kernel
theorem dX12_howMany_65 : decode cX12_howMany 65 = .ok (.ireturn, 1) := by decide +kernel
theorem dX12_howMany_66 : decode cX12_howMany 66 = .ok (.aload_n 0, 1) := by decide +kernel
theorem dX12_howMany_67 : decode cX12_howMany 67 = .ok (.getfield 89, 3) := by decide +kernel
theorem dX12_howMany_70 : decode cX12_howMany 70 = .ok (.ireturn, 1) := by decide +kernel
theorem dX12_howMany_71 : decode cX12_howMany 71 = .ok (.aload_n 0, 1) := by decide +kernel
theorem dX12_howMany_72 : decode cX12_howMany 72 = .ok (.getfield 92, 3) := by decide +kernel
theorem dX12_howMany_75 : decode cX12_howMany 75 = .ok (.ireturn, 1) := by decide +kernel
theorem dX12_howMany_76 : decode cX12_howMany 76 = .ok (.aload_n 0, 1) := by decide +kernel
theorem dX12_howMany_77 : decode cX12_howMany 77 = .ok (.invokevirtual 119, 3) := by decide +kernel
theorem dX12_howMany_80 : decode cX12_howMany 80 = .ok (.ireturn, 1) := by decide +kernel
theorem dX12_howMany_81 : decode cX12_howMany 81 = .ok (.aload_n 0, 1) := by decide +kernel
theorem dX12_howMany_82 : decode cX12_howMany 82 = .ok (.getfield 95, 3) := by decide +kernel
theorem dX12_howMany_85 : decode cX12_howMany 85 = .ok (.ireturn, 1) := by decide +kernel
theorem dX12_howMany_86 : decode cX12_howMany 86 = .ok (.aload_n 0, 1) := by decide +kernel
theorem dX12_howMany_87 : decode cX12_howMany 87 = .ok (.invokevirtual 230, 3) := by decide +kernel
theorem dX12_howMany_90 : decode cX12_howMany 90 = .ok (.ireturn, 1) := by decide +kernel
theorem dX12_howMany_91 : decode cX12_howMany 91 = .ok (.aload_n 0, 1) := by decide +kernel
theorem dX12_howMany_92 : decode cX12_howMany 92 = .ok (.getfield 98, 3) := by decide +kernel
theorem dX12_howMany_95 : decode cX12_howMany 95 = .ok (.ireturn, 1) := by decide +kernel
theorem dX12_howMany_96 : decode cX12_howMany 96 = .ok (.aload_n 0, 1) := by decide +kernel
theorem dX12_howMany_97 : decode cX12_howMany 97 = .ok (.getfield 60, 3) := by decide +kernel
theorem dX12_howMany_100 : decode cX12_howMany 100 = .ok (.ireturn, 1) := by decide +kernel
theorem dX12_howMany_101 : decode cX12_howMany 101 = .ok (.aload_n 0, 1) := by decide +kernel
theorem dX12_howMany_102 : decode cX12_howMany 102 = .ok (.getfield 86, 3) := by decide +kernel
theorem dX12_howMany_105 : decode cX12_howMany 105 = .ok (.ireturn, 1) := by decide +kernel
theorem dX12_howMany_106 : decode cX12_howMany 106 = .ok (.bipush (-102), 2) := by decide +kernel
theorem dX12_howMany_108 : decode cX12_howMany 108 = .ok (.ireturn, 1) := by decide +kernel
theorem dX12_count_0 : decode cX12_count 0 = .ok (.aload_n 0, 1) := by decide +kernel
theorem dX12_count_1 : decode cX12_count 1 = .ok (.iload_n 1, 1) := by decide +kernel
theorem dX12_count_2 : decode cX12_count 2 = .ok (.invokevirtual 233, 3) := by decide +kernel
theorem dX12_count_5 : decode cX12_count 5 = .ok (.ireturn, 1) := by decide +kernel
theorem dX12_mix_0 : decode cX12_mix 0 = .ok (.aload_n 0, 1) := by decide +kernel
theorem dX12_mix_1 : decode cX12_mix 1 = .ok (.ldc2_w 236, 3) := by decide +kernel
theorem dX12_mix_4 : decode cX12_mix 4 = .ok (.aload_n 0, 1) := by decide +kernel
theorem dX12_mix_5 : decode cX12_mix 5 = .ok (.getfield 238, 3) := by decide +kernel
theorem dX12_mix_8 : decode cX12_mix 8 = .ok (.lmul, 1) := by decide +kernel
theorem dX12_mix_9 : decode cX12_mix 9 = .ok (.lload_n 1, 1) := by decide +kernel
theorem dX12_mix_10 : decode cX12_mix 10 = .ok (.ladd, 1) := by decide +kernel
theorem dX12_mix_11 : decode cX12_mix 11 = .ok (.putfield 238, 3) := by decide +kernel
theorem dX12_mix_14 : decode cX12_mix 14 = .ok (.return_, 1) := by decide +kernel
theorem dX12_mixLikely_0 : decode cX12_mixLikely 0 = .ok (.iconst 0, 1) := by decide +kernel
theorem dX12_mixLikely_1 : decode cX12_mixLikely 1 = .ok (.istore_n 2, 1) := by decide +kernel
theorem dX12_mixLikely_2 : decode cX12_mixLikely 2 = .ok (.iload_n 2, 1) := by decide +kernel
theorem dX12_mixLikely_3 : decode cX12_mixLikely 3 = .ok (.iconst 3, 1) := by decide +kernel
theorem dX12_mixLikely_4 : decode cX12_mixLikely 4 = .ok (.if_icmp .ge 31, 3) := by decide +kernel
theorem dX12_mixLikely_7 : decode cX12_mixLikely 7 = .ok (.aload_n 0, 1) := by decide +kernel
theorem dX12_mixLikely_8 : decode cX12_mixLikely 8 = .ok (.aload_n 0, 1) := by decide +kernel
theorem dX12_mixLikely_9 : decode cX12_mixLikely 9 = .ok (.iload_n 1, 1) := by decide +kernel
theorem dX12_mixLikely_10 : decode cX12_mixLikely 10 = .ok (.iload_n 2, 1) := by decide +kernel
theorem dX12_mixLikely_11 : decode cX12_mixLikely 11 = .ok (.iconst 0, 1) := by decide +kernel
theorem dX12_mixLikely_12 : decode cX12_mixLikely 12 = .ok (.invokevirtual 143, 3) := by decide +kernel
theorem dX12_mixLikely_15 : decode cX12_mixLikely 15 = .ok (.invokevirtual 241, 3) := by decide +kernel
theorem dX12_mixLikely_18 : decode cX12_mixLikely 18 = .ok (.aload_n 0, 1) := by decide +kernel
theorem dX12_mixLikely_19 : decode cX12_mixLikely 19 = .ok (.aload_n 0, 1) := by decide +kernel
theorem dX12_mixLikely_20 : decode cX12_mixLikely 20 = .ok (.iload_n 1, 1) := by decide +kernel
theorem dX12_mixLikely_21 : decode cX12_mixLikely 21 = .ok (.iload_n 2, 1) := by decide +kernel
theorem dX12_mixLikely_22 : decode cX12_mixLikely 22 = .ok (.iconst 1, 1) := by decide +kernel
theorem dX12_mixLikely_23 : decode cX12_mixLikely 23 = .ok (.invokevirtual 143, 3) := by decide +kernel
theorem dX12_mixLikely_26 : decode cX12_mixLikely 26 = .ok (.invokevirtual 241, 3) := by decide +kernel
theorem dX12_mixLikely_29 : decode cX12_mixLikely 29 = .ok (.iinc 2 1, 3) := by decide +kernel
theorem dX12_mixLikely_32 : decode cX12_mixLikely 32 = .ok (.goto (-30), 3) := by decide +kernel
theorem dX12_mixLikely_35 : decode cX12_mixLikely 35 = .ok (.return_, 1) := by decide +kernel
theorem dX12_digest_0 : decode cX12_digest 0 = .ok (.aload_n 0, 1) := by decide +kernel
theorem dX12_digest_1 : decode cX12_digest 1 = .ok (.ldc2_w 245, 3) := by decide +kernel
theorem dX12_digest_4 : decode cX12_digest 4 = .ok (.putfield 238, 3) := by decide +kernel
theorem dX12_digest_7 : decode cX12_digest 7 = .ok (.iconst 0, 1) := by decide +kernel
theorem dX12_digest_8 : decode cX12_digest 8 = .ok (.istore_n 1, 1) := by decide +kernel
theorem dX12_digest_9 : decode cX12_digest 9 = .ok (.iload_n 1, 1) := by decide +kernel
theorem dX12_digest_10 : decode cX12_digest 10 = .ok (.aload_n 0, 1) := by decide +kernel
theorem dX12_digest_11 : decode cX12_digest 11 = .ok (.getfield 95, 3) := by decide +kernel
theorem dX12_digest_14 : decode cX12_digest 14 = .ok (.if_icmp .ge 33, 3) := by decide +kernel
theorem dX12_digest_17 : decode cX12_digest 17 = .ok (.iconst 0, 1) := by decide +kernel
theorem dX12_digest_18 : decode cX12_digest 18 = .ok (.istore_n 2, 1) := by decide +kernel
theorem dX12_digest_19 : decode cX12_digest 19 = .ok (.iload_n 2, 1) := by decide +kernel
theorem dX12_digest_20 : decode cX12_digest 20 = .ok (.iconst 5, 1) := by decide +kernel
theorem dX12_digest_21 : decode cX12_digest 21 = .ok (.if_icmp .ge 20, 3) := by decide +kernel
theorem dX12_digest_24 : decode cX12_digest 24 = .ok (.aload_n 0, 1) := by decide +kernel
theorem dX12_digest_25 : decode cX12_digest 25 = .ok (.aload_n 0, 1) := by decide +kernel
theorem dX12_digest_26 : decode cX12_digest 26 = .ok (.iload_n 1, 1) := by decide +kernel
theorem dX12_digest_27 : decode cX12_digest 27 = .ok (.iload_n 2, 1) := by decide +kernel
theorem dX12_digest_28 : decode cX12_digest 28 = .ok (.invokevirtual 132, 3) := by decide +kernel
theorem dX12_digest_31 : decode cX12_digest 31 = .ok (.i2l, 1) := by decide +kernel
theorem dX12_digest_32 : decode cX12_digest 32 = .ok (.invokevirtual 241, 3) := by decide +kernel
theorem dX12_digest_35 : decode cX12_digest 35 = .ok (.iinc 2 1, 3) := by decide +kernel
theorem dX12_digest_38 : decode cX12_digest 38 = .ok (.goto (-19), 3) := by decide +kernel
theorem dX12_digest_41 : decode cX12_digest 41 = .ok (.iinc 1 1, 3) := by decide +kernel
theorem dX12_digest_44 : decode cX12_digest 44 = .ok (.goto (-35), 3) := by decide +kernel
theorem dX12_digest_47 : decode cX12_digest 47 = .ok (.aload_n 0, 1) := by decide +kernel
theorem dX12_digest_48 : decode cX12_digest 48 = .ok (.getfield 82, 3) := by decide +kernel
theorem dX12_digest_51 : decode cX12_digest 51 = .ok (.ifCond .eq 88, 3) := by decide +kernel
theorem dX12_digest_54 : decode cX12_digest 54 = .ok (.iconst 1, 1) := by decide +kernel
theorem dX12_digest_55 : decode cX12_digest 55 = .ok (.istore_n 1, 1) := by decide +kernel
theorem dX12_digest_56 : decode cX12_digest 56 = .ok (.iload_n 1, 1) := by decide +kernel
theorem dX12_digest_57 : decode cX12_digest 57 = .ok (.iconst 4, 1) := by decide +kernel
theorem dX12_digest_58 : decode cX12_digest 58 = .ok (.if_icmp .gt 20, 3) := by decide +kernel
theorem dX12_digest_61 : decode cX12_digest 61 = .ok (.aload_n 0, 1) := by decide +kernel
theorem dX12_digest_62 : decode cX12_digest 62 = .ok (.aload_n 0, 1) := by decide +kernel
theorem dX12_digest_63 : decode cX12_digest 63 = .ok (.getfield 13, 3) := by decide +kernel
theorem dX12_digest_66 : decode cX12_digest 66 = .ok (.iload_n 1, 1) := by decide +kernel
theorem dX12_digest_67 : decode cX12_digest 67 = .ok (.iaload, 1) := by decide +kernel
theorem dX12_digest_68 : decode cX12_digest 68 = .ok (.i2l, 1) := by decide +kernel
theorem dX12_digest_69 : decode cX12_digest 69 = .ok (.invokevirtual 241, 3) := by decide +kernel
theorem dX12_digest_72 : decode cX12_digest 72 = .ok (.iinc 1 1, 3) := by decide +kernel
theorem dX12_digest_75 : decode cX12_digest 75 = .ok (.goto (-19), 3) := by decide +kernel
theorem dX12_digest_78 : decode cX12_digest 78 = .ok (.aload_n 0, 1) := by decide +kernel
theorem dX12_digest_79 : decode cX12_digest 79 = .ok (.iconst 1, 1) := by decide +kernel
theorem dX12_digest_80 : decode cX12_digest 80 = .ok (.invokevirtual 247, 3) := by decide +kernel
theorem dX12_digest_83 : decode cX12_digest 83 = .ok (.aload_n 0, 1) := by decide +kernel
theorem dX12_digest_84 : decode cX12_digest 84 = .ok (.bipush 6, 2) := by decide +kernel
theorem dX12_digest_86 : decode cX12_digest 86 = .ok (.invokevirtual 247, 3) := by decide +kernel
theorem dX12_digest_89 : decode cX12_digest 89 = .ok (.aload_n 0, 1) := by decide +kernel
theorem dX12_digest_90 : decode cX12_digest 90 = .ok (.aload_n 0, 1) := by decide +kernel
theorem dX12_digest_91 : decode cX12_digest 91 = .ok (.invokevirtual 151, 3) := by decide +kernel
theorem dX12_digest_94 : decode cX12_digest 94 = .ok (.i2l, 1) := by decide +kernel
theorem dX12_digest_95 : decode cX12_digest 95 = .ok (.invokevirtual 241, 3) := by decide +kernel
theorem dX12_digest_98 : decode cX12_digest 98 = .ok (.aload_n 0, 1) := by decide +kernel
theorem dX12_digest_99 : decode cX12_digest 99 = .ok (.aload_n 0, 1) := by decide +kernel
theorem dX12_digest_100 : decode cX12_digest 100 = .ok (.invokevirtual 154, 3) := by decide +kernel
theorem dX12_digest_103 : decode cX12_digest 103 = .ok (.i2l, 1) := by decide +kernel
theorem dX12_digest_104 : decode cX12_digest 104 = .ok (.invokevirtual 241, 3) := by decide +kernel
theorem dX12_digest_107 : decode cX12_digest 107 = .ok (.aload_n 0, 1) := by decide +kernel
theorem dX12_digest_108 : decode cX12_digest 108 = .ok (.aload_n 0, 1) := by decide +kernel
theorem dX12_digest_109 : decode cX12_digest 109 = .ok (.iconst 1, 1) := by decide +kernel
theorem dX12_digest_110 : decode cX12_digest 110 = .ok (.invokevirtual 157, 3) := by decide +kernel
theorem dX12_digest_113 : decode cX12_digest 113 = .ok (.i2l, 1) := by decide +kernel
theorem dX12_digest_114 : decode cX12_digest 114 = .ok (.invokevirtual 241, 3) := by decide +kernel
theorem dX12_digest_117 : decode cX12_digest 117 = .ok (.aload_n 0, 1) := by decide +kernel
theorem dX12_digest_118 : decode cX12_digest 118 = .ok (.aload_n 0, 1) := by decide +kernel
theorem dX12_digest_119 : decode cX12_digest 119 = .ok (.iconst 2, 1) := by decide +kernel
theorem dX12_digest_120 : decode cX12_digest 120 = .ok (.iconst 5, 1) := by decide +kernel
theorem dX12_digest_121 : decode cX12_digest 121 = .ok (.iconst 0, 1) := by decide +kernel
theorem dX12_digest_122 : decode cX12_digest 122 = .ok (.invokevirtual 166, 3) := by decide +kernel
theorem dX12_digest_125 : decode cX12_digest 125 = .ok (.invokevirtual 241, 3) := by decide +kernel
theorem dX12_digest_128 : decode cX12_digest 128 = .ok (.aload_n 0, 1) := by decide +kernel
theorem dX12_digest_129 : decode cX12_digest 129 = .ok (.aload_n 0, 1) := by decide +kernel
theorem dX12_digest_130 : decode cX12_digest 130 = .ok (.iconst 2, 1) := by decide +kernel
theorem dX12_digest_131 : decode cX12_digest 131 = .ok (.iconst 5, 1) := by decide +kernel
theorem dX12_digest_132 : decode cX12_digest 132 = .ok (.iconst 1, 1) := by decide +kernel
theorem dX12_digest_133 : decode cX12_digest 133 = .ok (.invokevirtual 166, 3) := by decide +kernel
theorem dX12_digest_136 : decode cX12_digest 136 = .ok (.invokevirtual 241, 3) := by decide +kernel
theorem dX12_digest_139 : decode cX12_digest 139 = .ok (.iconst 0, 1) := by decide +kernel
theorem dX12_digest_140 : decode cX12_digest 140 = .ok (.istore_n 1, 1) := by decide +kernel
theorem dX12_digest_141 : decode cX12_digest 141 = .ok (.iload_n 1, 1) := by decide +kernel
theorem dX12_digest_142 : decode cX12_digest 142 = .ok (.iconst 5, 1) := by decide +kernel
theorem dX12_digest_143 : decode cX12_digest 143 = .ok (.if_icmp .ge 20, 3) := by decide +kernel
theorem dX12_digest_146 : decode cX12_digest 146 = .ok (.aload_n 0, 1) := by decide +kernel
theorem dX12_digest_147 : decode cX12_digest 147 = .ok (.aload_n 0, 1) := by decide +kernel
theorem dX12_digest_148 : decode cX12_digest 148 = .ok (.iload_n 1, 1) := by decide +kernel
theorem dX12_digest_149 : decode cX12_digest 149 = .ok (.iconst 1, 1) := by decide +kernel
theorem dX12_digest_150 : decode cX12_digest 150 = .ok (.invokevirtual 169, 3) := by decide +kernel
theorem dX12_digest_153 : decode cX12_digest 153 = .ok (.i2l, 1) := by decide +kernel
theorem dX12_digest_154 : decode cX12_digest 154 = .ok (.invokevirtual 241, 3) := by decide +kernel
theorem dX12_digest_157 : decode cX12_digest 157 = .ok (.iinc 1 1, 3) := by decide +kernel
theorem dX12_digest_160 : decode cX12_digest 160 = .ok (.goto (-19), 3) := by decide +kernel
theorem dX12_digest_163 : decode cX12_digest 163 = .ok (.aload_n 0, 1) := by decide +kernel
theorem dX12_digest_164 : decode cX12_digest 164 = .ok (.aload_n 0, 1) := by decide +kernel
theorem dX12_digest_165 : decode cX12_digest 165 = .ok (.invokevirtual 172, 3) := by decide +kernel
theorem dX12_digest_168 : decode cX12_digest 168 = .ok (.i2l, 1) := by decide +kernel
theorem dX12_digest_169 : decode cX12_digest 169 = .ok (.invokevirtual 241, 3) := by decide +kernel
theorem dX12_digest_172 : decode cX12_digest 172 = .ok (.iconst 0, 1) := by decide +kernel
theorem dX12_digest_173 : decode cX12_digest 173 = .ok (.istore_n 1, 1) := by decide +kernel
theorem dX12_digest_174 : decode cX12_digest 174 = .ok (.iload_n 1, 1) := by decide +kernel
theorem dX12_digest_175 : decode cX12_digest 175 = .ok (.aload_n 0, 1) := by decide +kernel
theorem dX12_digest_176 : decode cX12_digest 176 = .ok (.getfield 60, 3) := by decide +kernel
theorem dX12_digest_179 : decode cX12_digest 179 = .ok (.if_icmp .ge 20, 3) := by decide +kernel
theorem dX12_digest_182 : decode cX12_digest 182 = .ok (.aload_n 0, 1) := by decide +kernel
theorem dX12_digest_183 : decode cX12_digest 183 = .ok (.aload_n 0, 1) := by decide +kernel
theorem dX12_digest_184 : decode cX12_digest 184 = .ok (.getfield 34, 3) := by decide +kernel
theorem dX12_digest_187 : decode cX12_digest 187 = .ok (.iload_n 1, 1) := by decide +kernel
theorem dX12_digest_188 : decode cX12_digest 188 = .ok (.baload, 1) := by decide +kernel
theorem dX12_digest_189 : decode cX12_digest 189 = .ok (.i2l, 1) := by decide +kernel
theorem dX12_digest_190 : decode cX12_digest 190 = .ok (.invokevirtual 241, 3) := by decide +kernel
theorem dX12_digest_193 : decode cX12_digest 193 = .ok (.iinc 1 1, 3) := by decide +kernel
theorem dX12_digest_196 : decode cX12_digest 196 = .ok (.goto (-22), 3) := by decide +kernel
theorem dX12_digest_199 : decode cX12_digest 199 = .ok (.iconst 0, 1) := by decide +kernel
theorem dX12_digest_200 : decode cX12_digest 200 = .ok (.istore_n 1, 1) := by decide +kernel
theorem dX12_digest_201 : decode cX12_digest 201 = .ok (.iload_n 1, 1) := by decide +kernel
theorem dX12_digest_202 : decode cX12_digest 202 = .ok (.bipush 10, 2) := by decide +kernel
theorem dX12_digest_204 : decode cX12_digest 204 = .ok (.if_icmp .ge 19, 3) := by decide +kernel
theorem dX12_digest_207 : decode cX12_digest 207 = .ok (.aload_n 0, 1) := by decide +kernel
theorem dX12_digest_208 : decode cX12_digest 208 = .ok (.aload_n 0, 1) := by decide +kernel
theorem dX12_digest_209 : decode cX12_digest 209 = .ok (.iload_n 1, 1) := by decide +kernel
theorem dX12_digest_210 : decode cX12_digest 210 = .ok (.invokevirtual 233, 3) := by decide +kernel
theorem dX12_digest_213 : decode cX12_digest 213 = .ok (.i2l, 1) := by decide +kernel
theorem dX12_digest_214 : decode cX12_digest 214 = .ok (.invokevirtual 241, 3) := by decide +kernel
theorem dX12_digest_217 : decode cX12_digest 217 = .ok (.iinc 1 1, 3) := by decide +kernel
theorem dX12_digest_220 : decode cX12_digest 220 = .ok (.goto (-19), 3) := by decide +kernel
theorem dX12_digest_223 : decode cX12_digest 223 = .ok (.aload_n 0, 1) := by decide +kernel
theorem dX12_digest_224 : decode cX12_digest 224 = .ok (.getfield 238, 3) := by decide +kernel
theorem dX12_digest_227 : decode cX12_digest 227 = .ok (.lreturn, 1) := by decide +kernel
theorem dL_law_0 : decode cL_law 0 = .ok (.new 7, 3) := by decide +kernel
theorem dL_law_3 : decode cL_law 3 = .ok (.dup, 1) := by decide +kernel
theorem dL_law_4 : decode cL_law 4 = .ok (.invokespecial 9, 3) := by decide +kernel
theorem dL_law_7 : decode cL_law 7 = .ok (.astore_n 1, 1) := by decide +kernel
theorem dL_law_8 : decode cL_law 8 = .ok (.new 10, 3) := by decide +kernel
theorem dL_law_11 : decode cL_law 11 = .ok (.dup, 1) := by decide +kernel
theorem dL_law_12 : decode cL_law 12 = .ok (.invokespecial 12, 3) := by decide +kernel
theorem dL_law_15 : decode cL_law 15 = .ok (.astore_n 2, 1) := by decide +kernel
theorem dL_law_16 : decode cL_law 16 = .ok (.iconst 0, 1) := by decide +kernel
theorem dL_law_17 : decode cL_law 17 = .ok (.istore_n 3, 1) := by decide +kernel
theorem dL_law_18 : decode cL_law 18 = .ok (.iload_n 3, 1) := by decide +kernel
theorem dL_law_19 : decode cL_law 19 = .ok (.aload_n 0, 1) := by decide +kernel
theorem dL_law_20 : decode cL_law 20 = .ok (.arraylength, 1) := by decide +kernel
theorem dL_law_21 : decode cL_law 21 = .ok (.iconst 4, 1) := by decide +kernel
theorem dL_law_22 : decode cL_law 22 = .ok (.isub, 1) := by decide +kernel
theorem dL_law_23 : decode cL_law 23 = .ok (.if_icmp .gt 729, 3) := by decide +kernel
theorem dL_law_26 : decode cL_law 26 = .ok (.aload_n 0, 1) := by decide +kernel
theorem dL_law_27 : decode cL_law 27 = .ok (.iload_n 3, 1) := by decide +kernel
theorem dL_law_28 : decode cL_law 28 = .ok (.iaload, 1) := by decide +kernel
theorem dL_law_29 : decode cL_law 29 = .ok (.bipush 31, 2) := by decide +kernel
theorem dL_law_31 : decode cL_law 31 = .ok (.iand, 1) := by decide +kernel
theorem dL_law_32 : decode cL_law 32 = .ok (.tableswitch 714 0 24 #[116, 139, 152, 165, 178, 211, 234, 257, 280, 323, 356, 389, 433, 446, 459, 482, 526, 559, 572, 595, 608, 651, 664, 677, 700], 116) := by decide +kernel
theorem dL_law_148 : decode cL_law 148 = .ok (.aload_n 1, 1) := by decide +kernel
theorem dL_law_149 : decode cL_law 149 = .ok (.aload_n 0, 1) := by decide +kernel
theorem dL_law_150 : decode cL_law 150 = .ok (.iload_n 3, 1) := by decide +kernel
theorem dL_law_151 : decode cL_law 151 = .ok (.iconst 1, 1) := by decide +kernel
theorem dL_law_152 : decode cL_law 152 = .ok (.iadd, 1) := by decide +kernel
theorem dL_law_153 : decode cL_law 153 = .ok (.iaload, 1) := by decide +kernel
theorem dL_law_154 : decode cL_law 154 = .ok (.invokevirtual 13, 3) := by decide +kernel
theorem dL_law_157 : decode cL_law 157 = .ok (.aload_n 2, 1) := by decide +kernel
theorem dL_law_158 : decode cL_law 158 = .ok (.aload_n 0, 1) := by decide +kernel
theorem dL_law_159 : decode cL_law 159 = .ok (.iload_n 3, 1) := by decide +kernel
theorem dL_law_160 : decode cL_law 160 = .ok (.iconst 1, 1) := by decide +kernel
theorem dL_law_161 : decode cL_law 161 = .ok (.iadd, 1) := by decide +kernel
theorem dL_law_162 : decode cL_law 162 = .ok (.iaload, 1) := by decide +kernel
theorem dL_law_163 : decode cL_law 163 = .ok (.invokevirtual 17, 3) := by decide +kernel
theorem dL_law_166 : decode cL_law 166 = .ok (.if_icmp .eq 580, 3) := by decide +kernel
theorem dL_law_169 : decode cL_law 169 = .ok (.iconst 0, 1) := by decide +kernel
theorem dL_law_170 : decode cL_law 170 = .ok (.ireturn, 1) := by decide +kernel
theorem dL_law_171 : decode cL_law 171 = .ok (.aload_n 1, 1) := by decide +kernel
theorem dL_law_172 : decode cL_law 172 = .ok (.invokevirtual 18, 3) := by decide +kernel
theorem dL_law_175 : decode cL_law 175 = .ok (.aload_n 2, 1) := by decide +kernel
theorem dL_law_176 : decode cL_law 176 = .ok (.invokevirtual 22, 3) := by decide +kernel
theorem dL_law_179 : decode cL_law 179 = .ok (.if_icmp .eq 567, 3) := by decide +kernel
theorem dL_law_182 : decode cL_law 182 = .ok (.iconst 0, 1) := by decide +kernel
theorem dL_law_183 : decode cL_law 183 = .ok (.ireturn, 1) := by decide +kernel
theorem dL_law_184 : decode cL_law 184 = .ok (.aload_n 1, 1) := by decide +kernel
theorem dL_law_185 : decode cL_law 185 = .ok (.invokevirtual 23, 3) := by decide +kernel
theorem dL_law_188 : decode cL_law 188 = .ok (.aload_n 2, 1) := by decide +kernel
theorem dL_law_189 : decode cL_law 189 = .ok (.invokevirtual 26, 3) := by decide +kernel
theorem dL_law_192 : decode cL_law 192 = .ok (.if_icmp .eq 554, 3) := by decide +kernel
theorem dL_law_195 : decode cL_law 195 = .ok (.iconst 0, 1) := by decide +kernel
theorem dL_law_196 : decode cL_law 196 = .ok (.ireturn, 1) := by decide +kernel
theorem dL_law_197 : decode cL_law 197 = .ok (.aload_n 1, 1) := by decide +kernel
theorem dL_law_198 : decode cL_law 198 = .ok (.invokevirtual 27, 3) := by decide +kernel
theorem dL_law_201 : decode cL_law 201 = .ok (.aload_n 2, 1) := by decide +kernel
theorem dL_law_202 : decode cL_law 202 = .ok (.invokevirtual 30, 3) := by decide +kernel
theorem dL_law_205 : decode cL_law 205 = .ok (.if_icmp .eq 541, 3) := by decide +kernel
theorem dL_law_208 : decode cL_law 208 = .ok (.iconst 0, 1) := by decide +kernel
theorem dL_law_209 : decode cL_law 209 = .ok (.ireturn, 1) := by decide +kernel
theorem dL_law_210 : decode cL_law 210 = .ok (.aload_n 1, 1) := by decide +kernel
theorem dL_law_211 : decode cL_law 211 = .ok (.aload_n 0, 1) := by decide +kernel
theorem dL_law_212 : decode cL_law 212 = .ok (.iload_n 3, 1) := by decide +kernel
theorem dL_law_213 : decode cL_law 213 = .ok (.iconst 1, 1) := by decide +kernel
theorem dL_law_214 : decode cL_law 214 = .ok (.iadd, 1) := by decide +kernel
theorem dL_law_215 : decode cL_law 215 = .ok (.iaload, 1) := by decide +kernel
theorem dL_law_216 : decode cL_law 216 = .ok (.aload_n 0, 1) := by decide +kernel
theorem dL_law_217 : decode cL_law 217 = .ok (.iload_n 3, 1) := by decide +kernel
theorem dL_law_218 : decode cL_law 218 = .ok (.iconst 2, 1) := by decide +kernel
theorem dL_law_219 : decode cL_law 219 = .ok (.iadd, 1) := by decide +kernel
theorem dL_law_220 : decode cL_law 220 = .ok (.iaload, 1) := by decide +kernel
theorem dL_law_221 : decode cL_law 221 = .ok (.invokevirtual 31, 3) := by decide +kernel
theorem dL_law_224 : decode cL_law 224 = .ok (.aload_n 2, 1) := by decide +kernel
theorem dL_law_225 : decode cL_law 225 = .ok (.aload_n 0, 1) := by decide +kernel
theorem dL_law_226 : decode cL_law 226 = .ok (.iload_n 3, 1) := by decide +kernel
theorem dL_law_227 : decode cL_law 227 = .ok (.iconst 1, 1) := by decide +kernel
theorem dL_law_228 : decode cL_law 228 = .ok (.iadd, 1) := by decide +kernel
theorem dL_law_229 : decode cL_law 229 = .ok (.iaload, 1) := by decide +kernel
theorem dL_law_230 : decode cL_law 230 = .ok (.aload_n 0, 1) := by decide +kernel
theorem dL_law_231 : decode cL_law 231 = .ok (.iload_n 3, 1) := by decide +kernel
theorem dL_law_232 : decode cL_law 232 = .ok (.iconst 2, 1) := by decide +kernel
theorem dL_law_233 : decode cL_law 233 = .ok (.iadd, 1) := by decide +kernel
theorem dL_law_234 : decode cL_law 234 = .ok (.iaload, 1) := by decide +kernel
theorem dL_law_235 : decode cL_law 235 = .ok (.invokevirtual 35, 3) := by decide +kernel
theorem dL_law_238 : decode cL_law 238 = .ok (.if_icmp .eq 508, 3) := by decide +kernel
theorem dL_law_241 : decode cL_law 241 = .ok (.iconst 0, 1) := by decide +kernel
theorem dL_law_242 : decode cL_law 242 = .ok (.ireturn, 1) := by decide +kernel
theorem dL_law_243 : decode cL_law 243 = .ok (.aload_n 1, 1) := by decide +kernel
theorem dL_law_244 : decode cL_law 244 = .ok (.aload_n 0, 1) := by decide +kernel
theorem dL_law_245 : decode cL_law 245 = .ok (.iload_n 3, 1) := by decide +kernel
theorem dL_law_246 : decode cL_law 246 = .ok (.iconst 1, 1) := by decide +kernel
theorem dL_law_247 : decode cL_law 247 = .ok (.iadd, 1) := by decide +kernel
theorem dL_law_248 : decode cL_law 248 = .ok (.iaload, 1) := by decide +kernel
theorem dL_law_249 : decode cL_law 249 = .ok (.invokevirtual 36, 3) := by decide +kernel
theorem dL_law_252 : decode cL_law 252 = .ok (.aload_n 2, 1) := by decide +kernel
theorem dL_law_253 : decode cL_law 253 = .ok (.aload_n 0, 1) := by decide +kernel
theorem dL_law_254 : decode cL_law 254 = .ok (.iload_n 3, 1) := by decide +kernel
theorem dL_law_255 : decode cL_law 255 = .ok (.iconst 1, 1) := by decide +kernel
theorem dL_law_256 : decode cL_law 256 = .ok (.iadd, 1) := by decide +kernel
theorem dL_law_257 : decode cL_law 257 = .ok (.iaload, 1) := by decide +kernel
theorem dL_law_258 : decode cL_law 258 = .ok (.invokevirtual 39, 3) := by decide +kernel
theorem dL_law_261 : decode cL_law 261 = .ok (.if_icmp .eq 485, 3) := by decide +kernel
theorem dL_law_264 : decode cL_law 264 = .ok (.iconst 0, 1) := by decide +kernel
theorem dL_law_265 : decode cL_law 265 = .ok (.ireturn, 1) := by decide +kernel
theorem dL_law_266 : decode cL_law 266 = .ok (.aload_n 1, 1) := by decide +kernel
theorem dL_law_267 : decode cL_law 267 = .ok (.aload_n 0, 1) := by decide +kernel
theorem dL_law_268 : decode cL_law 268 = .ok (.iload_n 3, 1) := by decide +kernel
theorem dL_law_269 : decode cL_law 269 = .ok (.iconst 1, 1) := by decide +kernel
theorem dL_law_270 : decode cL_law 270 = .ok (.iadd, 1) := by decide +kernel
theorem dL_law_271 : decode cL_law 271 = .ok (.iaload, 1) := by decide +kernel
theorem dL_law_272 : decode cL_law 272 = .ok (.invokevirtual 40, 3) := by decide +kernel
theorem dL_law_275 : decode cL_law 275 = .ok (.aload_n 2, 1) := by decide +kernel
theorem dL_law_276 : decode cL_law 276 = .ok (.aload_n 0, 1) := by decide +kernel
theorem dL_law_277 : decode cL_law 277 = .ok (.iload_n 3, 1) := by decide +kernel
theorem dL_law_278 : decode cL_law 278 = .ok (.iconst 1, 1) := by decide +kernel
theorem dL_law_279 : decode cL_law 279 = .ok (.iadd, 1) := by decide +kernel
theorem dL_law_280 : decode cL_law 280 = .ok (.iaload, 1) := by decide +kernel
theorem dL_law_281 : decode cL_law 281 = .ok (.invokevirtual 43, 3) := by decide +kernel
theorem dL_law_284 : decode cL_law 284 = .ok (.if_icmp .eq 462, 3) := by decide +kernel
theorem dL_law_287 : decode cL_law 287 = .ok (.iconst 0, 1) := by decide +kernel
theorem dL_law_288 : decode cL_law 288 = .ok (.ireturn, 1) := by decide +kernel
theorem dL_law_289 : decode cL_law 289 = .ok (.aload_n 1, 1) := by decide +kernel
theorem dL_law_290 : decode cL_law 290 = .ok (.aload_n 0, 1) := by decide +kernel
theorem dL_law_291 : decode cL_law 291 = .ok (.iload_n 3, 1) := by decide +kernel
theorem dL_law_292 : decode cL_law 292 = .ok (.iconst 1, 1) := by decide +kernel
theorem dL_law_293 : decode cL_law 293 = .ok (.iadd, 1) := by decide +kernel
theorem dL_law_294 : decode cL_law 294 = .ok (.iaload, 1) := by decide +kernel
theorem dL_law_295 : decode cL_law 295 = .ok (.invokevirtual 44, 3) := by decide +kernel
theorem dL_law_298 : decode cL_law 298 = .ok (.aload_n 2, 1) := by decide +kernel
theorem dL_law_299 : decode cL_law 299 = .ok (.aload_n 0, 1) := by decide +kernel
theorem dL_law_300 : decode cL_law 300 = .ok (.iload_n 3, 1) := by decide +kernel
theorem dL_law_301 : decode cL_law 301 = .ok (.iconst 1, 1) := by decide +kernel
theorem dL_law_302 : decode cL_law 302 = .ok (.iadd, 1) := by decide +kernel
theorem dL_law_303 : decode cL_law 303 = .ok (.iaload, 1) := by decide +kernel
theorem dL_law_304 : decode cL_law 304 = .ok (.invokevirtual 47, 3) := by decide +kernel
theorem dL_law_307 : decode cL_law 307 = .ok (.if_icmp .eq 439, 3) := by decide +kernel
theorem dL_law_310 : decode cL_law 310 = .ok (.iconst 0, 1) := by decide +kernel
theorem dL_law_311 : decode cL_law 311 = .ok (.ireturn, 1) := by decide +kernel
theorem dL_law_312 : decode cL_law 312 = .ok (.aload_n 1, 1) := by decide +kernel
theorem dL_law_313 : decode cL_law 313 = .ok (.aload_n 0, 1) := by decide +kernel
theorem dL_law_314 : decode cL_law 314 = .ok (.iload_n 3, 1) := by decide +kernel
theorem dL_law_315 : decode cL_law 315 = .ok (.iconst 1, 1) := by decide +kernel
theorem dL_law_316 : decode cL_law 316 = .ok (.iadd, 1) := by decide +kernel
theorem dL_law_317 : decode cL_law 317 = .ok (.iaload, 1) := by decide +kernel
theorem dL_law_318 : decode cL_law 318 = .ok (.aload_n 0, 1) := by decide +kernel
theorem dL_law_319 : decode cL_law 319 = .ok (.iload_n 3, 1) := by decide +kernel
theorem dL_law_320 : decode cL_law 320 = .ok (.iconst 2, 1) := by decide +kernel
theorem dL_law_321 : decode cL_law 321 = .ok (.iadd, 1) := by decide +kernel
theorem dL_law_322 : decode cL_law 322 = .ok (.iaload, 1) := by decide +kernel
theorem dL_law_323 : decode cL_law 323 = .ok (.aload_n 0, 1) := by decide +kernel
theorem dL_law_324 : decode cL_law 324 = .ok (.iload_n 3, 1) := by decide +kernel
theorem dL_law_325 : decode cL_law 325 = .ok (.iconst 3, 1) := by decide +kernel
theorem dL_law_326 : decode cL_law 326 = .ok (.iadd, 1) := by decide +kernel
theorem dL_law_327 : decode cL_law 327 = .ok (.iaload, 1) := by decide +kernel
theorem dL_law_328 : decode cL_law 328 = .ok (.invokevirtual 48, 3) := by decide +kernel
theorem dL_law_331 : decode cL_law 331 = .ok (.aload_n 2, 1) := by decide +kernel
theorem dL_law_332 : decode cL_law 332 = .ok (.aload_n 0, 1) := by decide +kernel
theorem dL_law_333 : decode cL_law 333 = .ok (.iload_n 3, 1) := by decide +kernel
theorem dL_law_334 : decode cL_law 334 = .ok (.iconst 1, 1) := by decide +kernel
theorem dL_law_335 : decode cL_law 335 = .ok (.iadd, 1) := by decide +kernel
theorem dL_law_336 : decode cL_law 336 = .ok (.iaload, 1) := by decide +kernel
theorem dL_law_337 : decode cL_law 337 = .ok (.aload_n 0, 1) := by decide +kernel
theorem dL_law_338 : decode cL_law 338 = .ok (.iload_n 3, 1) := by decide +kernel
theorem dL_law_339 : decode cL_law 339 = .ok (.iconst 2, 1) := by decide +kernel
theorem dL_law_340 : decode cL_law 340 = .ok (.iadd, 1) := by decide +kernel
theorem dL_law_341 : decode cL_law 341 = .ok (.iaload, 1) := by decide +kernel
theorem dL_law_342 : decode cL_law 342 = .ok (.aload_n 0, 1) := by decide +kernel
theorem dL_law_343 : decode cL_law 343 = .ok (.iload_n 3, 1) := by decide +kernel
theorem dL_law_344 : decode cL_law 344 = .ok (.iconst 3, 1) := by decide +kernel
theorem dL_law_345 : decode cL_law 345 = .ok (.iadd, 1) := by decide +kernel
theorem dL_law_346 : decode cL_law 346 = .ok (.iaload, 1) := by decide +kernel
theorem dL_law_347 : decode cL_law 347 = .ok (.invokevirtual 52, 3) := by decide +kernel
theorem dL_law_350 : decode cL_law 350 = .ok (.if_icmp .eq 396, 3) := by decide +kernel
theorem dL_law_353 : decode cL_law 353 = .ok (.iconst 0, 1) := by decide +kernel
theorem dL_law_354 : decode cL_law 354 = .ok (.ireturn, 1) := by decide +kernel
theorem dL_law_355 : decode cL_law 355 = .ok (.aload_n 1, 1) := by decide +kernel
theorem dL_law_356 : decode cL_law 356 = .ok (.aload_n 0, 1) := by decide +kernel
theorem dL_law_357 : decode cL_law 357 = .ok (.iload_n 3, 1) := by decide +kernel
theorem dL_law_358 : decode cL_law 358 = .ok (.iconst 1, 1) := by decide +kernel
theorem dL_law_359 : decode cL_law 359 = .ok (.iadd, 1) := by decide +kernel
theorem dL_law_360 : decode cL_law 360 = .ok (.iaload, 1) := by decide +kernel
theorem dL_law_361 : decode cL_law 361 = .ok (.aload_n 0, 1) := by decide +kernel
theorem dL_law_362 : decode cL_law 362 = .ok (.iload_n 3, 1) := by decide +kernel
theorem dL_law_363 : decode cL_law 363 = .ok (.iconst 2, 1) := by decide +kernel
theorem dL_law_364 : decode cL_law 364 = .ok (.iadd, 1) := by decide +kernel
theorem dL_law_365 : decode cL_law 365 = .ok (.iaload, 1) := by decide +kernel
theorem dL_law_366 : decode cL_law 366 = .ok (.invokevirtual 53, 3) := by decide +kernel
theorem dL_law_369 : decode cL_law 369 = .ok (.aload_n 2, 1) := by decide +kernel
theorem dL_law_370 : decode cL_law 370 = .ok (.aload_n 0, 1) := by decide +kernel
theorem dL_law_371 : decode cL_law 371 = .ok (.iload_n 3, 1) := by decide +kernel
theorem dL_law_372 : decode cL_law 372 = .ok (.iconst 1, 1) := by decide +kernel
theorem dL_law_373 : decode cL_law 373 = .ok (.iadd, 1) := by decide +kernel
theorem dL_law_374 : decode cL_law 374 = .ok (.iaload, 1) := by decide +kernel
theorem dL_law_375 : decode cL_law 375 = .ok (.aload_n 0, 1) := by decide +kernel
theorem dL_law_376 : decode cL_law 376 = .ok (.iload_n 3, 1) := by decide +kernel
theorem dL_law_377 : decode cL_law 377 = .ok (.iconst 2, 1) := by decide +kernel
theorem dL_law_378 : decode cL_law 378 = .ok (.iadd, 1) := by decide +kernel
theorem dL_law_379 : decode cL_law 379 = .ok (.iaload, 1) := by decide +kernel
theorem dL_law_380 : decode cL_law 380 = .ok (.invokevirtual 56, 3) := by decide +kernel
theorem dL_law_383 : decode cL_law 383 = .ok (.if_icmp .eq 363, 3) := by decide +kernel
theorem dL_law_386 : decode cL_law 386 = .ok (.iconst 0, 1) := by decide +kernel
theorem dL_law_387 : decode cL_law 387 = .ok (.ireturn, 1) := by decide +kernel
theorem dL_law_388 : decode cL_law 388 = .ok (.aload_n 1, 1) := by decide +kernel
theorem dL_law_389 : decode cL_law 389 = .ok (.aload_n 0, 1) := by decide +kernel
theorem dL_law_390 : decode cL_law 390 = .ok (.iload_n 3, 1) := by decide +kernel
theorem dL_law_391 : decode cL_law 391 = .ok (.iconst 1, 1) := by decide +kernel
theorem dL_law_392 : decode cL_law 392 = .ok (.iadd, 1) := by decide +kernel
theorem dL_law_393 : decode cL_law 393 = .ok (.iaload, 1) := by decide +kernel
theorem dL_law_394 : decode cL_law 394 = .ok (.aload_n 0, 1) := by decide +kernel
theorem dL_law_395 : decode cL_law 395 = .ok (.iload_n 3, 1) := by decide +kernel
theorem dL_law_396 : decode cL_law 396 = .ok (.iconst 2, 1) := by decide +kernel
theorem dL_law_397 : decode cL_law 397 = .ok (.iadd, 1) := by decide +kernel
theorem dL_law_398 : decode cL_law 398 = .ok (.iaload, 1) := by decide +kernel
theorem dL_law_399 : decode cL_law 399 = .ok (.invokevirtual 57, 3) := by decide +kernel
theorem dL_law_402 : decode cL_law 402 = .ok (.aload_n 2, 1) := by decide +kernel
theorem dL_law_403 : decode cL_law 403 = .ok (.aload_n 0, 1) := by decide +kernel
theorem dL_law_404 : decode cL_law 404 = .ok (.iload_n 3, 1) := by decide +kernel
theorem dL_law_405 : decode cL_law 405 = .ok (.iconst 1, 1) := by decide +kernel
theorem dL_law_406 : decode cL_law 406 = .ok (.iadd, 1) := by decide +kernel
theorem dL_law_407 : decode cL_law 407 = .ok (.iaload, 1) := by decide +kernel
theorem dL_law_408 : decode cL_law 408 = .ok (.aload_n 0, 1) := by decide +kernel
theorem dL_law_409 : decode cL_law 409 = .ok (.iload_n 3, 1) := by decide +kernel
theorem dL_law_410 : decode cL_law 410 = .ok (.iconst 2, 1) := by decide +kernel
theorem dL_law_411 : decode cL_law 411 = .ok (.iadd, 1) := by decide +kernel
theorem dL_law_412 : decode cL_law 412 = .ok (.iaload, 1) := by decide +kernel
theorem dL_law_413 : decode cL_law 413 = .ok (.invokevirtual 60, 3) := by decide +kernel
theorem dL_law_416 : decode cL_law 416 = .ok (.if_icmp .eq 330, 3) := by decide +kernel
theorem dL_law_419 : decode cL_law 419 = .ok (.iconst 0, 1) := by decide +kernel
theorem dL_law_420 : decode cL_law 420 = .ok (.ireturn, 1) := by decide +kernel
theorem dL_law_421 : decode cL_law 421 = .ok (.aload_n 1, 1) := by decide +kernel
theorem dL_law_422 : decode cL_law 422 = .ok (.aload_n 0, 1) := by decide +kernel
theorem dL_law_423 : decode cL_law 423 = .ok (.iload_n 3, 1) := by decide +kernel
theorem dL_law_424 : decode cL_law 424 = .ok (.iconst 1, 1) := by decide +kernel
theorem dL_law_425 : decode cL_law 425 = .ok (.iadd, 1) := by decide +kernel
theorem dL_law_426 : decode cL_law 426 = .ok (.iaload, 1) := by decide +kernel
theorem dL_law_427 : decode cL_law 427 = .ok (.aload_n 0, 1) := by decide +kernel
theorem dL_law_428 : decode cL_law 428 = .ok (.iload_n 3, 1) := by decide +kernel
theorem dL_law_429 : decode cL_law 429 = .ok (.iconst 2, 1) := by decide +kernel
theorem dL_law_430 : decode cL_law 430 = .ok (.iadd, 1) := by decide +kernel
theorem dL_law_431 : decode cL_law 431 = .ok (.iaload, 1) := by decide +kernel
theorem dL_law_432 : decode cL_law 432 = .ok (.aload_n 0, 1) := by decide +kernel
theorem dL_law_433 : decode cL_law 433 = .ok (.iload_n 3, 1) := by decide +kernel
theorem dL_law_434 : decode cL_law 434 = .ok (.iconst 3, 1) := by decide +kernel
theorem dL_law_435 : decode cL_law 435 = .ok (.iadd, 1) := by decide +kernel
theorem dL_law_436 : decode cL_law 436 = .ok (.iaload, 1) := by decide +kernel
theorem dL_law_437 : decode cL_law 437 = .ok (.invokevirtual 61, 3) := by decide +kernel
theorem dL_law_440 : decode cL_law 440 = .ok (.aload_n 2, 1) := by decide +kernel
theorem dL_law_441 : decode cL_law 441 = .ok (.aload_n 0, 1) := by decide +kernel
theorem dL_law_442 : decode cL_law 442 = .ok (.iload_n 3, 1) := by decide +kernel
theorem dL_law_443 : decode cL_law 443 = .ok (.iconst 1, 1) := by decide +kernel
theorem dL_law_444 : decode cL_law 444 = .ok (.iadd, 1) := by decide +kernel
theorem dL_law_445 : decode cL_law 445 = .ok (.iaload, 1) := by decide +kernel
theorem dL_law_446 : decode cL_law 446 = .ok (.aload_n 0, 1) := by decide +kernel
theorem dL_law_447 : decode cL_law 447 = .ok (.iload_n 3, 1) := by decide +kernel
theorem dL_law_448 : decode cL_law 448 = .ok (.iconst 2, 1) := by decide +kernel
theorem dL_law_449 : decode cL_law 449 = .ok (.iadd, 1) := by decide +kernel
theorem dL_law_450 : decode cL_law 450 = .ok (.iaload, 1) := by decide +kernel
theorem dL_law_451 : decode cL_law 451 = .ok (.aload_n 0, 1) := by decide +kernel
theorem dL_law_452 : decode cL_law 452 = .ok (.iload_n 3, 1) := by decide +kernel
theorem dL_law_453 : decode cL_law 453 = .ok (.iconst 3, 1) := by decide +kernel
theorem dL_law_454 : decode cL_law 454 = .ok (.iadd, 1) := by decide +kernel
theorem dL_law_455 : decode cL_law 455 = .ok (.iaload, 1) := by decide +kernel
theorem dL_law_456 : decode cL_law 456 = .ok (.invokevirtual 65, 3) := by decide +kernel
theorem dL_law_459 : decode cL_law 459 = .ok (.lcmp, 1) := by decide +kernel
theorem dL_law_460 : decode cL_law 460 = .ok (.ifCond .eq 286, 3) := by decide +kernel
theorem dL_law_463 : decode cL_law 463 = .ok (.iconst 0, 1) := by decide +kernel
theorem dL_law_464 : decode cL_law 464 = .ok (.ireturn, 1) := by decide +kernel
theorem dL_law_465 : decode cL_law 465 = .ok (.aload_n 1, 1) := by decide +kernel
theorem dL_law_466 : decode cL_law 466 = .ok (.invokevirtual 66, 3) := by decide +kernel
theorem dL_law_469 : decode cL_law 469 = .ok (.aload_n 2, 1) := by decide +kernel
theorem dL_law_470 : decode cL_law 470 = .ok (.invokevirtual 69, 3) := by decide +kernel
theorem dL_law_473 : decode cL_law 473 = .ok (.if_icmp .eq 273, 3) := by decide +kernel
theorem dL_law_476 : decode cL_law 476 = .ok (.iconst 0, 1) := by decide +kernel
theorem dL_law_477 : decode cL_law 477 = .ok (.ireturn, 1) := by decide +kernel
theorem dL_law_478 : decode cL_law 478 = .ok (.aload_n 1, 1) := by decide +kernel
theorem dL_law_479 : decode cL_law 479 = .ok (.invokevirtual 70, 3) := by decide +kernel
theorem dL_law_482 : decode cL_law 482 = .ok (.aload_n 2, 1) := by decide +kernel
theorem dL_law_483 : decode cL_law 483 = .ok (.invokevirtual 73, 3) := by decide +kernel
theorem dL_law_486 : decode cL_law 486 = .ok (.if_icmp .eq 260, 3) := by decide +kernel
theorem dL_law_489 : decode cL_law 489 = .ok (.iconst 0, 1) := by decide +kernel
theorem dL_law_490 : decode cL_law 490 = .ok (.ireturn, 1) := by decide +kernel
theorem dL_law_491 : decode cL_law 491 = .ok (.aload_n 1, 1) := by decide +kernel
theorem dL_law_492 : decode cL_law 492 = .ok (.aload_n 0, 1) := by decide +kernel
theorem dL_law_493 : decode cL_law 493 = .ok (.iload_n 3, 1) := by decide +kernel
theorem dL_law_494 : decode cL_law 494 = .ok (.iconst 1, 1) := by decide +kernel
theorem dL_law_495 : decode cL_law 495 = .ok (.iadd, 1) := by decide +kernel
theorem dL_law_496 : decode cL_law 496 = .ok (.iaload, 1) := by decide +kernel
theorem dL_law_497 : decode cL_law 497 = .ok (.invokevirtual 74, 3) := by decide +kernel
theorem dL_law_500 : decode cL_law 500 = .ok (.aload_n 2, 1) := by decide +kernel
theorem dL_law_501 : decode cL_law 501 = .ok (.aload_n 0, 1) := by decide +kernel
theorem dL_law_502 : decode cL_law 502 = .ok (.iload_n 3, 1) := by decide +kernel
theorem dL_law_503 : decode cL_law 503 = .ok (.iconst 1, 1) := by decide +kernel
theorem dL_law_504 : decode cL_law 504 = .ok (.iadd, 1) := by decide +kernel
theorem dL_law_505 : decode cL_law 505 = .ok (.iaload, 1) := by decide +kernel
theorem dL_law_506 : decode cL_law 506 = .ok (.invokevirtual 77, 3) := by decide +kernel
theorem dL_law_509 : decode cL_law 509 = .ok (.if_icmp .eq 237, 3) := by decide +kernel
theorem dL_law_512 : decode cL_law 512 = .ok (.iconst 0, 1) := by decide +kernel
theorem dL_law_513 : decode cL_law 513 = .ok (.ireturn, 1) := by decide +kernel
theorem dL_law_514 : decode cL_law 514 = .ok (.aload_n 1, 1) := by decide +kernel
theorem dL_law_515 : decode cL_law 515 = .ok (.aload_n 0, 1) := by decide +kernel
theorem dL_law_516 : decode cL_law 516 = .ok (.iload_n 3, 1) := by decide +kernel
theorem dL_law_517 : decode cL_law 517 = .ok (.iconst 1, 1) := by decide +kernel
theorem dL_law_518 : decode cL_law 518 = .ok (.iadd, 1) := by decide +kernel
theorem dL_law_519 : decode cL_law 519 = .ok (.iaload, 1) := by decide +kernel
theorem dL_law_520 : decode cL_law 520 = .ok (.aload_n 0, 1) := by decide +kernel
theorem dL_law_521 : decode cL_law 521 = .ok (.iload_n 3, 1) := by decide +kernel
theorem dL_law_522 : decode cL_law 522 = .ok (.iconst 2, 1) := by decide +kernel
theorem dL_law_523 : decode cL_law 523 = .ok (.iadd, 1) := by decide +kernel
theorem dL_law_524 : decode cL_law 524 = .ok (.iaload, 1) := by decide +kernel
theorem dL_law_525 : decode cL_law 525 = .ok (.aload_n 0, 1) := by decide +kernel
theorem dL_law_526 : decode cL_law 526 = .ok (.iload_n 3, 1) := by decide +kernel
theorem dL_law_527 : decode cL_law 527 = .ok (.iconst 3, 1) := by decide +kernel
theorem dL_law_528 : decode cL_law 528 = .ok (.iadd, 1) := by decide +kernel
theorem dL_law_529 : decode cL_law 529 = .ok (.iaload, 1) := by decide +kernel
theorem dL_law_530 : decode cL_law 530 = .ok (.invokevirtual 78, 3) := by decide +kernel
theorem dL_law_533 : decode cL_law 533 = .ok (.aload_n 2, 1) := by decide +kernel
theorem dL_law_534 : decode cL_law 534 = .ok (.aload_n 0, 1) := by decide +kernel
theorem dL_law_535 : decode cL_law 535 = .ok (.iload_n 3, 1) := by decide +kernel
theorem dL_law_536 : decode cL_law 536 = .ok (.iconst 1, 1) := by decide +kernel
theorem dL_law_537 : decode cL_law 537 = .ok (.iadd, 1) := by decide +kernel
theorem dL_law_538 : decode cL_law 538 = .ok (.iaload, 1) := by decide +kernel
theorem dL_law_539 : decode cL_law 539 = .ok (.aload_n 0, 1) := by decide +kernel
theorem dL_law_540 : decode cL_law 540 = .ok (.iload_n 3, 1) := by decide +kernel
theorem dL_law_541 : decode cL_law 541 = .ok (.iconst 2, 1) := by decide +kernel
theorem dL_law_542 : decode cL_law 542 = .ok (.iadd, 1) := by decide +kernel
theorem dL_law_543 : decode cL_law 543 = .ok (.iaload, 1) := by decide +kernel
theorem dL_law_544 : decode cL_law 544 = .ok (.aload_n 0, 1) := by decide +kernel
theorem dL_law_545 : decode cL_law 545 = .ok (.iload_n 3, 1) := by decide +kernel
theorem dL_law_546 : decode cL_law 546 = .ok (.iconst 3, 1) := by decide +kernel
theorem dL_law_547 : decode cL_law 547 = .ok (.iadd, 1) := by decide +kernel
theorem dL_law_548 : decode cL_law 548 = .ok (.iaload, 1) := by decide +kernel
theorem dL_law_549 : decode cL_law 549 = .ok (.invokevirtual 81, 3) := by decide +kernel
theorem dL_law_552 : decode cL_law 552 = .ok (.lcmp, 1) := by decide +kernel
theorem dL_law_553 : decode cL_law 553 = .ok (.ifCond .eq 193, 3) := by decide +kernel
theorem dL_law_556 : decode cL_law 556 = .ok (.iconst 0, 1) := by decide +kernel
theorem dL_law_557 : decode cL_law 557 = .ok (.ireturn, 1) := by decide +kernel
theorem dL_law_558 : decode cL_law 558 = .ok (.aload_n 1, 1) := by decide +kernel
theorem dL_law_559 : decode cL_law 559 = .ok (.aload_n 0, 1) := by decide +kernel
theorem dL_law_560 : decode cL_law 560 = .ok (.iload_n 3, 1) := by decide +kernel
theorem dL_law_561 : decode cL_law 561 = .ok (.iconst 1, 1) := by decide +kernel
theorem dL_law_562 : decode cL_law 562 = .ok (.iadd, 1) := by decide +kernel
theorem dL_law_563 : decode cL_law 563 = .ok (.iaload, 1) := by decide +kernel
theorem dL_law_564 : decode cL_law 564 = .ok (.aload_n 0, 1) := by decide +kernel
theorem dL_law_565 : decode cL_law 565 = .ok (.iload_n 3, 1) := by decide +kernel
theorem dL_law_566 : decode cL_law 566 = .ok (.iconst 2, 1) := by decide +kernel
theorem dL_law_567 : decode cL_law 567 = .ok (.iadd, 1) := by decide +kernel
theorem dL_law_568 : decode cL_law 568 = .ok (.iaload, 1) := by decide +kernel
theorem dL_law_569 : decode cL_law 569 = .ok (.invokevirtual 82, 3) := by decide +kernel
theorem dL_law_572 : decode cL_law 572 = .ok (.aload_n 2, 1) := by decide +kernel
theorem dL_law_573 : decode cL_law 573 = .ok (.aload_n 0, 1) := by decide +kernel
theorem dL_law_574 : decode cL_law 574 = .ok (.iload_n 3, 1) := by decide +kernel
theorem dL_law_575 : decode cL_law 575 = .ok (.iconst 1, 1) := by decide +kernel
theorem dL_law_576 : decode cL_law 576 = .ok (.iadd, 1) := by decide +kernel
theorem dL_law_577 : decode cL_law 577 = .ok (.iaload, 1) := by decide +kernel
theorem dL_law_578 : decode cL_law 578 = .ok (.aload_n 0, 1) := by decide +kernel
theorem dL_law_579 : decode cL_law 579 = .ok (.iload_n 3, 1) := by decide +kernel
theorem dL_law_580 : decode cL_law 580 = .ok (.iconst 2, 1) := by decide +kernel
theorem dL_law_581 : decode cL_law 581 = .ok (.iadd, 1) := by decide +kernel
theorem dL_law_582 : decode cL_law 582 = .ok (.iaload, 1) := by decide +kernel
theorem dL_law_583 : decode cL_law 583 = .ok (.invokevirtual 85, 3) := by decide +kernel
theorem dL_law_586 : decode cL_law 586 = .ok (.if_icmp .eq 160, 3) := by decide +kernel
theorem dL_law_589 : decode cL_law 589 = .ok (.iconst 0, 1) := by decide +kernel
theorem dL_law_590 : decode cL_law 590 = .ok (.ireturn, 1) := by decide +kernel
theorem dL_law_591 : decode cL_law 591 = .ok (.aload_n 1, 1) := by decide +kernel
theorem dL_law_592 : decode cL_law 592 = .ok (.invokevirtual 86, 3) := by decide +kernel
theorem dL_law_595 : decode cL_law 595 = .ok (.aload_n 2, 1) := by decide +kernel
theorem dL_law_596 : decode cL_law 596 = .ok (.invokevirtual 89, 3) := by decide +kernel
theorem dL_law_599 : decode cL_law 599 = .ok (.if_icmp .eq 147, 3) := by decide +kernel
theorem dL_law_602 : decode cL_law 602 = .ok (.iconst 0, 1) := by decide +kernel
theorem dL_law_603 : decode cL_law 603 = .ok (.ireturn, 1) := by decide +kernel
theorem dL_law_604 : decode cL_law 604 = .ok (.aload_n 1, 1) := by decide +kernel
theorem dL_law_605 : decode cL_law 605 = .ok (.aload_n 0, 1) := by decide +kernel
theorem dL_law_606 : decode cL_law 606 = .ok (.iload_n 3, 1) := by decide +kernel
theorem dL_law_607 : decode cL_law 607 = .ok (.iconst 1, 1) := by decide +kernel
theorem dL_law_608 : decode cL_law 608 = .ok (.iadd, 1) := by decide +kernel
theorem dL_law_609 : decode cL_law 609 = .ok (.iaload, 1) := by decide +kernel
theorem dL_law_610 : decode cL_law 610 = .ok (.invokevirtual 90, 3) := by decide +kernel
theorem dL_law_613 : decode cL_law 613 = .ok (.aload_n 2, 1) := by decide +kernel
theorem dL_law_614 : decode cL_law 614 = .ok (.aload_n 0, 1) := by decide +kernel
theorem dL_law_615 : decode cL_law 615 = .ok (.iload_n 3, 1) := by decide +kernel
theorem dL_law_616 : decode cL_law 616 = .ok (.iconst 1, 1) := by decide +kernel
theorem dL_law_617 : decode cL_law 617 = .ok (.iadd, 1) := by decide +kernel
theorem dL_law_618 : decode cL_law 618 = .ok (.iaload, 1) := by decide +kernel
theorem dL_law_619 : decode cL_law 619 = .ok (.invokevirtual 93, 3) := by decide +kernel
theorem dL_law_622 : decode cL_law 622 = .ok (.if_icmp .eq 124, 3) := by decide +kernel
theorem dL_law_625 : decode cL_law 625 = .ok (.iconst 0, 1) := by decide +kernel
theorem dL_law_626 : decode cL_law 626 = .ok (.ireturn, 1) := by decide +kernel
theorem dL_law_627 : decode cL_law 627 = .ok (.aload_n 1, 1) := by decide +kernel
theorem dL_law_628 : decode cL_law 628 = .ok (.invokevirtual 94, 3) := by decide +kernel
theorem dL_law_631 : decode cL_law 631 = .ok (.aload_n 2, 1) := by decide +kernel
theorem dL_law_632 : decode cL_law 632 = .ok (.invokevirtual 97, 3) := by decide +kernel
theorem dL_law_635 : decode cL_law 635 = .ok (.if_icmp .eq 111, 3) := by decide +kernel
theorem dL_law_638 : decode cL_law 638 = .ok (.iconst 0, 1) := by decide +kernel
theorem dL_law_639 : decode cL_law 639 = .ok (.ireturn, 1) := by decide +kernel
theorem dL_law_640 : decode cL_law 640 = .ok (.aload_n 1, 1) := by decide +kernel
theorem dL_law_641 : decode cL_law 641 = .ok (.aload_n 0, 1) := by decide +kernel
theorem dL_law_642 : decode cL_law 642 = .ok (.iload_n 3, 1) := by decide +kernel
theorem dL_law_643 : decode cL_law 643 = .ok (.iconst 1, 1) := by decide +kernel
theorem dL_law_644 : decode cL_law 644 = .ok (.iadd, 1) := by decide +kernel
theorem dL_law_645 : decode cL_law 645 = .ok (.iaload, 1) := by decide +kernel
theorem dL_law_646 : decode cL_law 646 = .ok (.aload_n 0, 1) := by decide +kernel
theorem dL_law_647 : decode cL_law 647 = .ok (.iload_n 3, 1) := by decide +kernel
theorem dL_law_648 : decode cL_law 648 = .ok (.iconst 2, 1) := by decide +kernel
theorem dL_law_649 : decode cL_law 649 = .ok (.iadd, 1) := by decide +kernel
theorem dL_law_650 : decode cL_law 650 = .ok (.iaload, 1) := by decide +kernel
theorem dL_law_651 : decode cL_law 651 = .ok (.aload_n 0, 1) := by decide +kernel
theorem dL_law_652 : decode cL_law 652 = .ok (.iload_n 3, 1) := by decide +kernel
theorem dL_law_653 : decode cL_law 653 = .ok (.iconst 3, 1) := by decide +kernel
theorem dL_law_654 : decode cL_law 654 = .ok (.iadd, 1) := by decide +kernel
theorem dL_law_655 : decode cL_law 655 = .ok (.iaload, 1) := by decide +kernel
theorem dL_law_656 : decode cL_law 656 = .ok (.invokevirtual 98, 3) := by decide +kernel
theorem dL_law_659 : decode cL_law 659 = .ok (.aload_n 2, 1) := by decide +kernel
theorem dL_law_660 : decode cL_law 660 = .ok (.aload_n 0, 1) := by decide +kernel
theorem dL_law_661 : decode cL_law 661 = .ok (.iload_n 3, 1) := by decide +kernel
theorem dL_law_662 : decode cL_law 662 = .ok (.iconst 1, 1) := by decide +kernel
theorem dL_law_663 : decode cL_law 663 = .ok (.iadd, 1) := by decide +kernel
theorem dL_law_664 : decode cL_law 664 = .ok (.iaload, 1) := by decide +kernel
theorem dL_law_665 : decode cL_law 665 = .ok (.aload_n 0, 1) := by decide +kernel
theorem dL_law_666 : decode cL_law 666 = .ok (.iload_n 3, 1) := by decide +kernel
theorem dL_law_667 : decode cL_law 667 = .ok (.iconst 2, 1) := by decide +kernel
theorem dL_law_668 : decode cL_law 668 = .ok (.iadd, 1) := by decide +kernel
theorem dL_law_669 : decode cL_law 669 = .ok (.iaload, 1) := by decide +kernel
theorem dL_law_670 : decode cL_law 670 = .ok (.aload_n 0, 1) := by decide +kernel
theorem dL_law_671 : decode cL_law 671 = .ok (.iload_n 3, 1) := by decide +kernel
theorem dL_law_672 : decode cL_law 672 = .ok (.iconst 3, 1) := by decide +kernel
theorem dL_law_673 : decode cL_law 673 = .ok (.iadd, 1) := by decide +kernel
theorem dL_law_674 : decode cL_law 674 = .ok (.iaload, 1) := by decide +kernel
theorem dL_law_675 : decode cL_law 675 = .ok (.invokevirtual 101, 3) := by decide +kernel
theorem dL_law_678 : decode cL_law 678 = .ok (.if_icmp .eq 68, 3) := by decide +kernel
theorem dL_law_681 : decode cL_law 681 = .ok (.iconst 0, 1) := by decide +kernel
theorem dL_law_682 : decode cL_law 682 = .ok (.ireturn, 1) := by decide +kernel
theorem dL_law_683 : decode cL_law 683 = .ok (.aload_n 1, 1) := by decide +kernel
theorem dL_law_684 : decode cL_law 684 = .ok (.invokevirtual 102, 3) := by decide +kernel
theorem dL_law_687 : decode cL_law 687 = .ok (.aload_n 2, 1) := by decide +kernel
theorem dL_law_688 : decode cL_law 688 = .ok (.invokevirtual 105, 3) := by decide +kernel
theorem dL_law_691 : decode cL_law 691 = .ok (.if_icmp .eq 55, 3) := by decide +kernel
theorem dL_law_694 : decode cL_law 694 = .ok (.iconst 0, 1) := by decide +kernel
theorem dL_law_695 : decode cL_law 695 = .ok (.ireturn, 1) := by decide +kernel
theorem dL_law_696 : decode cL_law 696 = .ok (.aload_n 1, 1) := by decide +kernel
theorem dL_law_697 : decode cL_law 697 = .ok (.invokevirtual 106, 3) := by decide +kernel
theorem dL_law_700 : decode cL_law 700 = .ok (.aload_n 2, 1) := by decide +kernel
theorem dL_law_701 : decode cL_law 701 = .ok (.invokevirtual 109, 3) := by decide +kernel
theorem dL_law_704 : decode cL_law 704 = .ok (.if_icmp .eq 42, 3) := by decide +kernel
theorem dL_law_707 : decode cL_law 707 = .ok (.iconst 0, 1) := by decide +kernel
theorem dL_law_708 : decode cL_law 708 = .ok (.ireturn, 1) := by decide +kernel
theorem dL_law_709 : decode cL_law 709 = .ok (.aload_n 1, 1) := by decide +kernel
theorem dL_law_710 : decode cL_law 710 = .ok (.aload_n 0, 1) := by decide +kernel
theorem dL_law_711 : decode cL_law 711 = .ok (.iload_n 3, 1) := by decide +kernel
theorem dL_law_712 : decode cL_law 712 = .ok (.iconst 1, 1) := by decide +kernel
theorem dL_law_713 : decode cL_law 713 = .ok (.iadd, 1) := by decide +kernel
theorem dL_law_714 : decode cL_law 714 = .ok (.iaload, 1) := by decide +kernel
theorem dL_law_715 : decode cL_law 715 = .ok (.invokevirtual 110, 3) := by decide +kernel
theorem dL_law_718 : decode cL_law 718 = .ok (.aload_n 2, 1) := by decide +kernel
theorem dL_law_719 : decode cL_law 719 = .ok (.aload_n 0, 1) := by decide +kernel
theorem dL_law_720 : decode cL_law 720 = .ok (.iload_n 3, 1) := by decide +kernel
theorem dL_law_721 : decode cL_law 721 = .ok (.iconst 1, 1) := by decide +kernel
theorem dL_law_722 : decode cL_law 722 = .ok (.iadd, 1) := by decide +kernel
theorem dL_law_723 : decode cL_law 723 = .ok (.iaload, 1) := by decide +kernel
theorem dL_law_724 : decode cL_law 724 = .ok (.invokevirtual 113, 3) := by decide +kernel
theorem dL_law_727 : decode cL_law 727 = .ok (.if_icmp .eq 19, 3) := by decide +kernel
theorem dL_law_730 : decode cL_law 730 = .ok (.iconst 0, 1) := by decide +kernel
theorem dL_law_731 : decode cL_law 731 = .ok (.ireturn, 1) := by decide +kernel
theorem dL_law_732 : decode cL_law 732 = .ok (.aload_n 1, 1) := by decide +kernel
theorem dL_law_733 : decode cL_law 733 = .ok (.invokevirtual 114, 3) := by decide +kernel
theorem dL_law_736 : decode cL_law 736 = .ok (.aload_n 2, 1) := by decide +kernel
theorem dL_law_737 : decode cL_law 737 = .ok (.invokevirtual 118, 3) := by decide +kernel
theorem dL_law_740 : decode cL_law 740 = .ok (.lcmp, 1) := by decide +kernel
theorem dL_law_741 : decode cL_law 741 = .ok (.ifCond .eq 5, 3) := by decide +kernel
theorem dL_law_744 : decode cL_law 744 = .ok (.iconst 0, 1) := by decide +kernel
theorem dL_law_745 : decode cL_law 745 = .ok (.ireturn, 1) := by decide +kernel
theorem dL_law_746 : decode cL_law 746 = .ok (.iinc 3 4, 3) := by decide +kernel
theorem dL_law_749 : decode cL_law 749 = .ok (.goto (-731), 3) := by decide +kernel
theorem dL_law_752 : decode cL_law 752 = .ok (.iconst 1, 1) := by decide +kernel
theorem dL_law_753 : decode cL_law 753 = .ok (.ireturn, 1) := by decide +kernel
end
section
/-! The heaplet level: a heaplet h says of some addresses what stands there; qP: the heap holds it; qG: from any heap that holds h, at pc with these locals and this stack, the machine comes to Q. -/
abbrev qH : Type := Nat → Option va_E
def AW : List Cond := lw_tbl.filter goodWord
theorem AW_m {w : Cond} (i : Nat) (h : lw_tbl[i]? = some w) (hg : goodWord w = true) : w ∈ AW := List.mem_filter.mpr ⟨List.mem_of_getElem? h, hg⟩
def wm (y : MethodName) (c : ByteArray) (n : Nat) (r : Option FieldType) : List Cond := .code y c n r :: AW
def qA (b : Nat) : Nat → Prop := fun q => b ≤ q
def qP (D : va_G) (b : Nat) (h : qH) (z : Nat) (H : Heap) : Prop := H.size = z ∧ b ≤ z ∧ ∀ a e, h a = some e → b ≤ a ∧ va_at D vwCl (a, e) H
abbrev cI (D : va_G) (n : Nat) (f : Nat → Int32) : va_E := .inl (D.1 20, n, .inl f)
abbrev cJ (D : va_G) (n : Nat) (f : Nat → Int64) : va_E := .inl (D.1 21, n, .inr (.inl f))
abbrev cB (D : va_G) (n : Nat) (f : Nat → Int32) : va_E := .inl (D.1 22, n, .inl f)
abbrev cQ (D : va_G) (n : Nat) (f : Nat → Option Nat) : va_E := .inl (D.1 23, n, .inr (.inr (.inr (.inr f))))
abbrev cII (D : va_G) (n : Nat) (f : Nat → Option Nat) : va_E := .inl (D.1 24, n, .inr (.inr (.inr (.inr f))))
abbrev cJJ (D : va_G) (n : Nat) (f : Nat → Option Nat) : va_E := .inl (D.1 25, n, .inr (.inr (.inr (.inr f))))
def qT (D : va_G) : List (ClassId × FieldType) := [(D.1 20, .int), (D.1 21, .long), (D.1 22, .byte), (D.1 23, .object "EarlyGauge$Keeper"), (D.1 24, .array .int), (D.1 25, .array .long)]
def qNF : List (String × Nat × String × String × String × String) := [("EarlyGauge", 134, "EarlyGauge$Outlook", "dayNumber", "I", "EarlyGauge"), ("EarlyGauge", 209, "EarlyGauge$Outlook", "weather", "I", "EarlyGauge"), ("EarlyGauge", 223, "EarlyGauge$Trial", "wet", "I", "EarlyGauge"), ("EarlyGauge", 226, "EarlyGauge$Trial", "paid", "I", "EarlyGauge"), ("EarlyGauge", 227, "EarlyGauge$Trial", "slipped", "I", "EarlyGauge"), ("EarlyGauge", 230, "EarlyGauge$Trial", "seed", "J", "EarlyGauge"), ("EarlyGauge", 234, "EarlyGauge$Image", "coming", "LEarlyGauge$Outlook;", "EarlyGauge"), ("EarlyGauge", 239, "EarlyGauge$Image", "book", "LEarlyGauge$Book;", "EarlyGauge"), ("EarlyGauge", 246, "EarlyGauge$Image", "people", "I", "EarlyGauge"), ("EarlyGauge", 248, "EarlyGauge$Image", "paid", "[I", "EarlyGauge"), ("EarlyGauge", 251, "EarlyGauge$Station", "slip", "I", "EarlyGauge"), ("EarlyGauge", 67, "EarlyGauge$Page", "letters", "I", "EarlyGauge"), ("EarlyGauge", 87, "EarlyGauge$Book", "days", "I", "EarlyGauge"), ("EarlyGauge", 90, "EarlyGauge$Image", "kept", "Z", "EarlyGauge"), ("EarlyGauge", 97, "EarlyGauge$Station", "early", "I", "EarlyGauge"), ("EarlyGauge$Outlook", 45, "EarlyGauge$Station", "early", "I", "EarlyGauge"), ("EarlyGauge$Trial", 46, "EarlyGauge$Station", "early", "I", "EarlyGauge"), ("EarlyGauge$Trial", 59, "EarlyGauge$Station", "slip", "I", "EarlyGauge")]
def qNM : List (String × Nat × MethodName × String) := [("EarlyGauge", 12, ⟨"EarlyGauge$Page", "<init>", "()V"⟩, "EarlyGauge"), ("EarlyGauge", 40, ⟨"EarlyGauge$Book", "<init>", "()V"⟩, "EarlyGauge"), ("EarlyGauge", 9, ⟨"EarlyGauge$Station", "<init>", "()V"⟩, "EarlyGauge"), ("EarlyGauge$Outlook", 54, ⟨"EarlyGauge", "isAhead", "(I)Z"⟩, "EarlyGauge"), ("EarlyGauge$Outlook", 58, ⟨"EarlyGauge", "isWeather", "(I)Z"⟩, "EarlyGauge")]
def qNC : List (String × String) := [("EarlyGauge$Miser", "EarlyGauge$Farmer"), ("EarlyGauge$Contrary", "EarlyGauge$Farmer"), ("EarlyGauge$Knees", "EarlyGauge$Farmer"), ("EarlyGauge$Keeper", "EarlyGauge$Farmer"), ("EarlyGauge$Farmer", "EarlyGauge$Miser"), ("EarlyGauge$Contrary", "EarlyGauge$Miser"), ("EarlyGauge$Knees", "EarlyGauge$Miser"), ("EarlyGauge$Keeper", "EarlyGauge$Miser"), ("EarlyGauge$Farmer", "EarlyGauge$Contrary"), ("EarlyGauge$Miser", "EarlyGauge$Contrary"), ("EarlyGauge$Keeper", "EarlyGauge$Contrary"), ("EarlyGauge$Farmer", "EarlyGauge$Knees"), ("EarlyGauge$Miser", "EarlyGauge$Knees"), ("EarlyGauge$Contrary", "EarlyGauge$Knees"), ("EarlyGauge$Keeper", "EarlyGauge$Knees")]
def qYC : List (String × String) := [("EarlyGauge$Contrary", "EarlyGauge$Keeper"), ("EarlyGauge$Farmer", "EarlyGauge$Keeper"), ("EarlyGauge$Knees", "EarlyGauge$Contrary"), ("EarlyGauge$Knees", "EarlyGauge$Keeper"), ("EarlyGauge$Miser", "EarlyGauge$Keeper")]
def qK (D : va_G) (U : State) : Prop := va_K D vwCl (qT D) U ∧ (∀ w ∈ qNF, va_Nw (.fieldLinkNest w.1 w.2.1 w.2.2.1 w.2.2.2.1 w.2.2.2.2.1 w.2.2.2.2.2) U) ∧ (∀ w ∈ qNM, va_Nw (.methodLinkNest w.1 w.2.1 w.2.2.1 w.2.2.2) U) ∧ (∀ w ∈ qYC, va_Nw (.castable w.1 w.2) U) ∧ (∀ w ∈ qNC, va_Nc w.1 w.2 U) ∧ va_AO "EarlyGauge$Keeper" U ∧ va_AOA .int U ∧ va_AOA .long U
theorem qK.same {D : va_G} {u U : State} (e : u.vm = U.vm) (h : qK D u) : qK D U := by
  obtain ⟨h1, h2, h3, h4, h5, h6, h7, h8⟩ := h
  have hA : u.vm.Alike U.vm := by rw [e]; exact Vm.Alike.refl _
  exact ⟨h1.moved hA, fun w hw => va_Nw.same rfl e (h2 w hw), fun w hw => va_Nw.same rfl e (h3 w hw), fun w hw => va_Nw.same rfl e (h4 w hw), fun w hw => (h5 w hw).moved hA, h6.moved hA, h7.moved hA, h8.moved hA⟩
theorem qK.warm {D : va_G} {s U : State} (hW : s.WarmedH U.vm) (h : qK D s) : qK D U := by
  obtain ⟨h1, h2, h3, h4, h5, h6, h7, h8⟩ := h
  have hA : s.vm.Alike U.vm := hW.alike
  exact ⟨h1.moved hA, fun w hw => va_Nw.warmF hW (h2 w hw), fun w hw => va_Nw.warmM hW (h3 w hw), fun w hw => va_Nw.warmC hW (h4 w hw), fun w hw => (h5 w hw).moved hA, h6.moved hA, h7.moved hA, h8.moved hA⟩
theorem qP.one {D : va_G} {b : Nat} {h : qH} {z : Nat} {H : Heap} (hP : qP D b h z H) {a : Nat} {e : va_E} (he : h a = some e) : va_P D vwCl [(a, e)] H := by
  intro k q hq
  cases k with
  | zero => cases hq; exact (hP.2.2 a e he).2
  | succ k => cases hq
theorem qP.oneD {D : va_G} {b : Nat} {h : qH} {z : Nat} {H : Heap} (hP : qP D b h z H) {a : Nat} {e : va_E} (he : h a = some e) : va_D (qA b) [(a, e)] := by
  refine ⟨fun i j p q hi hj _ => ?_, fun k q hq => ?_⟩
  · cases i with
    | succ i => cases hi
    | zero => cases j with
      | succ j => cases hj
      | zero => rfl
  · cases k with
    | zero => cases hq; exact (hP.2.2 a e he).1
    | succ k => cases hq
theorem qP.lt {D : va_G} {b : Nat} {h : qH} {z : Nat} {H : Heap} (hP : qP D b h z H) {a : Nat} {e : va_E} (he : h a = some e) : a < z := by
  rw [← hP.1]; exact (hP.2.2 a e he).2.lt
theorem qP.set {D : va_G} {b : Nat} {h : qH} {z : Nat} {H H1 : Heap} (hP : qP D b h z H) {a : Nat} {e0 e : va_E} (he : h a = some e0) (h1 : va_at D vwCl (a, e) H1) (zs : H1.size = H.size) (oq : ∀ q : Nat, q ≠ a → H1[q]? = H[q]?) : qP D b (va_up h a (some e)) z H1 := by
  refine ⟨zs.trans hP.1, hP.2.1, fun a' e' h' => ?_⟩
  by_cases ha : a' = a
  · subst ha
    simp only [va_up, if_true] at h'
    cases h'
    exact ⟨(hP.2.2 _ _ he).1, h1⟩
  · simp only [va_up, if_neg ha] at h'
    obtain ⟨g1, g2⟩ := hP.2.2 a' e' h'
    exact ⟨g1, g2.kept (oq a' ha)⟩
theorem qP.push {D : va_G} {b : Nat} {h : qH} {z : Nat} {H H1 : Heap} (hP : qP D b h z H) {e : va_E} (h1 : va_at D vwCl (z, e) H1) (zs : H1.size = z + 1) (oq : ∀ q : Nat, q < z → H1[q]? = H[q]?) : qP D b (va_up h z (some e)) (z + 1) H1 := by
  refine ⟨zs, Nat.le_succ_of_le hP.2.1, fun a' e' h' => ?_⟩
  by_cases ha : a' = z
  · subst ha
    simp only [va_up, if_true] at h'
    cases h'
    exact ⟨hP.2.1, h1⟩
  · simp only [va_up, if_neg ha] at h'
    obtain ⟨g1, g2⟩ := hP.2.2 a' e' h'
    exact ⟨g1, g2.kept (oq a' (hP.lt h'))⟩
theorem q_at {h : qH} {a : Nat} {e : Option va_E} : va_up h a e a = e := if_pos rfl
theorem q_ne {h : qH} {a q : Nat} {e : Option va_E} (hq : q ≠ a) : va_up h a e q = h q := if_neg hq
abbrev qX : Type := va_G × Nat × Program × Launch × Env × Room × State × MethodId × Array Value × List Frame × Method × Code × Nat × (State → Prop)
def qG : qX → Nat → Nat → Nat → qH → Nat → List (Nat × Value) → List Value → Prop
  | (D, b, p, l, e, R, s, m, args, below, meth, c, nL, Q), k, n, z, h, pc, L, st => ∀ (H : Heap) (locs : List Loc) (ls : Array Slot), qP D b h z H → va_S (qA b) s.heap H locs → lv_has ls nL L → W p l e R s m args below meth c H locs k n Q (F0 m pc ls st)
def qC : qX → va_G → Nat → Launch → Room → ByteArray → String → Nat → Prop
  | (D0, b0, p, l0, _, R0, s, m, args, _, _, c, nL0, _), D, b, l, R, cc, own, nL => D0 = D ∧ b0 = b ∧ l0 = l ∧ R0 = R ∧ nL0 = nL ∧ p.tables.exec = Jvm.exec ∧ c.code = cc ∧ c.maxLocals = nL ∧ s.vm.findClass own = some m.cls ∧ (∀ w ∈ AW, w.before args s = true) ∧ qK D s ∧ b ≤ s.heap.size
section QG
variable {X : qX} {D : va_G} {b : Nat} {l : Launch} {R : Room} {cc : ByteArray} {own : String} {nL : Nat} {k n z : Nat} {h : qH} {pc pc' : Nat} {L : List (Nat × Value)} {st : List Value}
theorem g_iconst (C : qC X D b l R cc own nL) {i : Int} {v : Int32} (hdg : decode cc pc = .ok (.iconst i, 1)) (hv : Int32.ofInt i = v) (hp : pc + 1 = pc') (kk : qG X k n z h pc' L (.int v :: st)) : qG X k n z h pc L (st) := by
  obtain ⟨D0, b0, p, l0, e, R0, s, m, args, below, meth, c, nL0, Q⟩ := X
  obtain ⟨rfl, rfl, rfl, rfl, rfl, hx, hb, hml, hown, hts, hK, hbs⟩ := C
  subst hp
  intro H locs ls hP hS hl
  exact lv_iconst hx hb hdg hv (kk H locs ls hP hS hl)
theorem g_bipush (C : qC X D b l R cc own nL) {i : Int} {v : Int32} (hdg : decode cc pc = .ok (.bipush i, 2)) (hv : (Int8.ofInt i).toInt32 = v) (hp : pc + 2 = pc') (kk : qG X k n z h pc' L (.int v :: st)) : qG X k n z h pc L (st) := by
  obtain ⟨D0, b0, p, l0, e, R0, s, m, args, below, meth, c, nL0, Q⟩ := X
  obtain ⟨rfl, rfl, rfl, rfl, rfl, hx, hb, hml, hown, hts, hK, hbs⟩ := C
  subst hp
  intro H locs ls hP hS hl
  exact lv_bipush hx hb hdg hv (kk H locs ls hP hS hl)
theorem g_sipush (C : qC X D b l R cc own nL) {i : Int} {v : Int32} (hdg : decode cc pc = .ok (.sipush i, 3)) (hv : (Int16.ofInt i).toInt32 = v) (hp : pc + 3 = pc') (kk : qG X k n z h pc' L (.int v :: st)) : qG X k n z h pc L (st) := by
  obtain ⟨D0, b0, p, l0, e, R0, s, m, args, below, meth, c, nL0, Q⟩ := X
  obtain ⟨rfl, rfl, rfl, rfl, rfl, hx, hb, hml, hown, hts, hK, hbs⟩ := C
  subst hp
  intro H locs ls hP hS hl
  exact lv_sipush hx hb hdg hv (kk H locs ls hP hS hl)
theorem g_lconst (C : qC X D b l R cc own nL) {i : Fin 2} {v : Int64} (hdg : decode cc pc = .ok (.lconst i, 1)) (hv : Int64.ofNat (i : Nat) = v) (hp : pc + 1 = pc') (kk : qG X k n z h pc' L (.long v :: st)) : qG X k n z h pc L (st) := by
  obtain ⟨D0, b0, p, l0, e, R0, s, m, args, below, meth, c, nL0, Q⟩ := X
  obtain ⟨rfl, rfl, rfl, rfl, rfl, hx, hb, hml, hown, hts, hK, hbs⟩ := C
  subst hp
  intro H locs ls hP hS hl
  exact lv_lconst hx hb hdg hv (kk H locs ls hP hS hl)
theorem g_ldc2 (C : qC X D b l R cc own nL) {i : Nat} {v : Int64} (hw : Cond.constantLong own i v ∈ AW) (hdg : decode cc pc = .ok (.ldc2_w i, 3)) (hp : pc + 3 = pc') (kk : qG X k n z h pc' L (.long v :: st)) : qG X k n z h pc L (st) := by
  obtain ⟨D0, b0, p, l0, e, R0, s, m, args, below, meth, c, nL0, Q⟩ := X
  obtain ⟨rfl, rfl, rfl, rfl, rfl, hx, hb, hml, hown, hts, hK, hbs⟩ := C
  subst hp
  intro H locs ls hP hS hl
  exact lv_ldc2 hx hb hown (hts _ hw) hdg (kk H locs ls hP hS hl)
theorem g_null (C : qC X D b l R cc own nL)  (hdg : decode cc pc = .ok (.aconst_null, 1)) (hp : pc + 1 = pc') (kk : qG X k n z h pc' L (.null :: st)) : qG X k n z h pc L (st) := by
  obtain ⟨D0, b0, p, l0, e, R0, s, m, args, below, meth, c, nL0, Q⟩ := X
  obtain ⟨rfl, rfl, rfl, rfl, rfl, hx, hb, hml, hown, hts, hK, hbs⟩ := C
  subst hp
  intro H locs ls hP hS hl
  exact lv_null hx hb hdg (kk H locs ls hP hS hl)
theorem g_iload_n (C : qC X D b l R cc own nL) {f : Fin 4} {i : Nat} {x : Int32} (q : Nat) (hdg : decode cc pc = .ok (.iload_n f, 1)) (hi : (f : Nat) = i) (hq : L[q]? = some (i, .int x)) (hp : pc + 1 = pc') (kk : qG X k n z h pc' L (.int x :: st)) : qG X k n z h pc L (st) := by
  obtain ⟨D0, b0, p, l0, e, R0, s, m, args, below, meth, c, nL0, Q⟩ := X
  obtain ⟨rfl, rfl, rfl, rfl, rfl, hx, hb, hml, hown, hts, hK, hbs⟩ := C
  subst hp
  intro H locs ls hP hS hl
  exact lv_iload_n hx hb hdg hi (lv_at hl q hq) (kk H locs ls hP hS hl)
theorem g_iload (C : qC X D b l R cc own nL) {i : Nat} {x : Int32} (q : Nat) (hdg : decode cc pc = .ok (.iload i, 2)) (hq : L[q]? = some (i, .int x)) (hp : pc + 2 = pc') (kk : qG X k n z h pc' L (.int x :: st)) : qG X k n z h pc L (st) := by
  obtain ⟨D0, b0, p, l0, e, R0, s, m, args, below, meth, c, nL0, Q⟩ := X
  obtain ⟨rfl, rfl, rfl, rfl, rfl, hx, hb, hml, hown, hts, hK, hbs⟩ := C
  subst hp
  intro H locs ls hP hS hl
  exact lv_iload hx hb hdg (lv_at hl q hq) (kk H locs ls hP hS hl)
theorem g_lload_n (C : qC X D b l R cc own nL) {f : Fin 4} {i : Nat} {x : Int64} (q : Nat) (hdg : decode cc pc = .ok (.lload_n f, 1)) (hi : (f : Nat) = i) (hq : L[q]? = some (i, .long x)) (hp : pc + 1 = pc') (kk : qG X k n z h pc' L (.long x :: st)) : qG X k n z h pc L (st) := by
  obtain ⟨D0, b0, p, l0, e, R0, s, m, args, below, meth, c, nL0, Q⟩ := X
  obtain ⟨rfl, rfl, rfl, rfl, rfl, hx, hb, hml, hown, hts, hK, hbs⟩ := C
  subst hp
  intro H locs ls hP hS hl
  exact lv_lload_n hx hb hdg hi (lv_at hl q hq) (kk H locs ls hP hS hl)
theorem g_lload (C : qC X D b l R cc own nL) {i : Nat} {x : Int64} (q : Nat) (hdg : decode cc pc = .ok (.lload i, 2)) (hq : L[q]? = some (i, .long x)) (hp : pc + 2 = pc') (kk : qG X k n z h pc' L (.long x :: st)) : qG X k n z h pc L (st) := by
  obtain ⟨D0, b0, p, l0, e, R0, s, m, args, below, meth, c, nL0, Q⟩ := X
  obtain ⟨rfl, rfl, rfl, rfl, rfl, hx, hb, hml, hown, hts, hK, hbs⟩ := C
  subst hp
  intro H locs ls hP hS hl
  exact lv_lload hx hb hdg (lv_at hl q hq) (kk H locs ls hP hS hl)
theorem g_aload_n (C : qC X D b l R cc own nL) {f : Fin 4} {i : Nat} {x : Nat} (q : Nat) (hdg : decode cc pc = .ok (.aload_n f, 1)) (hi : (f : Nat) = i) (hq : L[q]? = some (i, .ref x)) (hp : pc + 1 = pc') (kk : qG X k n z h pc' L (.ref x :: st)) : qG X k n z h pc L (st) := by
  obtain ⟨D0, b0, p, l0, e, R0, s, m, args, below, meth, c, nL0, Q⟩ := X
  obtain ⟨rfl, rfl, rfl, rfl, rfl, hx, hb, hml, hown, hts, hK, hbs⟩ := C
  subst hp
  intro H locs ls hP hS hl
  exact lv_aload_n hx hb hdg hi (lv_at hl q hq) (kk H locs ls hP hS hl)
theorem g_aload (C : qC X D b l R cc own nL) {i : Nat} {x : Nat} (q : Nat) (hdg : decode cc pc = .ok (.aload i, 2)) (hq : L[q]? = some (i, .ref x)) (hp : pc + 2 = pc') (kk : qG X k n z h pc' L (.ref x :: st)) : qG X k n z h pc L (st) := by
  obtain ⟨D0, b0, p, l0, e, R0, s, m, args, below, meth, c, nL0, Q⟩ := X
  obtain ⟨rfl, rfl, rfl, rfl, rfl, hx, hb, hml, hown, hts, hK, hbs⟩ := C
  subst hp
  intro H locs ls hP hS hl
  exact lv_aload hx hb hdg (lv_at hl q hq) (kk H locs ls hP hS hl)
theorem g_aload_nN (C : qC X D b l R cc own nL) {f : Fin 4} {i : Nat} (q : Nat) (hdg : decode cc pc = .ok (.aload_n f, 1)) (hi : (f : Nat) = i) (hq : L[q]? = some (i, .null)) (hp : pc + 1 = pc') (kk : qG X k n z h pc' L (.null :: st)) : qG X k n z h pc L (st) := by
  obtain ⟨D0, b0, p, l0, e, R0, s, m, args, below, meth, c, nL0, Q⟩ := X
  obtain ⟨rfl, rfl, rfl, rfl, rfl, hx, hb, hml, hown, hts, hK, hbs⟩ := C
  subst hp
  intro H locs ls hP hS hl
  exact lv_aload_nN hx hb hdg hi (lv_at hl q hq) (kk H locs ls hP hS hl)
theorem g_aloadN (C : qC X D b l R cc own nL) {i : Nat} (q : Nat) (hdg : decode cc pc = .ok (.aload i, 2)) (hq : L[q]? = some (i, .null)) (hp : pc + 2 = pc') (kk : qG X k n z h pc' L (.null :: st)) : qG X k n z h pc L (st) := by
  obtain ⟨D0, b0, p, l0, e, R0, s, m, args, below, meth, c, nL0, Q⟩ := X
  obtain ⟨rfl, rfl, rfl, rfl, rfl, hx, hb, hml, hown, hts, hK, hbs⟩ := C
  subst hp
  intro H locs ls hP hS hl
  exact lv_aloadN hx hb hdg (lv_at hl q hq) (kk H locs ls hP hS hl)
theorem g_istore_n (C : qC X D b l R cc own nL) {f : Fin 4} {i : Nat} {x : Int32} (L' : List (Nat × Value)) (hdg : decode cc pc = .ok (.istore_n f, 1)) (hi : (f : Nat) = i) (hn : i < nL) (hL : (i, Value.int x) :: L.filter (fun q => !(q.1 == i) && !(q.1 + 1 == i && q.2.category == 2)) = L') (hp : pc + 1 = pc') (kk : qG X k n z h pc' L' st) : qG X k n z h pc L (Value.int x :: st) := by
  obtain ⟨D0, b0, p, l0, e, R0, s, m, args, below, meth, c, nL0, Q⟩ := X
  obtain ⟨rfl, rfl, rfl, rfl, rfl, hx, hb, hml, hown, hts, hK, hbs⟩ := C
  subst hp
  intro H locs ls hP hS hl
  exact lv_istore_n (lv' := L') hx hb hdg hi hl hn hL (fun ls hl => kk H locs ls hP hS hl)
theorem g_istore (C : qC X D b l R cc own nL) {i : Nat} {x : Int32} (L' : List (Nat × Value)) (hdg : decode cc pc = .ok (.istore i, 2)) (hn : i < nL) (hL : (i, Value.int x) :: L.filter (fun q => !(q.1 == i) && !(q.1 + 1 == i && q.2.category == 2)) = L') (hp : pc + 2 = pc') (kk : qG X k n z h pc' L' st) : qG X k n z h pc L (Value.int x :: st) := by
  obtain ⟨D0, b0, p, l0, e, R0, s, m, args, below, meth, c, nL0, Q⟩ := X
  obtain ⟨rfl, rfl, rfl, rfl, rfl, hx, hb, hml, hown, hts, hK, hbs⟩ := C
  subst hp
  intro H locs ls hP hS hl
  exact lv_istore (lv' := L') hx hb hdg hl hn hL (fun ls hl => kk H locs ls hP hS hl)
theorem g_lstore_n (C : qC X D b l R cc own nL) {f : Fin 4} {i : Nat} {x : Int64} (L' : List (Nat × Value)) (hdg : decode cc pc = .ok (.lstore_n f, 1)) (hi : (f : Nat) = i) (hn : i + 1 < nL) (hL : (i, Value.long x) :: L.filter (fun q => !(q.1 == i) && (!(q.1 == i + 1) && !(q.1 + 1 == i && q.2.category == 2))) = L') (hp : pc + 1 = pc') (kk : qG X k n z h pc' L' st) : qG X k n z h pc L (Value.long x :: st) := by
  obtain ⟨D0, b0, p, l0, e, R0, s, m, args, below, meth, c, nL0, Q⟩ := X
  obtain ⟨rfl, rfl, rfl, rfl, rfl, hx, hb, hml, hown, hts, hK, hbs⟩ := C
  subst hp
  intro H locs ls hP hS hl
  exact lv_lstore_n (lv' := L') hx hb hdg hi hl hn hL (fun ls hl => kk H locs ls hP hS hl)
theorem g_lstore (C : qC X D b l R cc own nL) {i : Nat} {x : Int64} (L' : List (Nat × Value)) (hdg : decode cc pc = .ok (.lstore i, 2)) (hn : i + 1 < nL) (hL : (i, Value.long x) :: L.filter (fun q => !(q.1 == i) && (!(q.1 == i + 1) && !(q.1 + 1 == i && q.2.category == 2))) = L') (hp : pc + 2 = pc') (kk : qG X k n z h pc' L' st) : qG X k n z h pc L (Value.long x :: st) := by
  obtain ⟨D0, b0, p, l0, e, R0, s, m, args, below, meth, c, nL0, Q⟩ := X
  obtain ⟨rfl, rfl, rfl, rfl, rfl, hx, hb, hml, hown, hts, hK, hbs⟩ := C
  subst hp
  intro H locs ls hP hS hl
  exact lv_lstore (lv' := L') hx hb hdg hl hn hL (fun ls hl => kk H locs ls hP hS hl)
theorem g_astore_n (C : qC X D b l R cc own nL) {f : Fin 4} {i : Nat} {x : Nat} (L' : List (Nat × Value)) (hdg : decode cc pc = .ok (.astore_n f, 1)) (hi : (f : Nat) = i) (hn : i < nL) (hL : (i, Value.ref x) :: L.filter (fun q => !(q.1 == i) && !(q.1 + 1 == i && q.2.category == 2)) = L') (hp : pc + 1 = pc') (kk : qG X k n z h pc' L' st) : qG X k n z h pc L (Value.ref x :: st) := by
  obtain ⟨D0, b0, p, l0, e, R0, s, m, args, below, meth, c, nL0, Q⟩ := X
  obtain ⟨rfl, rfl, rfl, rfl, rfl, hx, hb, hml, hown, hts, hK, hbs⟩ := C
  subst hp
  intro H locs ls hP hS hl
  exact lv_astore_n (lv' := L') hx hb hdg hi hl hn hL (fun ls hl => kk H locs ls hP hS hl)
theorem g_astore (C : qC X D b l R cc own nL) {i : Nat} {x : Nat} (L' : List (Nat × Value)) (hdg : decode cc pc = .ok (.astore i, 2)) (hn : i < nL) (hL : (i, Value.ref x) :: L.filter (fun q => !(q.1 == i) && !(q.1 + 1 == i && q.2.category == 2)) = L') (hp : pc + 2 = pc') (kk : qG X k n z h pc' L' st) : qG X k n z h pc L (Value.ref x :: st) := by
  obtain ⟨D0, b0, p, l0, e, R0, s, m, args, below, meth, c, nL0, Q⟩ := X
  obtain ⟨rfl, rfl, rfl, rfl, rfl, hx, hb, hml, hown, hts, hK, hbs⟩ := C
  subst hp
  intro H locs ls hP hS hl
  exact lv_astore (lv' := L') hx hb hdg hl hn hL (fun ls hl => kk H locs ls hP hS hl)
theorem g_astore_nN (C : qC X D b l R cc own nL) {f : Fin 4} {i : Nat}  (L' : List (Nat × Value)) (hdg : decode cc pc = .ok (.astore_n f, 1)) (hi : (f : Nat) = i) (hn : i < nL) (hL : (i, Value.null) :: L.filter (fun q => !(q.1 == i) && !(q.1 + 1 == i && q.2.category == 2)) = L') (hp : pc + 1 = pc') (kk : qG X k n z h pc' L' st) : qG X k n z h pc L (Value.null :: st) := by
  obtain ⟨D0, b0, p, l0, e, R0, s, m, args, below, meth, c, nL0, Q⟩ := X
  obtain ⟨rfl, rfl, rfl, rfl, rfl, hx, hb, hml, hown, hts, hK, hbs⟩ := C
  subst hp
  intro H locs ls hP hS hl
  exact lv_astore_nN (lv' := L') hx hb hdg hi hl hn hL (fun ls hl => kk H locs ls hP hS hl)
theorem g_astoreN (C : qC X D b l R cc own nL) {i : Nat}  (L' : List (Nat × Value)) (hdg : decode cc pc = .ok (.astore i, 2)) (hn : i < nL) (hL : (i, Value.null) :: L.filter (fun q => !(q.1 == i) && !(q.1 + 1 == i && q.2.category == 2)) = L') (hp : pc + 2 = pc') (kk : qG X k n z h pc' L' st) : qG X k n z h pc L (Value.null :: st) := by
  obtain ⟨D0, b0, p, l0, e, R0, s, m, args, below, meth, c, nL0, Q⟩ := X
  obtain ⟨rfl, rfl, rfl, rfl, rfl, hx, hb, hml, hown, hts, hK, hbs⟩ := C
  subst hp
  intro H locs ls hP hS hl
  exact lv_astoreN (lv' := L') hx hb hdg hl hn hL (fun ls hl => kk H locs ls hP hS hl)
theorem g_iinc (C : qC X D b l R cc own nL) {i : Nat} {d : Int} {x v : Int32} (q : Nat) (L' : List (Nat × Value)) (hdg : decode cc pc = .ok (.iinc i d, 3)) (hq : L[q]? = some (i, .int x)) (hv : x + Int32.ofInt d = v) (hn : i < nL) (hL : (i, Value.int v) :: L.filter (fun q => !(q.1 == i) && !(q.1 + 1 == i && q.2.category == 2)) = L') (hp : pc + 3 = pc') (kk : qG X k n z h pc' L' st) : qG X k n z h pc L st := by
  obtain ⟨D0, b0, p, l0, e, R0, s, m, args, below, meth, c, nL0, Q⟩ := X
  obtain ⟨rfl, rfl, rfl, rfl, rfl, hx, hb, hml, hown, hts, hK, hbs⟩ := C
  subst hp
  intro H locs ls hP hS hl
  exact lv_iinc (v := v) (lv' := L') hx hb hdg hl hq hv hn hL (fun ls hl => kk H locs ls hP hS hl)
theorem g_iadd (C : qC X D b l R cc own nL) {x y : Int32} (hdg : decode cc pc = .ok (.iadd, 1)) (hp : pc + 1 = pc') (kk : qG X k n z h pc' L (.int (x + y) :: st)) : qG X k n z h pc L (.int y :: .int x :: st) := by
  obtain ⟨D0, b0, p, l0, e, R0, s, m, args, below, meth, c, nL0, Q⟩ := X
  obtain ⟨rfl, rfl, rfl, rfl, rfl, hx, hb, hml, hown, hts, hK, hbs⟩ := C
  subst hp
  intro H locs ls hP hS hl
  exact lv_iadd hx hb hdg (kk H locs ls hP hS hl)
theorem g_isub (C : qC X D b l R cc own nL) {x y : Int32} (hdg : decode cc pc = .ok (.isub, 1)) (hp : pc + 1 = pc') (kk : qG X k n z h pc' L (.int (x - y) :: st)) : qG X k n z h pc L (.int y :: .int x :: st) := by
  obtain ⟨D0, b0, p, l0, e, R0, s, m, args, below, meth, c, nL0, Q⟩ := X
  obtain ⟨rfl, rfl, rfl, rfl, rfl, hx, hb, hml, hown, hts, hK, hbs⟩ := C
  subst hp
  intro H locs ls hP hS hl
  exact lv_isub hx hb hdg (kk H locs ls hP hS hl)
theorem g_imul (C : qC X D b l R cc own nL) {x y : Int32} (hdg : decode cc pc = .ok (.imul, 1)) (hp : pc + 1 = pc') (kk : qG X k n z h pc' L (.int (x * y) :: st)) : qG X k n z h pc L (.int y :: .int x :: st) := by
  obtain ⟨D0, b0, p, l0, e, R0, s, m, args, below, meth, c, nL0, Q⟩ := X
  obtain ⟨rfl, rfl, rfl, rfl, rfl, hx, hb, hml, hown, hts, hK, hbs⟩ := C
  subst hp
  intro H locs ls hP hS hl
  exact lv_imul hx hb hdg (kk H locs ls hP hS hl)
theorem g_iand (C : qC X D b l R cc own nL) {x y : Int32} (hdg : decode cc pc = .ok (.iand, 1)) (hp : pc + 1 = pc') (kk : qG X k n z h pc' L (.int (x &&& y) :: st)) : qG X k n z h pc L (.int y :: .int x :: st) := by
  obtain ⟨D0, b0, p, l0, e, R0, s, m, args, below, meth, c, nL0, Q⟩ := X
  obtain ⟨rfl, rfl, rfl, rfl, rfl, hx, hb, hml, hown, hts, hK, hbs⟩ := C
  subst hp
  intro H locs ls hP hS hl
  exact lv_iand hx hb hdg (kk H locs ls hP hS hl)
theorem g_idiv (C : qC X D b l R cc own nL) {x y : Int32} (hdg : decode cc pc = .ok (.idiv, 1)) (hne : ¬ y = 0) (hp : pc + 1 = pc') (kk : qG X k n z h pc' L (.int (x / y) :: st)) : qG X k n z h pc L (.int y :: .int x :: st) := by
  obtain ⟨D0, b0, p, l0, e, R0, s, m, args, below, meth, c, nL0, Q⟩ := X
  obtain ⟨rfl, rfl, rfl, rfl, rfl, hx, hb, hml, hown, hts, hK, hbs⟩ := C
  subst hp
  intro H locs ls hP hS hl
  exact lv_idiv hx hb hdg hne (kk H locs ls hP hS hl)
theorem g_irem (C : qC X D b l R cc own nL) {x y : Int32} (hdg : decode cc pc = .ok (.irem, 1)) (hne : ¬ y = 0) (hp : pc + 1 = pc') (kk : qG X k n z h pc' L (.int (x - x / y * y) :: st)) : qG X k n z h pc L (.int y :: .int x :: st) := by
  obtain ⟨D0, b0, p, l0, e, R0, s, m, args, below, meth, c, nL0, Q⟩ := X
  obtain ⟨rfl, rfl, rfl, rfl, rfl, hx, hb, hml, hown, hts, hK, hbs⟩ := C
  subst hp
  intro H locs ls hP hS hl
  exact lv_irem hx hb hdg hne (kk H locs ls hP hS hl)
theorem g_ladd (C : qC X D b l R cc own nL) {x y : Int64} (hdg : decode cc pc = .ok (.ladd, 1)) (hp : pc + 1 = pc') (kk : qG X k n z h pc' L (.long (x + y) :: st)) : qG X k n z h pc L (.long y :: .long x :: st) := by
  obtain ⟨D0, b0, p, l0, e, R0, s, m, args, below, meth, c, nL0, Q⟩ := X
  obtain ⟨rfl, rfl, rfl, rfl, rfl, hx, hb, hml, hown, hts, hK, hbs⟩ := C
  subst hp
  intro H locs ls hP hS hl
  exact lv_ladd hx hb hdg (kk H locs ls hP hS hl)
theorem g_lsub (C : qC X D b l R cc own nL) {x y : Int64} (hdg : decode cc pc = .ok (.lsub, 1)) (hp : pc + 1 = pc') (kk : qG X k n z h pc' L (.long (x - y) :: st)) : qG X k n z h pc L (.long y :: .long x :: st) := by
  obtain ⟨D0, b0, p, l0, e, R0, s, m, args, below, meth, c, nL0, Q⟩ := X
  obtain ⟨rfl, rfl, rfl, rfl, rfl, hx, hb, hml, hown, hts, hK, hbs⟩ := C
  subst hp
  intro H locs ls hP hS hl
  exact lv_lsub hx hb hdg (kk H locs ls hP hS hl)
theorem g_lmul (C : qC X D b l R cc own nL) {x y : Int64} (hdg : decode cc pc = .ok (.lmul, 1)) (hp : pc + 1 = pc') (kk : qG X k n z h pc' L (.long (x * y) :: st)) : qG X k n z h pc L (.long y :: .long x :: st) := by
  obtain ⟨D0, b0, p, l0, e, R0, s, m, args, below, meth, c, nL0, Q⟩ := X
  obtain ⟨rfl, rfl, rfl, rfl, rfl, hx, hb, hml, hown, hts, hK, hbs⟩ := C
  subst hp
  intro H locs ls hP hS hl
  exact lv_lmul hx hb hdg (kk H locs ls hP hS hl)
theorem g_land (C : qC X D b l R cc own nL) {x y : Int64} (hdg : decode cc pc = .ok (.land, 1)) (hp : pc + 1 = pc') (kk : qG X k n z h pc' L (.long (x &&& y) :: st)) : qG X k n z h pc L (.long y :: .long x :: st) := by
  obtain ⟨D0, b0, p, l0, e, R0, s, m, args, below, meth, c, nL0, Q⟩ := X
  obtain ⟨rfl, rfl, rfl, rfl, rfl, hx, hb, hml, hown, hts, hK, hbs⟩ := C
  subst hp
  intro H locs ls hP hS hl
  exact lv_land hx hb hdg (kk H locs ls hP hS hl)
theorem g_ldiv (C : qC X D b l R cc own nL) {x y : Int64} (hdg : decode cc pc = .ok (.ldiv, 1)) (hne : ¬ y = 0) (hp : pc + 1 = pc') (kk : qG X k n z h pc' L (.long (x / y) :: st)) : qG X k n z h pc L (.long y :: .long x :: st) := by
  obtain ⟨D0, b0, p, l0, e, R0, s, m, args, below, meth, c, nL0, Q⟩ := X
  obtain ⟨rfl, rfl, rfl, rfl, rfl, hx, hb, hml, hown, hts, hK, hbs⟩ := C
  subst hp
  intro H locs ls hP hS hl
  exact lv_ldiv hx hb hdg hne (kk H locs ls hP hS hl)
theorem g_lrem (C : qC X D b l R cc own nL) {x y : Int64} (hdg : decode cc pc = .ok (.lrem, 1)) (hne : ¬ y = 0) (hp : pc + 1 = pc') (kk : qG X k n z h pc' L (.long (x - x / y * y) :: st)) : qG X k n z h pc L (.long y :: .long x :: st) := by
  obtain ⟨D0, b0, p, l0, e, R0, s, m, args, below, meth, c, nL0, Q⟩ := X
  obtain ⟨rfl, rfl, rfl, rfl, rfl, hx, hb, hml, hown, hts, hK, hbs⟩ := C
  subst hp
  intro H locs ls hP hS hl
  exact lv_lrem hx hb hdg hne (kk H locs ls hP hS hl)
theorem g_lcmp (C : qC X D b l R cc own nL) {x y : Int64} (hdg : decode cc pc = .ok (.lcmp, 1)) (hp : pc + 1 = pc') (kk : qG X k n z h pc' L (.int (lg_cmp x y) :: st)) : qG X k n z h pc L (.long y :: .long x :: st) := by
  obtain ⟨D0, b0, p, l0, e, R0, s, m, args, below, meth, c, nL0, Q⟩ := X
  obtain ⟨rfl, rfl, rfl, rfl, rfl, hx, hb, hml, hown, hts, hK, hbs⟩ := C
  subst hp
  intro H locs ls hP hS hl
  exact W.lcmp hx hb hdg (kk H locs ls hP hS hl)
theorem g_i2l (C : qC X D b l R cc own nL) {x : Int32} (hdg : decode cc pc = .ok (.i2l, 1)) (hp : pc + 1 = pc') (kk : qG X k n z h pc' L (.long x.toInt64 :: st)) : qG X k n z h pc L (.int x :: st) := by
  obtain ⟨D0, b0, p, l0, e, R0, s, m, args, below, meth, c, nL0, Q⟩ := X
  obtain ⟨rfl, rfl, rfl, rfl, rfl, hx, hb, hml, hown, hts, hK, hbs⟩ := C
  subst hp
  intro H locs ls hP hS hl
  exact lv_i2l hx hb hdg rfl (kk H locs ls hP hS hl)
theorem g_l2i (C : qC X D b l R cc own nL) {x : Int64} (hdg : decode cc pc = .ok (.l2i, 1)) (hp : pc + 1 = pc') (kk : qG X k n z h pc' L (.int x.toInt32 :: st)) : qG X k n z h pc L (.long x :: st) := by
  obtain ⟨D0, b0, p, l0, e, R0, s, m, args, below, meth, c, nL0, Q⟩ := X
  obtain ⟨rfl, rfl, rfl, rfl, rfl, hx, hb, hml, hown, hts, hK, hbs⟩ := C
  subst hp
  intro H locs ls hP hS hl
  exact lv_l2i hx hb hdg rfl (kk H locs ls hP hS hl)
theorem g_i2b (C : qC X D b l R cc own nL) {x : Int32} (hdg : decode cc pc = .ok (.i2b, 1)) (hp : pc + 1 = pc') (kk : qG X k n z h pc' L (.int x.toInt8.toInt32 :: st)) : qG X k n z h pc L (.int x :: st) := by
  obtain ⟨D0, b0, p, l0, e, R0, s, m, args, below, meth, c, nL0, Q⟩ := X
  obtain ⟨rfl, rfl, rfl, rfl, rfl, hx, hb, hml, hown, hts, hK, hbs⟩ := C
  subst hp
  intro H locs ls hP hS hl
  exact lv_i2b hx hb hdg rfl (kk H locs ls hP hS hl)
theorem g_dup (C : qC X D b l R cc own nL) {v : Value} (hv : v.category = 1) (hdg : decode cc pc = .ok (.dup, 1)) (hp : pc + 1 = pc') (kk : qG X k n z h pc' L (v :: v :: st)) : qG X k n z h pc L (v :: st) := by
  obtain ⟨D0, b0, p, l0, e, R0, s, m, args, below, meth, c, nL0, Q⟩ := X
  obtain ⟨rfl, rfl, rfl, rfl, rfl, hx, hb, hml, hown, hts, hK, hbs⟩ := C
  subst hp
  intro H locs ls hP hS hl
  exact lv_dup hx hb hdg hv (kk H locs ls hP hS hl)
theorem g_dup2 (C : qC X D b l R cc own nL) {v w : Value} (hv : v.category = 1) (hw : w.category = 1) (hdg : decode cc pc = .ok (.dup2, 1)) (hp : pc + 1 = pc') (kk : qG X k n z h pc' L (v :: w :: v :: w :: st)) : qG X k n z h pc L (v :: w :: st) := by
  obtain ⟨D0, b0, p, l0, e, R0, s, m, args, below, meth, c, nL0, Q⟩ := X
  obtain ⟨rfl, rfl, rfl, rfl, rfl, hx, hb, hml, hown, hts, hK, hbs⟩ := C
  subst hp
  intro H locs ls hP hS hl
  exact lv_dup2_11 hx hb hdg hv hw (kk H locs ls hP hS hl)
theorem g_pop (C : qC X D b l R cc own nL) {v : Value} (hv : v.category = 1) (hdg : decode cc pc = .ok (.pop, 1)) (hp : pc + 1 = pc') (kk : qG X k n z h pc' L (st)) : qG X k n z h pc L (v :: st) := by
  obtain ⟨D0, b0, p, l0, e, R0, s, m, args, below, meth, c, nL0, Q⟩ := X
  obtain ⟨rfl, rfl, rfl, rfl, rfl, hx, hb, hml, hown, hts, hK, hbs⟩ := C
  subst hp
  intro H locs ls hP hS hl
  exact lv_pop hx hb hdg hv (kk H locs ls hP hS hl)
theorem g_if_eq (C : qC X D b l R cc own nL) {x : Int32} {off : Int} {tgt : Nat} (hdg : decode cc pc = .ok (.ifCond .eq off, 3)) (ht : (pc : Int) + off = (tgt : Int)) (hp : pc + 3 = pc') (kt : x = 0 → qG X k n z h tgt L st) (kf : ¬ x = 0 → qG X k n z h pc' L st) : qG X k n z h pc L (.int x :: st) := by
  obtain ⟨D0, b0, p, l0, e, R0, s, m, args, below, meth, c, nL0, Q⟩ := X
  obtain ⟨rfl, rfl, rfl, rfl, rfl, hx, hb, hml, hown, hts, hK, hbs⟩ := C
  subst hp
  intro H locs ls hP hS hl
  exact lv_if_eq hx hb hdg ht (fun c => kt c H locs ls hP hS hl) (fun c => kf c H locs ls hP hS hl)
theorem g_if_ne (C : qC X D b l R cc own nL) {x : Int32} {off : Int} {tgt : Nat} (hdg : decode cc pc = .ok (.ifCond .ne off, 3)) (ht : (pc : Int) + off = (tgt : Int)) (hp : pc + 3 = pc') (kt : ¬ x = 0 → qG X k n z h tgt L st) (kf : x = 0 → qG X k n z h pc' L st) : qG X k n z h pc L (.int x :: st) := by
  obtain ⟨D0, b0, p, l0, e, R0, s, m, args, below, meth, c, nL0, Q⟩ := X
  obtain ⟨rfl, rfl, rfl, rfl, rfl, hx, hb, hml, hown, hts, hK, hbs⟩ := C
  subst hp
  intro H locs ls hP hS hl
  exact lv_if_ne hx hb hdg ht (fun c => kt c H locs ls hP hS hl) (fun c => kf c H locs ls hP hS hl)
theorem g_if_lt (C : qC X D b l R cc own nL) {x : Int32} {off : Int} {tgt : Nat} (hdg : decode cc pc = .ok (.ifCond .lt off, 3)) (ht : (pc : Int) + off = (tgt : Int)) (hp : pc + 3 = pc') (kt : x < 0 → qG X k n z h tgt L st) (kf : ¬ x < 0 → qG X k n z h pc' L st) : qG X k n z h pc L (.int x :: st) := by
  obtain ⟨D0, b0, p, l0, e, R0, s, m, args, below, meth, c, nL0, Q⟩ := X
  obtain ⟨rfl, rfl, rfl, rfl, rfl, hx, hb, hml, hown, hts, hK, hbs⟩ := C
  subst hp
  intro H locs ls hP hS hl
  exact lv_if_lt hx hb hdg ht (fun c => kt c H locs ls hP hS hl) (fun c => kf c H locs ls hP hS hl)
theorem g_if_ge (C : qC X D b l R cc own nL) {x : Int32} {off : Int} {tgt : Nat} (hdg : decode cc pc = .ok (.ifCond .ge off, 3)) (ht : (pc : Int) + off = (tgt : Int)) (hp : pc + 3 = pc') (kt : 0 ≤ x → qG X k n z h tgt L st) (kf : ¬ 0 ≤ x → qG X k n z h pc' L st) : qG X k n z h pc L (.int x :: st) := by
  obtain ⟨D0, b0, p, l0, e, R0, s, m, args, below, meth, c, nL0, Q⟩ := X
  obtain ⟨rfl, rfl, rfl, rfl, rfl, hx, hb, hml, hown, hts, hK, hbs⟩ := C
  subst hp
  intro H locs ls hP hS hl
  exact lv_if_ge hx hb hdg ht (fun c => kt c H locs ls hP hS hl) (fun c => kf c H locs ls hP hS hl)
theorem g_if_gt (C : qC X D b l R cc own nL) {x : Int32} {off : Int} {tgt : Nat} (hdg : decode cc pc = .ok (.ifCond .gt off, 3)) (ht : (pc : Int) + off = (tgt : Int)) (hp : pc + 3 = pc') (kt : 0 < x → qG X k n z h tgt L st) (kf : ¬ 0 < x → qG X k n z h pc' L st) : qG X k n z h pc L (.int x :: st) := by
  obtain ⟨D0, b0, p, l0, e, R0, s, m, args, below, meth, c, nL0, Q⟩ := X
  obtain ⟨rfl, rfl, rfl, rfl, rfl, hx, hb, hml, hown, hts, hK, hbs⟩ := C
  subst hp
  intro H locs ls hP hS hl
  exact lv_if_gt hx hb hdg ht (fun c => kt c H locs ls hP hS hl) (fun c => kf c H locs ls hP hS hl)
theorem g_if_le (C : qC X D b l R cc own nL) {x : Int32} {off : Int} {tgt : Nat} (hdg : decode cc pc = .ok (.ifCond .le off, 3)) (ht : (pc : Int) + off = (tgt : Int)) (hp : pc + 3 = pc') (kt : x ≤ 0 → qG X k n z h tgt L st) (kf : ¬ x ≤ 0 → qG X k n z h pc' L st) : qG X k n z h pc L (.int x :: st) := by
  obtain ⟨D0, b0, p, l0, e, R0, s, m, args, below, meth, c, nL0, Q⟩ := X
  obtain ⟨rfl, rfl, rfl, rfl, rfl, hx, hb, hml, hown, hts, hK, hbs⟩ := C
  subst hp
  intro H locs ls hP hS hl
  exact lv_if_le hx hb hdg ht (fun c => kt c H locs ls hP hS hl) (fun c => kf c H locs ls hP hS hl)
theorem g_icmp_eq (C : qC X D b l R cc own nL) {x y : Int32} {off : Int} {tgt : Nat} (hdg : decode cc pc = .ok (.if_icmp .eq off, 3)) (ht : (pc : Int) + off = (tgt : Int)) (hp : pc + 3 = pc') (kt : x = y → qG X k n z h tgt L st) (kf : ¬ x = y → qG X k n z h pc' L st) : qG X k n z h pc L (.int y :: .int x :: st) := by
  obtain ⟨D0, b0, p, l0, e, R0, s, m, args, below, meth, c, nL0, Q⟩ := X
  obtain ⟨rfl, rfl, rfl, rfl, rfl, hx, hb, hml, hown, hts, hK, hbs⟩ := C
  subst hp
  intro H locs ls hP hS hl
  exact lv_icmp_eq hx hb hdg ht (fun c => kt c H locs ls hP hS hl) (fun c => kf c H locs ls hP hS hl)
theorem g_icmp_ne (C : qC X D b l R cc own nL) {x y : Int32} {off : Int} {tgt : Nat} (hdg : decode cc pc = .ok (.if_icmp .ne off, 3)) (ht : (pc : Int) + off = (tgt : Int)) (hp : pc + 3 = pc') (kt : ¬ x = y → qG X k n z h tgt L st) (kf : x = y → qG X k n z h pc' L st) : qG X k n z h pc L (.int y :: .int x :: st) := by
  obtain ⟨D0, b0, p, l0, e, R0, s, m, args, below, meth, c, nL0, Q⟩ := X
  obtain ⟨rfl, rfl, rfl, rfl, rfl, hx, hb, hml, hown, hts, hK, hbs⟩ := C
  subst hp
  intro H locs ls hP hS hl
  exact lv_icmp_ne hx hb hdg ht (fun c => kt c H locs ls hP hS hl) (fun c => kf c H locs ls hP hS hl)
theorem g_icmp_lt (C : qC X D b l R cc own nL) {x y : Int32} {off : Int} {tgt : Nat} (hdg : decode cc pc = .ok (.if_icmp .lt off, 3)) (ht : (pc : Int) + off = (tgt : Int)) (hp : pc + 3 = pc') (kt : x < y → qG X k n z h tgt L st) (kf : ¬ x < y → qG X k n z h pc' L st) : qG X k n z h pc L (.int y :: .int x :: st) := by
  obtain ⟨D0, b0, p, l0, e, R0, s, m, args, below, meth, c, nL0, Q⟩ := X
  obtain ⟨rfl, rfl, rfl, rfl, rfl, hx, hb, hml, hown, hts, hK, hbs⟩ := C
  subst hp
  intro H locs ls hP hS hl
  exact lv_icmp_lt hx hb hdg ht (fun c => kt c H locs ls hP hS hl) (fun c => kf c H locs ls hP hS hl)
theorem g_icmp_ge (C : qC X D b l R cc own nL) {x y : Int32} {off : Int} {tgt : Nat} (hdg : decode cc pc = .ok (.if_icmp .ge off, 3)) (ht : (pc : Int) + off = (tgt : Int)) (hp : pc + 3 = pc') (kt : y ≤ x → qG X k n z h tgt L st) (kf : ¬ y ≤ x → qG X k n z h pc' L st) : qG X k n z h pc L (.int y :: .int x :: st) := by
  obtain ⟨D0, b0, p, l0, e, R0, s, m, args, below, meth, c, nL0, Q⟩ := X
  obtain ⟨rfl, rfl, rfl, rfl, rfl, hx, hb, hml, hown, hts, hK, hbs⟩ := C
  subst hp
  intro H locs ls hP hS hl
  exact lv_icmp_ge hx hb hdg ht (fun c => kt c H locs ls hP hS hl) (fun c => kf c H locs ls hP hS hl)
theorem g_icmp_gt (C : qC X D b l R cc own nL) {x y : Int32} {off : Int} {tgt : Nat} (hdg : decode cc pc = .ok (.if_icmp .gt off, 3)) (ht : (pc : Int) + off = (tgt : Int)) (hp : pc + 3 = pc') (kt : y < x → qG X k n z h tgt L st) (kf : ¬ y < x → qG X k n z h pc' L st) : qG X k n z h pc L (.int y :: .int x :: st) := by
  obtain ⟨D0, b0, p, l0, e, R0, s, m, args, below, meth, c, nL0, Q⟩ := X
  obtain ⟨rfl, rfl, rfl, rfl, rfl, hx, hb, hml, hown, hts, hK, hbs⟩ := C
  subst hp
  intro H locs ls hP hS hl
  exact lv_icmp_gt hx hb hdg ht (fun c => kt c H locs ls hP hS hl) (fun c => kf c H locs ls hP hS hl)
theorem g_icmp_le (C : qC X D b l R cc own nL) {x y : Int32} {off : Int} {tgt : Nat} (hdg : decode cc pc = .ok (.if_icmp .le off, 3)) (ht : (pc : Int) + off = (tgt : Int)) (hp : pc + 3 = pc') (kt : x ≤ y → qG X k n z h tgt L st) (kf : ¬ x ≤ y → qG X k n z h pc' L st) : qG X k n z h pc L (.int y :: .int x :: st) := by
  obtain ⟨D0, b0, p, l0, e, R0, s, m, args, below, meth, c, nL0, Q⟩ := X
  obtain ⟨rfl, rfl, rfl, rfl, rfl, hx, hb, hml, hown, hts, hK, hbs⟩ := C
  subst hp
  intro H locs ls hP hS hl
  exact lv_icmp_le hx hb hdg ht (fun c => kt c H locs ls hP hS hl) (fun c => kf c H locs ls hP hS hl)
theorem g_goto (C : qC X D b l R cc own nL) {off : Int} {tgt : Nat} (hdg : decode cc pc = .ok (.goto off, 3)) (ht : (pc : Int) + off = (tgt : Int)) (kk : qG X k n z h tgt L st) : qG X k n z h pc L st := by
  obtain ⟨D0, b0, p, l0, e, R0, s, m, args, below, meth, c, nL0, Q⟩ := X
  obtain ⟨rfl, rfl, rfl, rfl, rfl, hx, hb, hml, hown, hts, hK, hbs⟩ := C
  intro H locs ls hP hS hl
  exact lv_goto hx hb hdg ht (kk H locs ls hP hS hl)
theorem g_ifnonnull (C : qC X D b l R cc own nL) {x : Nat} {off : Int} {tgt : Nat} (hdg : decode cc pc = .ok (.ifnonnull off, 3)) (ht : (pc : Int) + off = (tgt : Int)) (kk : qG X k n z h tgt L st) : qG X k n z h pc L (.ref x :: st) := by
  obtain ⟨D0, b0, p, l0, e, R0, s, m, args, below, meth, c, nL0, Q⟩ := X
  obtain ⟨rfl, rfl, rfl, rfl, rfl, hx, hb, hml, hown, hts, hK, hbs⟩ := C
  intro H locs ls hP hS hl
  exact lv_ifnonnull hx hb hdg ht (kk H locs ls hP hS hl)
theorem g_ifnonnullN (C : qC X D b l R cc own nL) {off : Int} (hdg : decode cc pc = .ok (.ifnonnull off, 3)) (hp : pc + 3 = pc') (kk : qG X k n z h pc' L st) : qG X k n z h pc L (.null :: st) := by
  obtain ⟨D0, b0, p, l0, e, R0, s, m, args, below, meth, c, nL0, Q⟩ := X
  obtain ⟨rfl, rfl, rfl, rfl, rfl, hx, hb, hml, hown, hts, hK, hbs⟩ := C
  subst hp
  intro H locs ls hP hS hl
  exact lv_ifnonnullN hx hb hdg (kk H locs ls hP hS hl)
theorem g_ifnull (C : qC X D b l R cc own nL) {x : Nat} {off : Int} (hdg : decode cc pc = .ok (.ifnull off, 3)) (hp : pc + 3 = pc') (kk : qG X k n z h pc' L st) : qG X k n z h pc L (.ref x :: st) := by
  obtain ⟨D0, b0, p, l0, e, R0, s, m, args, below, meth, c, nL0, Q⟩ := X
  obtain ⟨rfl, rfl, rfl, rfl, rfl, hx, hb, hml, hown, hts, hK, hbs⟩ := C
  subst hp
  intro H locs ls hP hS hl
  exact lv_ifnull hx hb hdg (kk H locs ls hP hS hl)
theorem g_ifnullN (C : qC X D b l R cc own nL) {off : Int} {tgt : Nat} (hdg : decode cc pc = .ok (.ifnull off, 3)) (ht : (pc : Int) + off = (tgt : Int)) (kk : qG X k n z h tgt L st) : qG X k n z h pc L (.null :: st) := by
  obtain ⟨D0, b0, p, l0, e, R0, s, m, args, below, meth, c, nL0, Q⟩ := X
  obtain ⟨rfl, rfl, rfl, rfl, rfl, hx, hb, hml, hown, hts, hK, hbs⟩ := C
  intro H locs ls hP hS hl
  exact lv_ifnullN hx hb hdg ht (kk H locs ls hP hS hl)
theorem g_tableIn (C : qC X D b l R cc own nL) {dflt lo hi : Int} {offs : Array Int} {len : Nat} {x : Int32} {off : Int} {tgt : Nat} (hdg : decode cc pc = .ok (.tableswitch dflt lo hi offs, len)) (h1 : ¬ x.toInt < lo) (h2 : ¬ hi < x.toInt) (ho : offs[(x.toInt - lo).toNat]? = some off) (ht : (pc : Int) + off = (tgt : Int)) (kk : qG X k n z h tgt L st) : qG X k n z h pc L (.int x :: st) := by
  obtain ⟨D0, b0, p, l0, e, R0, s, m, args, below, meth, c, nL0, Q⟩ := X
  obtain ⟨rfl, rfl, rfl, rfl, rfl, hx, hb, hml, hown, hts, hK, hbs⟩ := C
  intro H locs ls hP hS hl
  exact lv_tableIn hx hb hdg h1 h2 ho ht (kk H locs ls hP hS hl)
theorem g_tableOut (C : qC X D b l R cc own nL) {dflt lo hi : Int} {offs : Array Int} {len : Nat} {x : Int32} {tgt : Nat} (hdg : decode cc pc = .ok (.tableswitch dflt lo hi offs, len)) (hh : x.toInt < lo ∨ hi < x.toInt) (ht : (pc : Int) + dflt = (tgt : Int)) (kk : qG X k n z h tgt L st) : qG X k n z h pc L (.int x :: st) := by
  obtain ⟨D0, b0, p, l0, e, R0, s, m, args, below, meth, c, nL0, Q⟩ := X
  obtain ⟨rfl, rfl, rfl, rfl, rfl, hx, hb, hml, hown, hts, hK, hbs⟩ := C
  intro H locs ls hP hS hl
  exact lv_tableOut hx hb hdg hh ht (kk H locs ls hP hS hl)
theorem g_get (C : qC X D b l R cc own nL) {ref Cn : String} {T : u_T} {N ci index : Nat} {a : Nat} {fs : List Value} (hin : ∀ w ∈ u_ws Cn T N, w ∈ AW) (hc : vwCl[ci]? = some (Cn, T, N)) (j : Nat) (hj : j < N) (hw : Cond.fieldLink own index ref (T j).2.1 (T j).2.2.1 ∈ AW) (hsame : ∀ (s : State) (args : Array Value), (∀ w ∈ AW, w.before args s = true) → ∀ x, s.fieldFound? (T j).1 (T j).2.1 (T j).2.2.1 = some x → s.fieldFound? ref (T j).2.1 (T j).2.2.1 = some x) (he : h a = some (.inr (ci, fs))) {v : Value} (hv : fs[j]? = some v) (hdg : decode cc pc = .ok (.getfield index, 3)) (hp : pc + 3 = pc') (kk : qG X k n z h pc' L (v :: st)) : qG X k n z h pc L (.ref a :: st) := by
  obtain ⟨D0, b0, p, l0, e, R0, s, m, args, below, meth, c, nL0, Q⟩ := X
  obtain ⟨rfl, rfl, rfl, rfl, rfl, hx, hb, hml, hown, hts, hK, hbs⟩ := C
  subst hp
  intro H locs ls hP hS hl
  exact va_get hx hb hts hin hown hK.1 (hP.one he) 0 rfl hc j hj (hts _ hw) (hsame _ _ hts) hv hdg (kk H locs ls hP hS hl)
theorem g_getN (C : qC X D b l R cc own nL) {ref Cn : String} {T : u_T} {N ci index : Nat} {a : Nat} {fs : List Value} {host : String} (hin : ∀ w ∈ u_ws Cn T N, w ∈ AW) (hc : vwCl[ci]? = some (Cn, T, N)) (j : Nat) (hj : j < N) (hw : (own, index, ref, (T j).2.1, (T j).2.2.1, host) ∈ qNF) (hsame : ∀ (s : State) (args : Array Value), (∀ w ∈ AW, w.before args s = true) → ∀ x, s.fieldFound? (T j).1 (T j).2.1 (T j).2.2.1 = some x → s.fieldFound? ref (T j).2.1 (T j).2.2.1 = some x) (he : h a = some (.inr (ci, fs))) {v : Value} (hv : fs[j]? = some v) (hdg : decode cc pc = .ok (.getfield index, 3)) (hp : pc + 3 = pc') (kk : qG X k n z h pc' L (v :: st)) : qG X k n z h pc L (.ref a :: st) := by
  obtain ⟨D0, b0, p, l0, e, R0, s, m, args, below, meth, c, nL0, Q⟩ := X
  obtain ⟨rfl, rfl, rfl, rfl, rfl, hx, hb, hml, hown, hts, hK, hbs⟩ := C
  subst hp
  intro H locs ls hP hS hl
  exact va_getN hx hb hts hin hown hK.1 (hP.one he) 0 rfl hc j hj (va_Nw.use rfl (hK.2.1 _ hw)) (hsame _ _ hts) hv hdg (kk H locs ls hP hS hl)
theorem g_put (C : qC X D b l R cc own nL) {ref Cn : String} {T : u_T} {N ci index : Nat} {a : Nat} {fs : List Value} (hin : ∀ w ∈ u_ws Cn T N, w ∈ AW) (ty0 : Nat → FieldType) (hty : ∀ k, k < N → parseFieldDescriptor (T k).2.2.1 = some (ty0 k)) (hnm : ∀ a, a < N → ∀ b, b < N → a ≠ b → (T a).2.1 ≠ (T b).2.1) (hc : vwCl[ci]? = some (Cn, T, N)) (j : Nat) (hj : j < N) (hw : Cond.fieldLink own index ref (T j).2.1 (T j).2.2.1 ∈ AW) (hsame : ∀ (s : State) (args : Array Value), (∀ w ∈ AW, w.before args s = true) → ∀ x, s.fieldFound? (T j).1 (T j).2.1 (T j).2.2.1 = some x → s.fieldFound? ref (T j).2.1 (T j).2.2.1 = some x) (hfin : (T j).2.2.2 = false) {ty : FieldType} {v : Value} (hd : parseFieldDescriptor (T j).2.2.1 = some ty) (he : h a = some (.inr (ci, fs))) (hn : narrow ty v = v) (hfit : fits ty v = true) (hlen : j < fs.length) (hdg : decode cc pc = .ok (.putfield index, 3)) (hp : pc + 3 = pc') (kk : ∀ h1 : qH, h1 a = some (.inr (ci, fs.set j v)) → (∀ q, q ≠ a → h1 q = h q) → qG X k n z h1 pc' L st) : qG X k n z h pc L (v :: .ref a :: st) := by
  obtain ⟨D0, b0, p, l0, e, R0, s, m, args, below, meth, c, nL0, Q⟩ := X
  obtain ⟨rfl, rfl, rfl, rfl, rfl, hx, hb, hml, hown, hts, hK, hbs⟩ := C
  subst hp
  intro H locs ls hP hS hl
  have hPo := hP.one he
  have hDo := hP.oneD he
  have hap := va_apart (own := own) hts hin ty0 hty hnm hK.1 hc
  obtain ⟨r, h1, cell, q1, q2, q3, q4⟩ := hPo 0 _ rfl
  have hr : r = (Cn, T, N) := Option.some.inj (h1.symm.trans hc)
  subst hr
  obtain ⟨hSS, hfc, kC, hkC, hkind⟩ := hK.1.1 ci _ hc
  obtain ⟨cf, kf, fi, f, hi, hsl⟩ := hSS j hj
  have hlay := hts _ (hin _ (u_in_lay hj))
  unfold u_lay at hlay
  rw [if_neg (by rw [hfin]; decide)] at hlay
  have hst := (u_facts hfc hkC (u_lays hts hin hj) hi).1
  have h6 := u_store hfc hkC hkind hlay hi hd hn hfit
  refine W.putK hx hb (f := f) ⟨hown, hts _ hw, ⟨_, _, _, hsame _ _ hts _ hi⟩, hst⟩ (by rw [q2]; exact h6) q1 q3 (by rw [hsl]; exact k2_hasslot (q4 j hj)) rfl rfl hdg fun H' e1 e2 e3 => ?_
  rw [hsl] at e1 ⊢
  exact kk _ q_at (fun q hq => q_ne hq) H' _ ls (hP.set he ⟨_, hc, t_OB.to (V := updV (vp_V fs) j v) ⟨_, e1, q2, q3, t_set q4 hap hj v⟩ (fun i _ => vp_updV_set hlen v i)⟩ e2 e3) (hS.put e2 e3 (hDo.2 0 _ rfl)) hl
theorem g_putN (C : qC X D b l R cc own nL) {ref Cn : String} {T : u_T} {N ci index : Nat} {a : Nat} {fs : List Value} {host : String} (hin : ∀ w ∈ u_ws Cn T N, w ∈ AW) (ty0 : Nat → FieldType) (hty : ∀ k, k < N → parseFieldDescriptor (T k).2.2.1 = some (ty0 k)) (hnm : ∀ a, a < N → ∀ b, b < N → a ≠ b → (T a).2.1 ≠ (T b).2.1) (hc : vwCl[ci]? = some (Cn, T, N)) (j : Nat) (hj : j < N) (hw : (own, index, ref, (T j).2.1, (T j).2.2.1, host) ∈ qNF) (hsame : ∀ (s : State) (args : Array Value), (∀ w ∈ AW, w.before args s = true) → ∀ x, s.fieldFound? (T j).1 (T j).2.1 (T j).2.2.1 = some x → s.fieldFound? ref (T j).2.1 (T j).2.2.1 = some x) (hfin : (T j).2.2.2 = false) {ty : FieldType} {v : Value} (hd : parseFieldDescriptor (T j).2.2.1 = some ty) (he : h a = some (.inr (ci, fs))) (hn : narrow ty v = v) (hfit : fits ty v = true) (hlen : j < fs.length) (hdg : decode cc pc = .ok (.putfield index, 3)) (hp : pc + 3 = pc') (kk : ∀ h1 : qH, h1 a = some (.inr (ci, fs.set j v)) → (∀ q, q ≠ a → h1 q = h q) → qG X k n z h1 pc' L st) : qG X k n z h pc L (v :: .ref a :: st) := by
  obtain ⟨D0, b0, p, l0, e, R0, s, m, args, below, meth, c, nL0, Q⟩ := X
  obtain ⟨rfl, rfl, rfl, rfl, rfl, hx, hb, hml, hown, hts, hK, hbs⟩ := C
  subst hp
  intro H locs ls hP hS hl
  have hPo := hP.one he
  have hDo := hP.oneD he
  have hap := va_apart (own := own) hts hin ty0 hty hnm hK.1 hc
  obtain ⟨r, h1, cell, q1, q2, q3, q4⟩ := hPo 0 _ rfl
  have hr : r = (Cn, T, N) := Option.some.inj (h1.symm.trans hc)
  subst hr
  obtain ⟨hSS, hfc, kC, hkC, hkind⟩ := hK.1.1 ci _ hc
  obtain ⟨cf, kf, fi, f, hi, hsl⟩ := hSS j hj
  have hlay := hts _ (hin _ (u_in_lay hj))
  unfold u_lay at hlay
  rw [if_neg (by rw [hfin]; decide)] at hlay
  have hst := (u_facts hfc hkC (u_lays hts hin hj) hi).1
  have h6 := u_store hfc hkC hkind hlay hi hd hn hfit
  refine va_WputK hx hb (f := f) hown (va_Nw.use rfl (hK.2.1 _ hw)) (hsame _ _ hts _ hi) hst (by rw [q2]; exact h6) q1 q3 (by rw [hsl]; exact k2_hasslot (q4 j hj)) rfl rfl hdg fun H' e1 e2 e3 => ?_
  rw [hsl] at e1 ⊢
  exact kk _ q_at (fun q hq => q_ne hq) H' _ ls (hP.set he ⟨_, hc, t_OB.to (V := updV (vp_V fs) j v) ⟨_, e1, q2, q3, t_set q4 hap hj v⟩ (fun i _ => vp_updV_set hlen v i)⟩ e2 e3) (hS.put e2 e3 (hDo.2 0 _ rfl)) hl
theorem g_putF (C : qC X D b l R cc own nL) {ref Cn : String} {T : u_T} {N ci index : Nat} {a : Nat} {fs : List Value} (hin : ∀ w ∈ u_ws Cn T N, w ∈ AW) (ty0 : Nat → FieldType) (hty : ∀ k, k < N → parseFieldDescriptor (T k).2.2.1 = some (ty0 k)) (hnm : ∀ a, a < N → ∀ b, b < N → a ≠ b → (T a).2.1 ≠ (T b).2.1) (hc : vwCl[ci]? = some (Cn, T, N)) (j : Nat) (hj : j < N) (hw : Cond.fieldLink own index ref (T j).2.1 (T j).2.2.1 ∈ AW) (hsame : ∀ (s : State) (args : Array Value), (∀ w ∈ AW, w.before args s = true) → ∀ x, s.fieldFound? (T j).1 (T j).2.1 (T j).2.2.1 = some x → s.fieldFound? ref (T j).2.1 (T j).2.2.1 = some x) (hfin : (T j).2.2.2 = true) (hin2 : X.2.2.2.2.2.2.2.2.2.2.1.name = "<init>") (hdecl : (T j).1 = own) {ty : FieldType} {v : Value} (hd : parseFieldDescriptor (T j).2.2.1 = some ty) (he : h a = some (.inr (ci, fs))) (hn : narrow ty v = v) (hfit : fits ty v = true) (hlen : j < fs.length) (hdg : decode cc pc = .ok (.putfield index, 3)) (hp : pc + 3 = pc') (kk : ∀ h1 : qH, h1 a = some (.inr (ci, fs.set j v)) → (∀ q, q ≠ a → h1 q = h q) → qG X k n z h1 pc' L st) : qG X k n z h pc L (v :: .ref a :: st) := by
  obtain ⟨D0, b0, p, l0, e, R0, s, m, args, below, meth, c, nL0, Q⟩ := X
  obtain ⟨rfl, rfl, rfl, rfl, rfl, hx, hb, hml, hown, hts, hK, hbs⟩ := C
  subst hp
  intro H locs ls hP hS hl
  have hPo := hP.one he
  have hDo := hP.oneD he
  have hap := va_apart (own := own) hts hin ty0 hty hnm hK.1 hc
  obtain ⟨r, h1, cell, q1, q2, q3, q4⟩ := hPo 0 _ rfl
  have hr : r = (Cn, T, N) := Option.some.inj (h1.symm.trans hc)
  subst hr
  obtain ⟨hSS, hfc, kC, hkC, hkind⟩ := hK.1.1 ci _ hc
  obtain ⟨cf, kf, fi, f, hi, hsl⟩ := hSS j hj
  have hlay := hts _ (hin _ (u_in_lay hj))
  unfold u_lay at hlay
  rw [if_pos hfin] at hlay
  have hst := (u_facts hfc hkC (u_lays hts hin hj) hi).1
  have hcf : m.cls = cf := by
    obtain ⟨_, _, c', _, _, _, -, -, hf', -, -, -, hown2, -⟩ := Cond.laysFinal_spec hlay
    have e1 : c' = cf := by have := hi.symm.trans hf'; simp at this; exact this.1.symm
    rw [hdecl] at hown2
    rw [← e1]; exact Option.some.inj (hown.symm.trans hown2)
  have h6 := u_fits hfc hkC hkind (Or.inr hlay) hi hd hn hfit
  refine W.putFinK hx hb hown (hts _ hw) (hsame _ _ hts _ hi) hst hcf hin2 (by rw [q2]; exact h6) q1 q3 (by rw [hsl]; exact k2_hasslot (q4 j hj)) rfl rfl hdg fun H' e1 e2 e3 => ?_
  rw [hsl] at e1 ⊢
  exact kk _ q_at (fun q hq => q_ne hq) H' _ ls (hP.set he ⟨_, hc, t_OB.to (V := updV (vp_V fs) j v) ⟨_, e1, q2, q3, t_set q4 hap hj v⟩ (fun i _ => vp_updV_set hlen v i)⟩ e2 e3) (hS.put e2 e3 (hDo.2 0 _ rfl)) hl
theorem g_iald (C : qC X D b l R cc own nL) {a N : Nat} {f : Nat → Int32} {i : Int32} (he : h a = some (cI D N f)) (hin : vp_in i N) (hdg : decode cc pc = .ok (.iaload, 1)) (hp : pc + 1 = pc') (kk : qG X k n z h pc' L (.int (f i.toNatClampNeg) :: st)) : qG X k n z h pc L (.int i :: .ref a :: st) := by
  obtain ⟨D0, b0, p, l0, e, R0, s, m, args, below, meth, c, nL0, Q⟩ := X
  obtain ⟨rfl, rfl, rfl, rfl, rfl, hx, hb, hml, hown, hts, hK, hbs⟩ := C
  subst hp
  intro H locs ls hP hS hl
  exact va_iald hx hb hK.1 (hP.one he) 0 0 rfl rfl hin hdg (kk H locs ls hP hS hl)
theorem g_bald (C : qC X D b l R cc own nL) {a N : Nat} {f : Nat → Int32} {i : Int32} (he : h a = some (cB D N f)) (hin : vp_in i N) (hdg : decode cc pc = .ok (.baload, 1)) (hp : pc + 1 = pc') (kk : qG X k n z h pc' L (.int (f i.toNatClampNeg) :: st)) : qG X k n z h pc L (.int i :: .ref a :: st) := by
  obtain ⟨D0, b0, p, l0, e, R0, s, m, args, below, meth, c, nL0, Q⟩ := X
  obtain ⟨rfl, rfl, rfl, rfl, rfl, hx, hb, hml, hown, hts, hK, hbs⟩ := C
  subst hp
  intro H locs ls hP hS hl
  exact va_bald hx hb hK.1 (hP.one he) 0 2 rfl rfl hin hdg (kk H locs ls hP hS hl)
theorem g_lald (C : qC X D b l R cc own nL) {a N : Nat} {f : Nat → Int64} {i : Int32} (he : h a = some (cJ D N f)) (hin : vp_in i N) (hdg : decode cc pc = .ok (.laload, 1)) (hp : pc + 1 = pc') (kk : qG X k n z h pc' L (.long (f i.toNatClampNeg) :: st)) : qG X k n z h pc L (.int i :: .ref a :: st) := by
  obtain ⟨D0, b0, p, l0, e, R0, s, m, args, below, meth, c, nL0, Q⟩ := X
  obtain ⟨rfl, rfl, rfl, rfl, rfl, hx, hb, hml, hown, hts, hK, hbs⟩ := C
  subst hp
  intro H locs ls hP hS hl
  exact va_lald hx hb hK.1 (hP.one he) 0 1 rfl rfl hin hdg (kk H locs ls hP hS hl)
theorem g_aald (C : qC X D b l R cc own nL) {a N : Nat} {f : Nat → Option Nat} {i : Int32} (he : h a = some (cQ D N f)) (hin : vp_in i N) (hdg : decode cc pc = .ok (.aaload, 1)) (hp : pc + 1 = pc') (kk : qG X k n z h pc' L (va_rf (f i.toNatClampNeg) :: st)) : qG X k n z h pc L (.int i :: .ref a :: st) := by
  obtain ⟨D0, b0, p, l0, e, R0, s, m, args, below, meth, c, nL0, Q⟩ := X
  obtain ⟨rfl, rfl, rfl, rfl, rfl, hx, hb, hml, hown, hts, hK, hbs⟩ := C
  subst hp
  intro H locs ls hP hS hl
  have hlt : i.toNatClampNeg < N := Nat.not_le.mp fun q => hin (Or.inr q)
  exact W.aald (v := va_rf (f i.toNatClampNeg)) (ty := .object "EarlyGauge$Keeper") hx hb (hP.one he 0 _ rfl) ((hK.1.2 3 _ rfl).1 N (fun j => va_rf (f j))) rfl (fun q => by cases q) (by show ¬ (i < 0 ∨ (arrV _ _ _).slots.size ≤ _); rw [arrV_size]; exact hin) (by show (arrV _ _ _).slots[_]? = _; rw [arrV_read _ _ hlt]) rfl rfl hdg (kk H locs ls hP hS hl)
theorem g_aaldI (C : qC X D b l R cc own nL) {a N : Nat} {f : Nat → Option Nat} {i : Int32} (he : h a = some (cII D N f)) (hin : vp_in i N) (hdg : decode cc pc = .ok (.aaload, 1)) (hp : pc + 1 = pc') (kk : qG X k n z h pc' L (va_rf (f i.toNatClampNeg) :: st)) : qG X k n z h pc L (.int i :: .ref a :: st) := by
  obtain ⟨D0, b0, p, l0, e, R0, s, m, args, below, meth, c, nL0, Q⟩ := X
  obtain ⟨rfl, rfl, rfl, rfl, rfl, hx, hb, hml, hown, hts, hK, hbs⟩ := C
  subst hp
  intro H locs ls hP hS hl
  have hlt : i.toNatClampNeg < N := Nat.not_le.mp fun q => hin (Or.inr q)
  exact W.aald (v := va_rf (f i.toNatClampNeg)) (ty := .array .int) hx hb (hP.one he 0 _ rfl) ((hK.1.2 4 _ rfl).1 N (fun j => va_rf (f j))) rfl (fun q => by cases q) (by show ¬ (i < 0 ∨ (arrV _ _ _).slots.size ≤ _); rw [arrV_size]; exact hin) (by show (arrV _ _ _).slots[_]? = _; rw [arrV_read _ _ hlt]) rfl rfl hdg (kk H locs ls hP hS hl)
theorem g_aaldJ (C : qC X D b l R cc own nL) {a N : Nat} {f : Nat → Option Nat} {i : Int32} (he : h a = some (cJJ D N f)) (hin : vp_in i N) (hdg : decode cc pc = .ok (.aaload, 1)) (hp : pc + 1 = pc') (kk : qG X k n z h pc' L (va_rf (f i.toNatClampNeg) :: st)) : qG X k n z h pc L (.int i :: .ref a :: st) := by
  obtain ⟨D0, b0, p, l0, e, R0, s, m, args, below, meth, c, nL0, Q⟩ := X
  obtain ⟨rfl, rfl, rfl, rfl, rfl, hx, hb, hml, hown, hts, hK, hbs⟩ := C
  subst hp
  intro H locs ls hP hS hl
  have hlt : i.toNatClampNeg < N := Nat.not_le.mp fun q => hin (Or.inr q)
  exact W.aald (v := va_rf (f i.toNatClampNeg)) (ty := .array .long) hx hb (hP.one he 0 _ rfl) ((hK.1.2 5 _ rfl).1 N (fun j => va_rf (f j))) rfl (fun q => by cases q) (by show ¬ (i < 0 ∨ (arrV _ _ _).slots.size ≤ _); rw [arrV_size]; exact hin) (by show (arrV _ _ _).slots[_]? = _; rw [arrV_read _ _ hlt]) rfl rfl hdg (kk H locs ls hP hS hl)
theorem g_iast (C : qC X D b l R cc own nL) {a N : Nat} {f : Nat → Int32} {i : Int32} {x : Int32} (he : h a = some (cI D N f)) (hin : vp_in i N) (hdg : decode cc pc = .ok (.iastore, 1)) (hp : pc + 1 = pc') (kk : ∀ h1 : qH, h1 a = some (cI D N (upd f i.toNatClampNeg x)) → (∀ q, q ≠ a → h1 q = h q) → qG X k n z h1 pc' L st) : qG X k n z h pc L (.int x :: .int i :: .ref a :: st) := by
  obtain ⟨D0, b0, p, l0, e, R0, s, m, args, below, meth, c, nL0, Q⟩ := X
  obtain ⟨rfl, rfl, rfl, rfl, rfl, hx, hb, hml, hown, hts, hK, hbs⟩ := C
  subst hp
  intro H locs ls hP hS hl
  have hPo := hP.one he
  have hDo := hP.oneD he
  refine W.iast hx hb (hPo 0 _ rfl) ((hK.1.2 0 _ rfl).1 N (fun j => .int (f j))) (fun q => by cases q) (by show ¬ (i < 0 ∨ (arrV _ _ _).slots.size ≤ _); rw [arrV_size]; exact hin) rfl rfl hdg fun H1 e z1 oq => ?_
  refine kk _ q_at (fun q hq => q_ne hq) H1 _ ls (hP.set he ?_ z1 oq) (hS.put z1 oq (hDo.2 0 _ rfl)) hl
  show H1[a]? = some (vp_cell _ _)
  rw [e]
  rw [vp_cell_i, vp_cell_i, arrV_store]
  congr 2
  funext q
  by_cases hq : q = i.toNatClampNeg
  · subst hq
    simp [updV, upd]
    try rfl
  · simp [updV, upd, hq]
theorem g_bast (C : qC X D b l R cc own nL) {a N : Nat} {f : Nat → Int32} {i : Int32} {x : Int32} (he : h a = some (cB D N f)) (hin : vp_in i N) (hdg : decode cc pc = .ok (.bastore, 1)) (hp : pc + 1 = pc') (kk : ∀ h1 : qH, h1 a = some (cB D N (upd f i.toNatClampNeg (vp_nar .byte x))) → (∀ q, q ≠ a → h1 q = h q) → qG X k n z h1 pc' L st) : qG X k n z h pc L (.int x :: .int i :: .ref a :: st) := by
  obtain ⟨D0, b0, p, l0, e, R0, s, m, args, below, meth, c, nL0, Q⟩ := X
  obtain ⟨rfl, rfl, rfl, rfl, rfl, hx, hb, hml, hown, hts, hK, hbs⟩ := C
  subst hp
  intro H locs ls hP hS hl
  have hPo := hP.one he
  have hDo := hP.oneD he
  refine W.bast hx hb (hPo 0 _ rfl) ((hK.1.2 2 _ rfl).1 N (fun j => .int (f j))) (fun q => by cases q) (by show ¬ (i < 0 ∨ (arrV _ _ _).slots.size ≤ _); rw [arrV_size]; exact hin) rfl rfl hdg fun H1 e z1 oq => ?_
  refine kk _ q_at (fun q hq => q_ne hq) H1 _ ls (hP.set he ?_ z1 oq) (hS.put z1 oq (hDo.2 0 _ rfl)) hl
  show H1[a]? = some (vp_cell _ _)
  rw [e]
  rw [vp_cell_i, vp_cell_i, arrV_store]
  congr 2
  funext q
  by_cases hq : q = i.toNatClampNeg
  · subst hq
    simp [updV, upd, vp_nar]
    try rfl
  · simp [updV, upd, vp_nar, hq]
theorem g_last (C : qC X D b l R cc own nL) {a N : Nat} {f : Nat → Int64} {i : Int32} {x : Int64} (he : h a = some (cJ D N f)) (hin : vp_in i N) (hdg : decode cc pc = .ok (.lastore, 1)) (hp : pc + 1 = pc') (kk : ∀ h1 : qH, h1 a = some (cJ D N (vp_updL f i.toNatClampNeg x)) → (∀ q, q ≠ a → h1 q = h q) → qG X k n z h1 pc' L st) : qG X k n z h pc L (.long x :: .int i :: .ref a :: st) := by
  obtain ⟨D0, b0, p, l0, e, R0, s, m, args, below, meth, c, nL0, Q⟩ := X
  obtain ⟨rfl, rfl, rfl, rfl, rfl, hx, hb, hml, hown, hts, hK, hbs⟩ := C
  subst hp
  intro H locs ls hP hS hl
  have hPo := hP.one he
  have hDo := hP.oneD he
  refine W.last hx hb (hPo 0 _ rfl) ((hK.1.2 1 _ rfl).1 N (fun j => .long (f j))) (fun q => by cases q) (by show ¬ (i < 0 ∨ (arrV _ _ _).slots.size ≤ _); rw [arrV_size]; exact hin) rfl rfl hdg fun H1 e z1 oq => ?_
  refine kk _ q_at (fun q hq => q_ne hq) H1 _ ls (hP.set he ?_ z1 oq) (hS.put z1 oq (hDo.2 0 _ rfl)) hl
  show H1[a]? = some (vp_cell _ _)
  rw [e]
  rw [vp_cell_l, vp_cell_l, arrV_store]
  congr 2
  funext q
  by_cases hq : q = i.toNatClampNeg
  · subst hq
    simp [updV, vp_updL]
    try rfl
  · simp [updV, vp_updL, hq]
theorem g_alenQ (C : qC X D b l R cc own nL) {a N : Nat} {f : Nat → Option Nat} {v : Int32} (he : h a = some (cQ D N f)) (hv : Int32.ofNat N = v) (hdg : decode cc pc = .ok (.arraylength, 1)) (hp : pc + 1 = pc') (kk : qG X k n z h pc' L (.int v :: st)) : qG X k n z h pc L (.ref a :: st) := by
  obtain ⟨D0, b0, p, l0, e, R0, s, m, args, below, meth, c, nL0, Q⟩ := X
  obtain ⟨rfl, rfl, rfl, rfl, rfl, hx, hb, hml, hown, hts, hK, hbs⟩ := C
  subst hp
  intro H locs ls hP hS hl
  exact va_alen hx hb hK.1 (hP.one he) 0 3 rfl rfl hv hdg (kk H locs ls hP hS hl)
end QG
theorem AW_good : ∀ w ∈ AW, goodWord w = true := fun _ h => (List.mem_filter.mp h).2
theorem AW_in {y : MethodName} {c : ByteArray} {nl : Nat} {r : Option FieldType} (hc : Cond.code y c nl r ∈ AW) : GoodIn AW (wm y c nl r) := by
  intro w hw
  have hm : w ∈ AW := by
    rcases List.mem_cons.mp hw with rfl | h
    · exact hc
    · exact h
  exact ⟨hm, good_of_word (AW_good w hm)⟩
theorem AW_app {a w : List Cond} (ha : ∀ x ∈ a, x ∈ AW) (hw : GoodIn AW w) : GoodIn AW (a ++ w) := fun x hx => (List.mem_append.mp hx).elim (fun h => ⟨ha x h, good_of_word (AW_good x (ha x h))⟩) (hw x)
def qRm (f lo : Nat) : Room := { frames := f, cells := 0, slots := 0, locals := lo }
def qPre (D : va_G) (b : Nat) (h : qH) (z : Nat) : State → Prop := fun U => qP D b h z U.heap ∧ qK D U
theorem qBlind {D : va_G} {b : Nat} {h : qH} {z : Nat} {av : List Value} : FrameBlind (va_Pc av (qPre D b h z)) := fun a U g mk q => by
  obtain ⟨q0, q1, q2⟩ := q
  exact ⟨q0, q1, q2.same (u := U) (U := U.calling g mk a) rfl⟩
def qB (D : va_G) (b z : Nat) : qH → State → Prop := fun h' t => qP D b h' z t.heap
def qMi (l : Launch) (D : va_G) (b : Nat) (y : MethodName) (c : ByteArray) (nl : Nat) (rt : FieldType) (f lo : Nat) (av : List Value) (h : qH) (z : Nat) (post : Int32 → qH → Prop) : Prop := Met l y (wm y c nl (some rt)) (qRm f lo) (va_Pc av (qPre D b h z)) (va_Qi post (qB D b z) (qA b)) 0 0 (qA b)
def qMl (l : Launch) (D : va_G) (b : Nat) (y : MethodName) (c : ByteArray) (nl : Nat) (f lo : Nat) (av : List Value) (h : qH) (z : Nat) (post : Int64 → qH → Prop) : Prop := Met l y (wm y c nl (some .long)) (qRm f lo) (va_Pc av (qPre D b h z)) (va_Ql post (qB D b z) (qA b)) 0 0 (qA b)
def qMv (l : Launch) (D : va_G) (b : Nat) (y : MethodName) (c : ByteArray) (nl : Nat) (f lo : Nat) (av : List Value) (h : qH) (z : Nat) (post : qH → Prop) : Prop := Met l y (wm y c nl none) (qRm f lo) (va_Pc av (qPre D b h z)) (va_Qv post (qB D b z) (qA b)) 0 0 (qA b)
def qMq (l : Launch) (D : va_G) (b : Nat) (y : MethodName) (c : ByteArray) (nl : Nat) (rt : FieldType) (f lo : Nat) (av : List Value) (h : qH) (z : Nat) (post : Option Nat → qH → Prop) : Prop := Met l y (wm y c nl (some rt)) (qRm f lo) (va_Pc av (qPre D b h z)) (va_Qq post (qB D b z) (qA b)) 0 0 (qA b)
def qMc (l : Launch) (D : va_G) (b : Nat) (y : MethodName) (c : ByteArray) (nl : Nat) (f lo mc ms : Nat) (av : List Value) (h : qH) (z : Nat) (post : qH → Prop) : Prop := Met l y (wm y c nl none) ({ frames := f, cells := mc, slots := ms, locals := lo }) (va_Pc av (qPre D b h z)) (va_Qv post (qB D b (z + mc)) (qA b)) mc ms (qA b)
def qWV (own : String) (index : Nat) (Cn : String) (y : MethodName) (c : ByteArray) (nl : Nat) (r : Option FieldType) (na : Nat) : Prop := (Cond.methodLink own index y ∈ AW ∧ Cond.instanceMethod y ∈ AW ∧ Cond.selects Cn y y ∈ AW ∧ Cond.initialized Cn ∈ AW ∧ Cond.code y c nl r ∈ AW) ∧ y.cls = Cn ∧ y.cls ≠ "java/lang/invoke/MethodHandle" ∧ y.cls ≠ "java/lang/invoke/VarHandle" ∧ (parseMethodDescriptor y.desc).map (fun d => d.parameters.length) = some na
def qWS (own : String) (index : Nat) (y : MethodName) (c : ByteArray) (nl : Nat) (r : Option FieldType) (na : Nat) : Prop := (Cond.methodLink own index y ∈ AW ∧ Cond.static y ∈ AW ∧ Cond.initialized y.cls ∈ AW ∧ Cond.code y c nl r ∈ AW) ∧ y.cls ≠ "java/lang/invoke/MethodHandle" ∧ y.cls ≠ "java/lang/invoke/VarHandle" ∧ (parseMethodDescriptor y.desc).map (fun d => d.parameters.length) = some na
def qWSN (own : String) (index : Nat) (host : String) (y : MethodName) (c : ByteArray) (nl : Nat) (r : Option FieldType) (na : Nat) : Prop := ((own, index, y, host) ∈ qNM ∧ Cond.static y ∈ AW ∧ Cond.initialized y.cls ∈ AW ∧ Cond.code y c nl r ∈ AW) ∧ y.cls ≠ "java/lang/invoke/MethodHandle" ∧ y.cls ≠ "java/lang/invoke/VarHandle" ∧ (parseMethodDescriptor y.desc).map (fun d => d.parameters.length) = some na
def qWI (own : String) (index : Nat) (y : MethodName) (c : ByteArray) (nl : Nat) (na : Nat) : Prop := (Cond.methodLink own index y ∈ AW ∧ Cond.instanceMethod y ∈ AW ∧ Cond.initialized y.cls ∈ AW ∧ Cond.code y c nl none ∈ AW) ∧ y.name = "<init>" ∧ y.cls ≠ "java/lang/invoke/MethodHandle" ∧ y.cls ≠ "java/lang/invoke/VarHandle" ∧ (parseMethodDescriptor y.desc).map (fun d => d.parameters.length) = some na
def qWIN (own : String) (index : Nat) (host : String) (y : MethodName) (c : ByteArray) (nl : Nat) (na : Nat) : Prop := ((own, index, y, host) ∈ qNM ∧ Cond.instanceMethod y ∈ AW ∧ Cond.initialized y.cls ∈ AW ∧ Cond.code y c nl none ∈ AW) ∧ y.name = "<init>" ∧ y.cls ≠ "java/lang/invoke/MethodHandle" ∧ y.cls ≠ "java/lang/invoke/VarHandle" ∧ (parseMethodDescriptor y.desc).map (fun d => d.parameters.length) = some na
def qWSU (own : String) (index : Nat) (y : MethodName) (c : ByteArray) (nl : Nat) (r : Option FieldType) (na : Nat) : Prop := (Cond.methodLink own index y ∈ AW ∧ Cond.sameMethod y.cls y.cls y.name y.desc ∈ AW ∧ Cond.superclass own y.cls ∈ AW ∧ Cond.instanceMethod y ∈ AW ∧ Cond.initialized y.cls ∈ AW ∧ Cond.code y c nl r ∈ AW) ∧ y.name ≠ "<init>" ∧ (parseMethodDescriptor y.desc).map (fun d => d.parameters.length) = some na
def qWU (own : String) (index : Nat) (Cn owner : String) (x y : MethodName) (c : ByteArray) (nl : Nat) (r : Option FieldType) (na : Nat) : Prop := (Cond.methodLink own index x ∈ AW ∧ Cond.sameMethod x.cls owner x.name x.desc ∈ AW ∧ Cond.selects Cn x y ∈ AW ∧ Cond.instanceMethod y ∈ AW ∧ Cond.initialized y.cls ∈ AW ∧ Cond.code y c nl r ∈ AW) ∧ y = ⟨owner, x.name, x.desc⟩ ∧ owner ≠ "java/lang/invoke/MethodHandle" ∧ owner ≠ "java/lang/invoke/VarHandle" ∧ (parseMethodDescriptor x.desc).map (fun d => d.parameters.length) = some na
def qWO (own : String) (index : Nat) (Cn owner : String) (x y : MethodName) (c : ByteArray) (nl : Nat) (r : Option FieldType) (b0 : ByteArray) (m0 : Nat) (r0 : Option FieldType) (na : Nat) : Prop := (Cond.methodLink own index x ∈ AW ∧ Cond.sameMethod x.cls owner x.name x.desc ∈ AW ∧ Cond.instanceMethod ⟨owner, x.name, x.desc⟩ ∈ AW ∧ Cond.selects Cn x y ∈ AW ∧ Cond.instanceMethod y ∈ AW ∧ Cond.initialized y.cls ∈ AW ∧ Cond.code y c nl r ∈ AW ∧ Cond.code ⟨owner, x.name, x.desc⟩ b0 m0 r0 ∈ AW) ∧ owner ≠ "java/lang/invoke/MethodHandle" ∧ owner ≠ "java/lang/invoke/VarHandle" ∧ (parseMethodDescriptor x.desc).map (fun d => d.parameters.length) = some na
section QCALL
variable {X : qX} {D : va_G} {b : Nat} {l : Launch} {R : Room} {cc : ByteArray} {own : String} {nL : Nat} {k n z : Nat} {h : qH} {pc pc' : Nat} {L : List (Nat × Value)} {st stk : List Value}
variable {y : MethodName} {cy : ByteArray} {nl f lo mc ms na index : Nat} {rt : FieldType} {As : List Value}
theorem g_callVi (C : qC X D b l R cc own nL) {post : Int32 → qH → Prop} {a : Nat} {ci : Nat} {fs : List Value} {q : vw_C} (hM : qMi l D b y cy nl rt f lo (.ref a :: As) h z post) (hw : qWV own index q.1 y cy nl (some rt) na) (he : h a = some (.inr (ci, fs))) (hcl : vwCl[ci]? = some q) (hR : f + 1 ≤ R.frames ∧ 8 + (nl + 11) + lo ≤ R.locals) (hn : As.length = na) (hstk : stk = As.reverse ++ .ref a :: st) (hcat : (st.map fun v => v.category).sum ≤ 8) (hf : k ≤ R.cells ∧ n ≤ R.slots) (hdg : decode cc pc = .ok (.invokevirtual index, 3)) (hp : pc + 3 = pc') (kk : ∀ r h1, post r h1 → qG X k n z h1 pc' L (.int r :: st)) : qG X k n z h pc L stk := by
  obtain ⟨D0, b0, p, l0, e, R0, s, m, args, below, meth, c, nL0, Q⟩ := X
  obtain ⟨rfl, rfl, rfl, rfl, rfl, hx, hb, hml, hown, hts, hK, hbs⟩ := C
  subst hp
  intro H locs ls hP hS hl
  exact va_calli (va_runV (As := As) (rest := st) ⟨hx, hb, hml, hown, hts⟩ hM (cwV na hts (AW_app (a := [.methodLink own index y, .instanceMethod y, .selects q.1 y y, .initialized q.1]) (by intro w hw'; simp only [List.mem_cons, List.not_mem_nil, or_false] at hw'; rcases hw' with rfl | rfl | rfl | rfl <;> first | exact hw.1.1 | exact hw.1.2.1 | exact hw.1.2.2.1 | exact hw.1.2.2.2.1) (AW_in hw.1.2.2.2.2)) rfl rfl rfl hw.2 hR) ⟨qBlind, va_recv hK.1 (hP.one he) hcl (q0 := 0) rfl, fun U hU hW => ⟨rfl, by rw [hU]; exact hP, hK.warm hW⟩⟩ rfl hn hl.1 hstk (lv_room hcat) hdg ⟨hf.1, hf.2⟩) hS (fun q _ h => h) (fun q h => h) (fun r u t H1 locs ht hvm hpost hB hz hkeep hS => kk r u hpost H1 locs ls (by rw [← ht]; exact hB) hS hl)
theorem g_callVl (C : qC X D b l R cc own nL) {post : Int64 → qH → Prop} {a : Nat} {ci : Nat} {fs : List Value} {q : vw_C} (hM : qMl l D b y cy nl f lo (.ref a :: As) h z post) (hw : qWV own index q.1 y cy nl (some .long) na) (he : h a = some (.inr (ci, fs))) (hcl : vwCl[ci]? = some q) (hR : f + 1 ≤ R.frames ∧ 8 + (nl + 11) + lo ≤ R.locals) (hn : As.length = na) (hstk : stk = As.reverse ++ .ref a :: st) (hcat : (st.map fun v => v.category).sum ≤ 8) (hf : k ≤ R.cells ∧ n ≤ R.slots) (hdg : decode cc pc = .ok (.invokevirtual index, 3)) (hp : pc + 3 = pc') (kk : ∀ r h1, post r h1 → qG X k n z h1 pc' L (.long r :: st)) : qG X k n z h pc L stk := by
  obtain ⟨D0, b0, p, l0, e, R0, s, m, args, below, meth, c, nL0, Q⟩ := X
  obtain ⟨rfl, rfl, rfl, rfl, rfl, hx, hb, hml, hown, hts, hK, hbs⟩ := C
  subst hp
  intro H locs ls hP hS hl
  exact va_calll (va_runV (As := As) (rest := st) ⟨hx, hb, hml, hown, hts⟩ hM (cwV na hts (AW_app (a := [.methodLink own index y, .instanceMethod y, .selects q.1 y y, .initialized q.1]) (by intro w hw'; simp only [List.mem_cons, List.not_mem_nil, or_false] at hw'; rcases hw' with rfl | rfl | rfl | rfl <;> first | exact hw.1.1 | exact hw.1.2.1 | exact hw.1.2.2.1 | exact hw.1.2.2.2.1) (AW_in hw.1.2.2.2.2)) rfl rfl rfl hw.2 hR) ⟨qBlind, va_recv hK.1 (hP.one he) hcl (q0 := 0) rfl, fun U hU hW => ⟨rfl, by rw [hU]; exact hP, hK.warm hW⟩⟩ rfl hn hl.1 hstk (lv_room hcat) hdg ⟨hf.1, hf.2⟩) hS (fun q _ h => h) (fun q h => h) (fun r u t H1 locs ht hvm hpost hB hz hkeep hS => kk r u hpost H1 locs ls (by rw [← ht]; exact hB) hS hl)
theorem g_callVv (C : qC X D b l R cc own nL) {post : qH → Prop} {a : Nat} {ci : Nat} {fs : List Value} {q : vw_C} (hM : qMv l D b y cy nl f lo (.ref a :: As) h z post) (hw : qWV own index q.1 y cy nl none na) (he : h a = some (.inr (ci, fs))) (hcl : vwCl[ci]? = some q) (hR : f + 1 ≤ R.frames ∧ 8 + (nl + 11) + lo ≤ R.locals) (hn : As.length = na) (hstk : stk = As.reverse ++ .ref a :: st) (hcat : (st.map fun v => v.category).sum ≤ 8) (hf : k ≤ R.cells ∧ n ≤ R.slots) (hdg : decode cc pc = .ok (.invokevirtual index, 3)) (hp : pc + 3 = pc') (kk : ∀ h1, post h1 → qG X k n z h1 pc' L (st)) : qG X k n z h pc L stk := by
  obtain ⟨D0, b0, p, l0, e, R0, s, m, args, below, meth, c, nL0, Q⟩ := X
  obtain ⟨rfl, rfl, rfl, rfl, rfl, hx, hb, hml, hown, hts, hK, hbs⟩ := C
  subst hp
  intro H locs ls hP hS hl
  exact va_callv (va_runV (As := As) (rest := st) ⟨hx, hb, hml, hown, hts⟩ hM (cwV na hts (AW_app (a := [.methodLink own index y, .instanceMethod y, .selects q.1 y y, .initialized q.1]) (by intro w hw'; simp only [List.mem_cons, List.not_mem_nil, or_false] at hw'; rcases hw' with rfl | rfl | rfl | rfl <;> first | exact hw.1.1 | exact hw.1.2.1 | exact hw.1.2.2.1 | exact hw.1.2.2.2.1) (AW_in hw.1.2.2.2.2)) rfl rfl rfl hw.2 hR) ⟨qBlind, va_recv hK.1 (hP.one he) hcl (q0 := 0) rfl, fun U hU hW => ⟨rfl, by rw [hU]; exact hP, hK.warm hW⟩⟩ rfl hn hl.1 hstk (lv_room hcat) hdg ⟨hf.1, hf.2⟩) hS (fun q _ h => h) (fun q h => h) (fun u t H1 locs ht hvm hpost hB hz hkeep hS => kk u hpost H1 locs ls (by rw [← ht]; exact hB) hS hl)
theorem g_callVq (C : qC X D b l R cc own nL) {post : Option Nat → qH → Prop} {a : Nat} {ci : Nat} {fs : List Value} {q : vw_C} (hM : qMq l D b y cy nl rt f lo (.ref a :: As) h z post) (hw : qWV own index q.1 y cy nl (some rt) na) (he : h a = some (.inr (ci, fs))) (hcl : vwCl[ci]? = some q) (hR : f + 1 ≤ R.frames ∧ 8 + (nl + 11) + lo ≤ R.locals) (hn : As.length = na) (hstk : stk = As.reverse ++ .ref a :: st) (hcat : (st.map fun v => v.category).sum ≤ 8) (hf : k ≤ R.cells ∧ n ≤ R.slots) (hdg : decode cc pc = .ok (.invokevirtual index, 3)) (hp : pc + 3 = pc') (kk : ∀ r h1, post r h1 → qG X k n z h1 pc' L (va_rf r :: st)) : qG X k n z h pc L stk := by
  obtain ⟨D0, b0, p, l0, e, R0, s, m, args, below, meth, c, nL0, Q⟩ := X
  obtain ⟨rfl, rfl, rfl, rfl, rfl, hx, hb, hml, hown, hts, hK, hbs⟩ := C
  subst hp
  intro H locs ls hP hS hl
  exact va_callq (va_runV (As := As) (rest := st) ⟨hx, hb, hml, hown, hts⟩ hM (cwV na hts (AW_app (a := [.methodLink own index y, .instanceMethod y, .selects q.1 y y, .initialized q.1]) (by intro w hw'; simp only [List.mem_cons, List.not_mem_nil, or_false] at hw'; rcases hw' with rfl | rfl | rfl | rfl <;> first | exact hw.1.1 | exact hw.1.2.1 | exact hw.1.2.2.1 | exact hw.1.2.2.2.1) (AW_in hw.1.2.2.2.2)) rfl rfl rfl hw.2 hR) ⟨qBlind, va_recv hK.1 (hP.one he) hcl (q0 := 0) rfl, fun U hU hW => ⟨rfl, by rw [hU]; exact hP, hK.warm hW⟩⟩ rfl hn hl.1 hstk (lv_room hcat) hdg ⟨hf.1, hf.2⟩) hS (fun q _ h => h) (fun q h => h) (fun r u t H1 locs ht hvm hpost hB hz hkeep hS => kk r u hpost H1 locs ls (by rw [← ht]; exact hB) hS hl)
theorem g_callSi (C : qC X D b l R cc own nL) {post : Int32 → qH → Prop}  (hM : qMi l D b y cy nl rt f lo As h z post) (hw : qWS own index y cy nl (some rt) na)  (hR : f + 1 ≤ R.frames ∧ 8 + (nl + 11) + lo ≤ R.locals) (hn : As.length = na) (hstk : stk = As.reverse ++ st) (hcat : (st.map fun v => v.category).sum ≤ 8) (hf : k ≤ R.cells ∧ n ≤ R.slots) (hdg : decode cc pc = .ok (.invokestatic index, 3)) (hp : pc + 3 = pc') (kk : ∀ r h1, post r h1 → qG X k n z h1 pc' L (.int r :: st)) : qG X k n z h pc L stk := by
  obtain ⟨D0, b0, p, l0, e, R0, s, m, args, below, meth, c, nL0, Q⟩ := X
  obtain ⟨rfl, rfl, rfl, rfl, rfl, hx, hb, hml, hown, hts, hK, hbs⟩ := C
  subst hp
  intro H locs ls hP hS hl
  exact va_calli (va_runS (As := As) (rest := st) ⟨hx, hb, hml, hown, hts⟩ hM (va_cwS na hts (AW_app (a := [.methodLink own index y, .static y, .initialized y.cls]) (by intro w hw'; simp only [List.mem_cons, List.not_mem_nil, or_false] at hw'; rcases hw' with rfl | rfl | rfl <;> first | exact hw.1.1 | exact hw.1.2.1 | exact hw.1.2.2.1) (AW_in hw.1.2.2.2)) rfl rfl rfl hw.2 hR) ⟨qBlind, fun U hU hW => ⟨rfl, by rw [hU]; exact hP, hK.warm hW⟩⟩ rfl hn hl.1 hstk (lv_room hcat) hdg ⟨hf.1, hf.2⟩) hS (fun q _ h => h) (fun q h => h) (fun r u t H1 locs ht hvm hpost hB hz hkeep hS => kk r u hpost H1 locs ls (by rw [← ht]; exact hB) hS hl)
theorem g_callSl (C : qC X D b l R cc own nL) {post : Int64 → qH → Prop}  (hM : qMl l D b y cy nl f lo As h z post) (hw : qWS own index y cy nl (some .long) na)  (hR : f + 1 ≤ R.frames ∧ 8 + (nl + 11) + lo ≤ R.locals) (hn : As.length = na) (hstk : stk = As.reverse ++ st) (hcat : (st.map fun v => v.category).sum ≤ 8) (hf : k ≤ R.cells ∧ n ≤ R.slots) (hdg : decode cc pc = .ok (.invokestatic index, 3)) (hp : pc + 3 = pc') (kk : ∀ r h1, post r h1 → qG X k n z h1 pc' L (.long r :: st)) : qG X k n z h pc L stk := by
  obtain ⟨D0, b0, p, l0, e, R0, s, m, args, below, meth, c, nL0, Q⟩ := X
  obtain ⟨rfl, rfl, rfl, rfl, rfl, hx, hb, hml, hown, hts, hK, hbs⟩ := C
  subst hp
  intro H locs ls hP hS hl
  exact va_calll (va_runS (As := As) (rest := st) ⟨hx, hb, hml, hown, hts⟩ hM (va_cwS na hts (AW_app (a := [.methodLink own index y, .static y, .initialized y.cls]) (by intro w hw'; simp only [List.mem_cons, List.not_mem_nil, or_false] at hw'; rcases hw' with rfl | rfl | rfl <;> first | exact hw.1.1 | exact hw.1.2.1 | exact hw.1.2.2.1) (AW_in hw.1.2.2.2)) rfl rfl rfl hw.2 hR) ⟨qBlind, fun U hU hW => ⟨rfl, by rw [hU]; exact hP, hK.warm hW⟩⟩ rfl hn hl.1 hstk (lv_room hcat) hdg ⟨hf.1, hf.2⟩) hS (fun q _ h => h) (fun q h => h) (fun r u t H1 locs ht hvm hpost hB hz hkeep hS => kk r u hpost H1 locs ls (by rw [← ht]; exact hB) hS hl)
theorem g_callSq (C : qC X D b l R cc own nL) {post : Option Nat → qH → Prop}  (hM : qMq l D b y cy nl rt f lo As h z post) (hw : qWS own index y cy nl (some rt) na)  (hR : f + 1 ≤ R.frames ∧ 8 + (nl + 11) + lo ≤ R.locals) (hn : As.length = na) (hstk : stk = As.reverse ++ st) (hcat : (st.map fun v => v.category).sum ≤ 8) (hf : k ≤ R.cells ∧ n ≤ R.slots) (hdg : decode cc pc = .ok (.invokestatic index, 3)) (hp : pc + 3 = pc') (kk : ∀ r h1, post r h1 → qG X k n z h1 pc' L (va_rf r :: st)) : qG X k n z h pc L stk := by
  obtain ⟨D0, b0, p, l0, e, R0, s, m, args, below, meth, c, nL0, Q⟩ := X
  obtain ⟨rfl, rfl, rfl, rfl, rfl, hx, hb, hml, hown, hts, hK, hbs⟩ := C
  subst hp
  intro H locs ls hP hS hl
  exact va_callq (va_runS (As := As) (rest := st) ⟨hx, hb, hml, hown, hts⟩ hM (va_cwS na hts (AW_app (a := [.methodLink own index y, .static y, .initialized y.cls]) (by intro w hw'; simp only [List.mem_cons, List.not_mem_nil, or_false] at hw'; rcases hw' with rfl | rfl | rfl <;> first | exact hw.1.1 | exact hw.1.2.1 | exact hw.1.2.2.1) (AW_in hw.1.2.2.2)) rfl rfl rfl hw.2 hR) ⟨qBlind, fun U hU hW => ⟨rfl, by rw [hU]; exact hP, hK.warm hW⟩⟩ rfl hn hl.1 hstk (lv_room hcat) hdg ⟨hf.1, hf.2⟩) hS (fun q _ h => h) (fun q h => h) (fun r u t H1 locs ht hvm hpost hB hz hkeep hS => kk r u hpost H1 locs ls (by rw [← ht]; exact hB) hS hl)
theorem g_callSNi (C : qC X D b l R cc own nL) {post : Int32 → qH → Prop}  {host : String} (hM : qMi l D b y cy nl rt f lo As h z post) (hw : qWSN own index host y cy nl (some rt) na)  (hR : f + 1 ≤ R.frames ∧ 8 + (nl + 11) + lo ≤ R.locals) (hn : As.length = na) (hstk : stk = As.reverse ++ st) (hcat : (st.map fun v => v.category).sum ≤ 8) (hf : k ≤ R.cells ∧ n ≤ R.slots) (hdg : decode cc pc = .ok (.invokestatic index, 3)) (hp : pc + 3 = pc') (kk : ∀ r h1, post r h1 → qG X k n z h1 pc' L (.int r :: st)) : qG X k n z h pc L stk := by
  obtain ⟨D0, b0, p, l0, e, R0, s, m, args, below, meth, c, nL0, Q⟩ := X
  obtain ⟨rfl, rfl, rfl, rfl, rfl, hx, hb, hml, hown, hts, hK, hbs⟩ := C
  subst hp
  intro H locs ls hP hS hl
  exact va_calli (va_runSN (As := As) (rest := st) ⟨hx, hb, hml, hown, hts⟩ hM ⟨va_cnB na hts (AW_in hw.1.2.2.2) rfl rfl rfl (hK.2.2.1 _ hw.1.1) (hts _ hw.1.2.2.1) hw.2 hR, hts _ hw.1.2.1, trivial⟩ ⟨qBlind, fun U hU hW => ⟨rfl, by rw [hU]; exact hP, hK.warm hW⟩⟩ rfl hn hl.1 hstk (lv_room hcat) hdg ⟨hf.1, hf.2⟩) hS (fun q _ h => h) (fun q h => h) (fun r u t H1 locs ht hvm hpost hB hz hkeep hS => kk r u hpost H1 locs ls (by rw [← ht]; exact hB) hS hl)
theorem g_callIv (C : qC X D b l R cc own nL) {post : qH → Prop} {a : Nat} (hM : qMv l D b y cy nl f lo (.ref a :: As) h z post) (hw : qWI own index y cy nl na)  (hR : f + 1 ≤ R.frames ∧ 8 + (nl + 11) + lo ≤ R.locals) (hn : As.length = na) (hstk : stk = As.reverse ++ .ref a :: st) (hcat : (st.map fun v => v.category).sum ≤ 8) (hf : k ≤ R.cells ∧ n ≤ R.slots) (hdg : decode cc pc = .ok (.invokespecial index, 3)) (hp : pc + 3 = pc') (kk : ∀ h1, post h1 → qG X k n z h1 pc' L (st)) : qG X k n z h pc L stk := by
  obtain ⟨D0, b0, p, l0, e, R0, s, m, args, below, meth, c, nL0, Q⟩ := X
  obtain ⟨rfl, rfl, rfl, rfl, rfl, hx, hb, hml, hown, hts, hK, hbs⟩ := C
  subst hp
  intro H locs ls hP hS hl
  exact va_callv (va_runI (As := As) (rest := st) ⟨hx, hb, hml, hown, hts⟩ hM (cwI na hts (AW_in hw.1.2.2.2) rfl rfl rfl (hts _ hw.1.2.2.1) (hts _ hw.1.1) (hts _ hw.1.2.1) hw.2.1 hw.2.2 hR) ⟨qBlind, fun U hU hW => ⟨rfl, by rw [hU]; exact hP, hK.warm hW⟩⟩ rfl hn hl.1 hstk (lv_room hcat) hdg ⟨hf.1, hf.2⟩) hS (fun q _ h => h) (fun q h => h) (fun u t H1 locs ht hvm hpost hB hz hkeep hS => kk u hpost H1 locs ls (by rw [← ht]; exact hB) hS hl)
theorem g_callIc (C : qC X D b l R cc own nL) {post : qH → Prop} {a : Nat} (hM : qMc l D b y cy nl f lo mc ms (.ref a :: As) h z post) (hw : qWI own index y cy nl na)  (hR : f + 1 ≤ R.frames ∧ 8 + (nl + 11) + lo ≤ R.locals) (hn : As.length = na) (hstk : stk = As.reverse ++ .ref a :: st) (hcat : (st.map fun v => v.category).sum ≤ 8) (hf : k + mc ≤ R.cells ∧ n + ms ≤ R.slots) (hdg : decode cc pc = .ok (.invokespecial index, 3)) (hp : pc + 3 = pc') (kk : ∀ h1, post h1 → qG X (k + mc) (n + ms) (z + mc) h1 pc' L (st)) : qG X k n z h pc L stk := by
  obtain ⟨D0, b0, p, l0, e, R0, s, m, args, below, meth, c, nL0, Q⟩ := X
  obtain ⟨rfl, rfl, rfl, rfl, rfl, hx, hb, hml, hown, hts, hK, hbs⟩ := C
  subst hp
  intro H locs ls hP hS hl
  exact va_callv (va_runI (As := As) (rest := st) ⟨hx, hb, hml, hown, hts⟩ hM (cwI na hts (AW_in hw.1.2.2.2) rfl rfl rfl (hts _ hw.1.2.2.1) (hts _ hw.1.1) (hts _ hw.1.2.1) hw.2.1 hw.2.2 hR) ⟨qBlind, fun U hU hW => ⟨rfl, by rw [hU]; exact hP, hK.warm hW⟩⟩ rfl hn hl.1 hstk (lv_room hcat) hdg hf) hS (fun q _ h => h) (fun q h => h) (fun u t H1 locs ht hvm hpost hB hz hkeep hS => kk u hpost H1 locs ls (by rw [← ht]; exact hB) hS hl)
theorem g_callINc (C : qC X D b l R cc own nL) {post : qH → Prop} {a : Nat} {host : String} (hM : qMc l D b y cy nl f lo mc ms (.ref a :: As) h z post) (hw : qWIN own index host y cy nl na)  (hR : f + 1 ≤ R.frames ∧ 8 + (nl + 11) + lo ≤ R.locals) (hn : As.length = na) (hstk : stk = As.reverse ++ .ref a :: st) (hcat : (st.map fun v => v.category).sum ≤ 8) (hf : k + mc ≤ R.cells ∧ n + ms ≤ R.slots) (hdg : decode cc pc = .ok (.invokespecial index, 3)) (hp : pc + 3 = pc') (kk : ∀ h1, post h1 → qG X (k + mc) (n + ms) (z + mc) h1 pc' L (st)) : qG X k n z h pc L stk := by
  obtain ⟨D0, b0, p, l0, e, R0, s, m, args, below, meth, c, nL0, Q⟩ := X
  obtain ⟨rfl, rfl, rfl, rfl, rfl, hx, hb, hml, hown, hts, hK, hbs⟩ := C
  subst hp
  intro H locs ls hP hS hl
  exact va_callv (va_runIN (As := As) (rest := st) ⟨hx, hb, hml, hown, hts⟩ hM ⟨va_cnB na hts (AW_in hw.1.2.2.2) rfl rfl rfl (hK.2.2.1 _ hw.1.1) (hts _ hw.1.2.2.1) hw.2.2 hR, hw.2.1, hts _ hw.1.2.1⟩ ⟨qBlind, fun U hU hW => ⟨rfl, by rw [hU]; exact hP, hK.warm hW⟩⟩ rfl hn hl.1 hstk (lv_room hcat) hdg hf) hS (fun q _ h => h) (fun q h => h) (fun u t H1 locs ht hvm hpost hB hz hkeep hS => kk u hpost H1 locs ls (by rw [← ht]; exact hB) hS hl)
theorem g_callSUi (C : qC X D b l R cc own nL) {post : Int32 → qH → Prop} {a : Nat} {ci : Nat} {fs : List Value} {q : vw_C} (hM : qMi l D b y cy nl rt f lo (.ref a :: As) h z post) (hw : qWSU own index y cy nl (some rt) na) (he : h a = some (.inr (ci, fs))) (hcl : vwCl[ci]? = some q) (hR : f + 1 ≤ R.frames ∧ 8 + (nl + 11) + lo ≤ R.locals) (hn : As.length = na) (hstk : stk = As.reverse ++ .ref a :: st) (hcat : (st.map fun v => v.category).sum ≤ 8) (hf : k ≤ R.cells ∧ n ≤ R.slots) (hdg : decode cc pc = .ok (.invokespecial index, 3)) (hp : pc + 3 = pc') (kk : ∀ r h1, post r h1 → qG X k n z h1 pc' L (.int r :: st)) : qG X k n z h pc L stk := by
  obtain ⟨D0, b0, p, l0, e, R0, s, m, args, below, meth, c, nL0, Q⟩ := X
  obtain ⟨rfl, rfl, rfl, rfl, rfl, hx, hb, hml, hown, hts, hK, hbs⟩ := C
  subst hp
  intro H locs ls hP hS hl
  exact va_calli (va_runSU (As := As) (rest := st) ((hK.1.1 ci q hcl).2) ⟨hx, hb, hml, hown, hts⟩ hM (va_cwSU na hts (AW_app (a := [.methodLink own index y, .sameMethod y.cls y.cls y.name y.desc, .superclass own y.cls, .instanceMethod y, .initialized y.cls]) (by intro w hw'; simp only [List.mem_cons, List.not_mem_nil, or_false] at hw'; rcases hw' with rfl | rfl | rfl | rfl | rfl <;> first | exact hw.1.1 | exact hw.1.2.1 | exact hw.1.2.2.1 | exact hw.1.2.2.2.1 | exact hw.1.2.2.2.2.1) (AW_in hw.1.2.2.2.2.2)) rfl rfl rfl hw.2 hR) ⟨qBlind, va_recv hK.1 (hP.one he) hcl (q0 := 0) rfl, fun U hU hW => ⟨rfl, by rw [hU]; exact hP, hK.warm hW⟩⟩ rfl hn hl.1 hstk (lv_room hcat) hdg ⟨hf.1, hf.2⟩) hS (fun q _ h => h) (fun q h => h) (fun r u t H1 locs ht hvm hpost hB hz hkeep hS => kk r u hpost H1 locs ls (by rw [← ht]; exact hB) hS hl)
theorem g_callUi (C : qC X D b l R cc own nL) {post : Int32 → qH → Prop} {a : Nat} {owner : String} {x : MethodName} {ci : Nat} {fs : List Value} {q : vw_C} (hM : qMi l D b y cy nl rt f lo (.ref a :: As) h z post) (hw : qWU own index q.1 owner x y cy nl (some rt) na) (he : h a = some (.inr (ci, fs))) (hcl : vwCl[ci]? = some q) (hR : f + 1 ≤ R.frames ∧ 8 + (nl + 11) + lo ≤ R.locals) (hn : As.length = na) (hstk : stk = As.reverse ++ .ref a :: st) (hcat : (st.map fun v => v.category).sum ≤ 8) (hf : k ≤ R.cells ∧ n ≤ R.slots) (hdg : decode cc pc = .ok (.invokevirtual index, 3)) (hp : pc + 3 = pc') (kk : ∀ r h1, post r h1 → qG X k n z h1 pc' L (.int r :: st)) : qG X k n z h pc L stk := by
  obtain ⟨D0, b0, p, l0, e, R0, s, m, args, below, meth, c, nL0, Q⟩ := X
  obtain ⟨rfl, rfl, rfl, rfl, rfl, hx, hb, hml, hown, hts, hK, hbs⟩ := C
  subst hp
  intro H locs ls hP hS hl
  exact va_calli (va_runU (As := As) (rest := st) ⟨hx, hb, hml, hown, hts⟩ hM (va_cwU na hts (AW_app (a := [.methodLink own index x, .sameMethod x.cls owner x.name x.desc, .selects q.1 x y, .instanceMethod y, .initialized y.cls]) (by intro w hw'; simp only [List.mem_cons, List.not_mem_nil, or_false] at hw'; rcases hw' with rfl | rfl | rfl | rfl | rfl <;> first | exact hw.1.1 | exact hw.1.2.1 | exact hw.1.2.2.1 | exact hw.1.2.2.2.1 | exact hw.1.2.2.2.2.1) (AW_in hw.1.2.2.2.2.2)) rfl rfl rfl hw.2.1 hw.2.2 hR) ⟨qBlind, va_recv hK.1 (hP.one he) hcl (q0 := 0) rfl, fun U hU hW => ⟨rfl, by rw [hU]; exact hP, hK.warm hW⟩⟩ rfl hn hl.1 hstk (lv_room hcat) hdg ⟨hf.1, hf.2⟩) hS (fun q _ h => h) (fun q h => h) (fun r u t H1 locs ht hvm hpost hB hz hkeep hS => kk r u hpost H1 locs ls (by rw [← ht]; exact hB) hS hl)
theorem g_callOi (C : qC X D b l R cc own nL) {post : Int32 → qH → Prop} {a : Nat} {owner : String} {x : MethodName} {b0 : ByteArray} {m0 : Nat} {r0 : Option FieldType} {ci : Nat} {fs : List Value} {q : vw_C} (hM : qMi l D b y cy nl rt f lo (.ref a :: As) h z post) (hw : qWO own index q.1 owner x y cy nl (some rt) b0 m0 r0 na) (he : h a = some (.inr (ci, fs))) (hcl : vwCl[ci]? = some q) (hR : f + 1 ≤ R.frames ∧ 8 + (nl + 11) + lo ≤ R.locals) (hn : As.length = na) (hstk : stk = As.reverse ++ .ref a :: st) (hcat : (st.map fun v => v.category).sum ≤ 8) (hf : k ≤ R.cells ∧ n ≤ R.slots) (hdg : decode cc pc = .ok (.invokevirtual index, 3)) (hp : pc + 3 = pc') (kk : ∀ r h1, post r h1 → qG X k n z h1 pc' L (.int r :: st)) : qG X k n z h pc L stk := by
  obtain ⟨D0, b0, p, l0, e, R0, s, m, args, below, meth, c, nL0, Q⟩ := X
  obtain ⟨rfl, rfl, rfl, rfl, rfl, hx, hb, hml, hown, hts, hK, hbs⟩ := C
  subst hp
  intro H locs ls hP hS hl
  exact va_calli (va_runU (As := As) (rest := st) ⟨hx, hb, hml, hown, hts⟩ hM (va_cwO na hts (AW_app (a := [.methodLink own index x, .sameMethod x.cls owner x.name x.desc, .instanceMethod ⟨owner, x.name, x.desc⟩, .selects q.1 x y, .instanceMethod y, .initialized y.cls]) (by intro w hw'; simp only [List.mem_cons, List.not_mem_nil, or_false] at hw'; rcases hw' with rfl | rfl | rfl | rfl | rfl | rfl <;> first | exact hw.1.1 | exact hw.1.2.1 | exact hw.1.2.2.1 | exact hw.1.2.2.2.1 | exact hw.1.2.2.2.2.1 | exact hw.1.2.2.2.2.2.1) (AW_in hw.1.2.2.2.2.2.2.1)) rfl rfl rfl hw.1.2.2.2.2.2.2.2 hw.2 hR) ⟨qBlind, va_recv hK.1 (hP.one he) hcl (q0 := 0) rfl, fun U hU hW => ⟨rfl, by rw [hU]; exact hP, hK.warm hW⟩⟩ rfl hn hl.1 hstk (lv_room hcat) hdg ⟨hf.1, hf.2⟩) hS (fun q _ h => h) (fun q h => h) (fun r u t H1 locs ht hvm hpost hB hz hkeep hS => kk r u hpost H1 locs ls (by rw [← ht]; exact hB) hS hl)
theorem g_objInit (C : qC X D b l R cc own nL) {a : Nat} {idx : Nat} (hw : Cond.methodLink own idx objectInit ∈ AW ∧ Cond.instanceMethod objectInit ∈ AW ∧ Cond.code objectInit ⟨#[0xb1]⟩ 1 none ∈ AW) (hR : 1 ≤ R.frames ∧ (st.map fun v => v.category).sum + 12 ≤ R.locals) (hdg : decode cc pc = .ok (.invokespecial idx, 3)) (hp : pc + 3 = pc') (kk : qG X k n z h pc' L st) : qG X k n z h pc L (.ref a :: st) := by
  obtain ⟨D0, b0, p, l0, e, R0, s, m, args, below, meth, c, nL0, Q⟩ := X
  obtain ⟨rfl, rfl, rfl, rfl, rfl, hx, hb, hml, hown, hts, hK, hbs⟩ := C
  subst hp
  intro H locs ls hP hS hl
  refine W.objInit hx hb hown (hts _ hw.1) (hts _ hw.2.1) (hts _ hw.2.2) rfl (by rw [hml]; exact hl.1) rfl hdg hR.1 (by show 2 * 0 + _ + 12 ≤ _; rw [Nat.mul_zero, Nat.zero_add]; exact hR.2) ?_
  exact kk H locs ls hP hS hl
theorem g_mmax (C : qC X D b l R cc own nL) {x y : Int64} {v : Int64} (hw : Cond.methodLink own index Lib.MathLoose.max_long.x ∈ AW ∧ Cond.static Lib.MathLoose.max_long.x ∈ AW ∧ Cond.initialized "java/lang/Math" ∈ AW ∧ Cond.code Lib.MathLoose.max_long.x Lib.MathLoose.max_long.code 4 (some .long) ∈ AW) (hR : 1 ≤ R.frames ∧ (st.map fun v => v.category).sum + 15 ≤ R.locals) (hf : k ≤ R.cells ∧ n ≤ R.slots) (hdg : decode cc pc = .ok (.invokestatic index, 3)) (hp : pc + 3 = pc') (hv : v = (if y < x then x else y)) (kk : qG X k n z h pc' L (.long v :: st)) : qG X k n z h pc L (.long y :: .long x :: st) := by
  subst hv
  obtain ⟨D0, b0, p, l0, e, R0, s, m, args, below, meth, c, nL0, Q⟩ := X
  obtain ⟨rfl, rfl, rfl, rfl, rfl, hx, hb, hml, hown, hts, hK, hbs⟩ := C
  subst hp
  intro H locs ls hP hS hl
  exact va_mmax_long hx hb (by rw [hml]; exact hl.1.symm) hown (hts _ hw.1) (hts _ hw.2.1) (hts _ hw.2.2.1) (hts _ hw.2.2.2) hR.1 hR.2 hf.1 hf.2 hdg (kk H locs ls hP hS hl)
theorem g_mmin (C : qC X D b l R cc own nL) {x y : Int64} {v : Int64} (hw : Cond.methodLink own index Lib.MathLoose.min_long.x ∈ AW ∧ Cond.static Lib.MathLoose.min_long.x ∈ AW ∧ Cond.initialized "java/lang/Math" ∈ AW ∧ Cond.code Lib.MathLoose.min_long.x Lib.MathLoose.min_long.code 4 (some .long) ∈ AW) (hR : 1 ≤ R.frames ∧ (st.map fun v => v.category).sum + 15 ≤ R.locals) (hf : k ≤ R.cells ∧ n ≤ R.slots) (hdg : decode cc pc = .ok (.invokestatic index, 3)) (hp : pc + 3 = pc') (hv : v = (if y < x then y else x)) (kk : qG X k n z h pc' L (.long v :: st)) : qG X k n z h pc L (.long y :: .long x :: st) := by
  subst hv
  obtain ⟨D0, b0, p, l0, e, R0, s, m, args, below, meth, c, nL0, Q⟩ := X
  obtain ⟨rfl, rfl, rfl, rfl, rfl, hx, hb, hml, hown, hts, hK, hbs⟩ := C
  subst hp
  intro H locs ls hP hS hl
  exact va_mmin_long hx hb (by rw [hml]; exact hl.1.symm) hown (hts _ hw.1) (hts _ hw.2.1) (hts _ hw.2.2.1) (hts _ hw.2.2.2) hR.1 hR.2 hf.1 hf.2 hdg (kk H locs ls hP hS hl)
theorem g_instY (C : qC X D b l R cc own nL) {a ci : Nat} {fs : List Value} {q : vw_C} {nm : String} (hw : Cond.classLink own index nm ∈ AW) (hc : (q.1, nm) ∈ qYC) (he : h a = some (.inr (ci, fs))) (hcl : vwCl[ci]? = some q) (hdg : decode cc pc = .ok (.instanceof index, 3)) (hp : pc + 3 = pc') (kk : qG X k n z h pc' L (.int 1 :: st)) : qG X k n z h pc L (.ref a :: st) := by
  obtain ⟨D0, b0, p, l0, e, R0, s, m, args, below, meth, c, nL0, Q⟩ := X
  obtain ⟨rfl, rfl, rfl, rfl, rfl, hx, hb, hml, hown, hts, hK, hbs⟩ := C
  subst hp
  intro H locs ls hP hS hl
  exact va_instY hx hb hown (hts _ hw) (hK.2.2.2.1 _ hc) (va_recv hK.1 (hP.one he) hcl (q0 := 0) rfl) hdg (kk H locs ls hP hS hl)
theorem g_instS (C : qC X D b l R cc own nL) {a ci : Nat} {fs : List Value} {q : vw_C} (hw : Cond.classLink own index q.1 ∈ AW) (he : h a = some (.inr (ci, fs))) (hcl : vwCl[ci]? = some q) (hdg : decode cc pc = .ok (.instanceof index, 3)) (hp : pc + 3 = pc') (kk : qG X k n z h pc' L (.int 1 :: st)) : qG X k n z h pc L (.ref a :: st) := by
  obtain ⟨D0, b0, p, l0, e, R0, s, m, args, below, meth, c, nL0, Q⟩ := X
  obtain ⟨rfl, rfl, rfl, rfl, rfl, hx, hb, hml, hown, hts, hK, hbs⟩ := C
  subst hp
  intro H locs ls hP hS hl
  exact va_instS hx hb hown (hts _ hw) ((hK.1.1 ci q hcl).2) (va_recv hK.1 (hP.one he) hcl (q0 := 0) rfl) hdg (kk H locs ls hP hS hl)
theorem g_instN (C : qC X D b l R cc own nL) {a ci : Nat} {fs : List Value} {q : vw_C} {nm : String} (hw : Cond.classLink own index nm ∈ AW) (hc : (q.1, nm) ∈ qNC) (he : h a = some (.inr (ci, fs))) (hcl : vwCl[ci]? = some q) (hdg : decode cc pc = .ok (.instanceof index, 3)) (hp : pc + 3 = pc') (kk : qG X k n z h pc' L (.int 0 :: st)) : qG X k n z h pc L (.ref a :: st) := by
  obtain ⟨D0, b0, p, l0, e, R0, s, m, args, below, meth, c, nL0, Q⟩ := X
  obtain ⟨rfl, rfl, rfl, rfl, rfl, hx, hb, hml, hown, hts, hK, hbs⟩ := C
  subst hp
  intro H locs ls hP hS hl
  exact va_instNo hx hb hown (hts _ hw) (hK.2.2.2.2.1 _ hc) (va_recv hK.1 (hP.one he) hcl (q0 := 0) rfl) hdg (kk H locs ls hP hS hl)
theorem g_aast (C : qC X D b l R cc own nL) {a N v ci : Nat} {fs : List Value} {g : Nat → Option Nat} {i : Int32} (he : h a = some (cQ D N g)) (hv : h v = some (.inr (ci, fs))) (hck : ci = 4) (hin : vp_in i N) (hdg : decode cc pc = .ok (.aastore, 1)) (hp : pc + 1 = pc') (kk : ∀ h1 : qH, h1 a = some (cQ D N (va_up g i.toNatClampNeg (some v))) → (∀ q, q ≠ a → h1 q = h q) → qG X k n z h1 pc' L st) : qG X k n z h pc L (.ref v :: .int i :: .ref a :: st) := by
  sorry
end QCALL
section QENTRY
variable {D : va_G} {b : Nat} {l : Launch} {own : String} {h : qH} {z : Nat} {y : MethodName} {cy : ByteArray} {nl f lo mc ms : Nat} {rt : FieldType} {av : List Value} {L : List (Nat × Value)}
theorem q_i {post : Int32 → qH → Prop} (hy : plainName y.cls = true) (ho : y.cls = own) (hnl : (lg_sl av).length ≤ nl) (hL : lv_args 0 av = L) (body : ∀ X, qC X D b l (qRm f lo) cy own nl → (∀ (h1 : qH) (r : Int32) (pc : Nat) (L : List (Nat × Value)), decode cy pc = .ok (.ireturn, 1) → narrow rt (.int r) = .int r → post r h1 → qG X 0 0 z h1 pc L [.int r]) → qG X 0 0 z h 0 L []) : qMi l D b y cy nl rt f lo av h z post := by
  refine Met.ofW (cc := cy) (maxL := nl) (ret := (some rt)) hy rfl ?_
  intro p e s m args below meth c s₁ B hml hv
  obtain ⟨rfl, hP, hK⟩ := hv
  have hts := atoms_spec (ws := wm y cy nl (some rt)) B.pre
  rw [lg_entry_eq]
  have hlv := lv_entry av (n := nl) hnl
  rw [hL] at hlv
  generalize (lg_sl av ++ List.replicate (nl - (lg_sl av).length) Slot.unset).toArray = ls at hlv ⊢
  refine body (D, b, p, l, e, (qRm f lo), s, m, av.toArray, below, meth, c, nl, MQ below (va_Qi post (qB D b z) (qA b)) av.toArray s 0 0 (qA b)) ⟨rfl, rfl, rfl, rfl, rfl, B.exec, B.bytes, hml, by rw [← ho]; exact findClass_of_methodNamed B.named, fun w hw => hts w (List.mem_cons_of_mem _ hw), hK, by rw [hP.1]; exact hP.2.1⟩ (fun h1 r pc L hdg hn hpost => fun H locs ls hP hS hl => W.zret B.exec B.bytes B.returns hn (fun t ht hW => ⟨⟨r, h1, rfl, hpost, by show qP _ _ _ _ t.heap; rw [ht]; exact hP⟩, hS.F ht⟩) hS.2.2 hdg B.notSynchronized) s.heap [] ls hP va_S.rf hlv
theorem q_l {post : Int64 → qH → Prop} (hy : plainName y.cls = true) (ho : y.cls = own) (hnl : (lg_sl av).length ≤ nl) (hL : lv_args 0 av = L) (body : ∀ X, qC X D b l (qRm f lo) cy own nl → (∀ (h1 : qH) (r : Int64) (pc : Nat) (L : List (Nat × Value)), decode cy pc = .ok (.lreturn, 1) → post r h1 → qG X 0 0 z h1 pc L [.long r]) → qG X 0 0 z h 0 L []) : qMl l D b y cy nl f lo av h z post := by
  refine Met.ofW (cc := cy) (maxL := nl) (ret := (some .long)) hy rfl ?_
  intro p e s m args below meth c s₁ B hml hv
  obtain ⟨rfl, hP, hK⟩ := hv
  have hts := atoms_spec (ws := wm y cy nl (some .long)) B.pre
  rw [lg_entry_eq]
  have hlv := lv_entry av (n := nl) hnl
  rw [hL] at hlv
  generalize (lg_sl av ++ List.replicate (nl - (lg_sl av).length) Slot.unset).toArray = ls at hlv ⊢
  refine body (D, b, p, l, e, (qRm f lo), s, m, av.toArray, below, meth, c, nl, MQ below (va_Ql post (qB D b z) (qA b)) av.toArray s 0 0 (qA b)) ⟨rfl, rfl, rfl, rfl, rfl, B.exec, B.bytes, hml, by rw [← ho]; exact findClass_of_methodNamed B.named, fun w hw => hts w (List.mem_cons_of_mem _ hw), hK, by rw [hP.1]; exact hP.2.1⟩ (fun h1 r pc L hdg hpost => fun H locs ls hP hS hl => W.lret B.exec B.bytes B.returns (fun t ht hW => ⟨⟨r, h1, rfl, hpost, by show qP _ _ _ _ t.heap; rw [ht]; exact hP⟩, hS.F ht⟩) hS.2.2 hdg B.notSynchronized) s.heap [] ls hP va_S.rf hlv
theorem q_v {post : qH → Prop} (hy : plainName y.cls = true) (ho : y.cls = own) (hnl : (lg_sl av).length ≤ nl) (hL : lv_args 0 av = L) (body : ∀ X, qC X D b l (qRm f lo) cy own nl → (∀ (h1 : qH) (pc : Nat) (L : List (Nat × Value)), decode cy pc = .ok (.return_, 1) → post h1 → qG X 0 0 z h1 pc L []) → qG X 0 0 z h 0 L []) : qMv l D b y cy nl f lo av h z post := by
  refine Met.ofW (cc := cy) (maxL := nl) (ret := none) hy rfl ?_
  intro p e s m args below meth c s₁ B hml hv
  obtain ⟨rfl, hP, hK⟩ := hv
  have hts := atoms_spec (ws := wm y cy nl none) B.pre
  rw [lg_entry_eq]
  have hlv := lv_entry av (n := nl) hnl
  rw [hL] at hlv
  generalize (lg_sl av ++ List.replicate (nl - (lg_sl av).length) Slot.unset).toArray = ls at hlv ⊢
  refine body (D, b, p, l, e, (qRm f lo), s, m, av.toArray, below, meth, c, nl, MQ below (va_Qv post (qB D b z) (qA b)) av.toArray s 0 0 (qA b)) ⟨rfl, rfl, rfl, rfl, rfl, B.exec, B.bytes, hml, by rw [← ho]; exact findClass_of_methodNamed B.named, fun w hw => hts w (List.mem_cons_of_mem _ hw), hK, by rw [hP.1]; exact hP.2.1⟩ (fun h1 pc L hdg hpost => fun H locs ls hP hS hl => W.vret B.exec B.bytes B.returns (fun t ht hW => ⟨⟨h1, rfl, hpost, by show qP _ _ _ _ t.heap; rw [ht]; exact hP⟩, hS.F ht⟩) hS.2.2 hdg B.notSynchronized) s.heap [] ls hP va_S.rf hlv
theorem q_q {post : Option Nat → qH → Prop} (hy : plainName y.cls = true) (ho : y.cls = own) (hnl : (lg_sl av).length ≤ nl) (hL : lv_args 0 av = L) (hrt : (∃ n, rt = .object n) ∨ ∃ t, rt = .array t) (body : ∀ X, qC X D b l (qRm f lo) cy own nl → (∀ (h1 : qH) (r : Option Nat) (pc : Nat) (L : List (Nat × Value)), decode cy pc = .ok (.areturn, 1) → post r h1 → qG X 0 0 z h1 pc L [va_rf r]) → qG X 0 0 z h 0 L []) : qMq l D b y cy nl rt f lo av h z post := by
  refine Met.ofW (cc := cy) (maxL := nl) (ret := (some rt)) hy rfl ?_
  intro p e s m args below meth c s₁ B hml hv
  obtain ⟨rfl, hP, hK⟩ := hv
  have hts := atoms_spec (ws := wm y cy nl (some rt)) B.pre
  rw [lg_entry_eq]
  have hlv := lv_entry av (n := nl) hnl
  rw [hL] at hlv
  generalize (lg_sl av ++ List.replicate (nl - (lg_sl av).length) Slot.unset).toArray = ls at hlv ⊢
  refine body (D, b, p, l, e, (qRm f lo), s, m, av.toArray, below, meth, c, nl, MQ below (va_Qq post (qB D b z) (qA b)) av.toArray s 0 0 (qA b)) ⟨rfl, rfl, rfl, rfl, rfl, B.exec, B.bytes, hml, by rw [← ho]; exact findClass_of_methodNamed B.named, fun w hw => hts w (List.mem_cons_of_mem _ hw), hK, by rw [hP.1]; exact hP.2.1⟩ (fun h1 r pc L hdg hpost => fun H locs ls hP hS hl => W.aret B.exec B.bytes B.returns hrt (by cases r with | none => exact Or.inl rfl | some x => exact Or.inr ⟨x, rfl⟩) (fun t ht hW => ⟨⟨r, h1, rfl, hpost, by show qP _ _ _ _ t.heap; rw [ht]; exact hP⟩, hS.F ht⟩) hS.2.2 hdg B.notSynchronized) s.heap [] ls hP va_S.rf hlv
theorem q_c {post : qH → Prop} (hy : plainName y.cls = true) (ho : y.cls = own) (hnl : (lg_sl av).length ≤ nl) (hL : lv_args 0 av = L) (body : ∀ X, qC X D b l ({ frames := f, cells := mc, slots := ms, locals := lo } : Room) cy own nl → X.2.2.2.2.2.2.2.2.2.2.1.name = y.name → (∀ (h1 : qH) (pc : Nat) (L : List (Nat × Value)), decode cy pc = .ok (.return_, 1) → post h1 → qG X mc ms (z + mc) h1 pc L []) → qG X 0 0 z h 0 L []) : qMc l D b y cy nl f lo mc ms av h z post := by
  refine Met.ofW (cc := cy) (maxL := nl) (ret := none) hy rfl ?_
  intro p e s m args below meth c s₁ B hml hv
  obtain ⟨rfl, hP, hK⟩ := hv
  have hts := atoms_spec (ws := wm y cy nl none) B.pre
  rw [lg_entry_eq]
  have hlv := lv_entry av (n := nl) hnl
  rw [hL] at hlv
  generalize (lg_sl av ++ List.replicate (nl - (lg_sl av).length) Slot.unset).toArray = ls at hlv ⊢
  refine body (D, b, p, l, e, ({ frames := f, cells := mc, slots := ms, locals := lo } : Room), s, m, av.toArray, below, meth, c, nl, MQ below (va_Qv post (qB D b (z + mc)) (qA b)) av.toArray s mc ms (qA b)) ⟨rfl, rfl, rfl, rfl, rfl, B.exec, B.bytes, hml, by rw [← ho]; exact findClass_of_methodNamed B.named, fun w hw => hts w (List.mem_cons_of_mem _ hw), hK, by rw [hP.1]; exact hP.2.1⟩ (name_of_methodNamed B.named B.method).1 (fun h1 pc L hdg hpost => fun H locs ls hP hS hl => W.vret B.exec B.bytes B.returns (fun t ht hW => ⟨⟨h1, rfl, hpost, by show qP _ _ _ _ t.heap; rw [ht]; exact hP⟩, hS.F ht⟩) hS.2.2 hdg B.notSynchronized) s.heap [] ls hP va_S.rf hlv
end QENTRY
end
section
theorem hin_0 : ∀ w ∈ u_ws RX0 TX0 3, w ∈ AW := by
  intro w hw
  have h : (u_ws RX0 TX0 3).all (fun w => decide (w ∈ lw_tbl) && goodWord w) = true := by decide +kernel
  have h1 := List.all_eq_true.mp h w hw
  simp only [Bool.and_eq_true, decide_eq_true_eq] at h1
  exact List.mem_filter.mpr h1
theorem hin_1 : ∀ w ∈ u_ws RX1 TX1 3, w ∈ AW := by
  intro w hw
  have h : (u_ws RX1 TX1 3).all (fun w => decide (w ∈ lw_tbl) && goodWord w) = true := by decide +kernel
  have h1 := List.all_eq_true.mp h w hw
  simp only [Bool.and_eq_true, decide_eq_true_eq] at h1
  exact List.mem_filter.mpr h1
theorem hin_2 : ∀ w ∈ u_ws RX2 TX2 3, w ∈ AW := by
  intro w hw
  have h : (u_ws RX2 TX2 3).all (fun w => decide (w ∈ lw_tbl) && goodWord w) = true := by decide +kernel
  have h1 := List.all_eq_true.mp h w hw
  simp only [Bool.and_eq_true, decide_eq_true_eq] at h1
  exact List.mem_filter.mpr h1
theorem hin_3 : ∀ w ∈ u_ws RX3 TX3 5, w ∈ AW := by
  intro w hw
  have h : (u_ws RX3 TX3 5).all (fun w => decide (w ∈ lw_tbl) && goodWord w) = true := by decide +kernel
  have h1 := List.all_eq_true.mp h w hw
  simp only [Bool.and_eq_true, decide_eq_true_eq] at h1
  exact List.mem_filter.mpr h1
theorem hin_4 : ∀ w ∈ u_ws RX4 TX4 3, w ∈ AW := by
  intro w hw
  have h : (u_ws RX4 TX4 3).all (fun w => decide (w ∈ lw_tbl) && goodWord w) = true := by decide +kernel
  have h1 := List.all_eq_true.mp h w hw
  simp only [Bool.and_eq_true, decide_eq_true_eq] at h1
  exact List.mem_filter.mpr h1
theorem hin_5 : ∀ w ∈ u_ws RX5 TX5 3, w ∈ AW := by
  intro w hw
  have h : (u_ws RX5 TX5 3).all (fun w => decide (w ∈ lw_tbl) && goodWord w) = true := by decide +kernel
  have h1 := List.all_eq_true.mp h w hw
  simp only [Bool.and_eq_true, decide_eq_true_eq] at h1
  exact List.mem_filter.mpr h1
theorem hin_6 : ∀ w ∈ u_ws RX6 TX6 3, w ∈ AW := by
  intro w hw
  have h : (u_ws RX6 TX6 3).all (fun w => decide (w ∈ lw_tbl) && goodWord w) = true := by decide +kernel
  have h1 := List.all_eq_true.mp h w hw
  simp only [Bool.and_eq_true, decide_eq_true_eq] at h1
  exact List.mem_filter.mpr h1
theorem hin_7 : ∀ w ∈ u_ws RX7 TX7 8, w ∈ AW := by
  intro w hw
  have h : (u_ws RX7 TX7 8).all (fun w => decide (w ∈ lw_tbl) && goodWord w) = true := by decide +kernel
  have h1 := List.all_eq_true.mp h w hw
  simp only [Bool.and_eq_true, decide_eq_true_eq] at h1
  exact List.mem_filter.mpr h1
theorem hin_8 : ∀ w ∈ u_ws RX8 TX8 2, w ∈ AW := by
  intro w hw
  have h : (u_ws RX8 TX8 2).all (fun w => decide (w ∈ lw_tbl) && goodWord w) = true := by decide +kernel
  have h1 := List.all_eq_true.mp h w hw
  simp only [Bool.and_eq_true, decide_eq_true_eq] at h1
  exact List.mem_filter.mpr h1
theorem hin_9 : ∀ w ∈ u_ws RX9 TX9 3, w ∈ AW := by
  intro w hw
  have h : (u_ws RX9 TX9 3).all (fun w => decide (w ∈ lw_tbl) && goodWord w) = true := by decide +kernel
  have h1 := List.all_eq_true.mp h w hw
  simp only [Bool.and_eq_true, decide_eq_true_eq] at h1
  exact List.mem_filter.mpr h1
theorem hin_10 : ∀ w ∈ u_ws RX10 TX10 8, w ∈ AW := by
  intro w hw
  have h : (u_ws RX10 TX10 8).all (fun w => decide (w ∈ lw_tbl) && goodWord w) = true := by decide +kernel
  have h1 := List.all_eq_true.mp h w hw
  simp only [Bool.and_eq_true, decide_eq_true_eq] at h1
  exact List.mem_filter.mpr h1
theorem hin_11 : ∀ w ∈ u_ws RX11 TX11 8, w ∈ AW := by
  intro w hw
  have h : (u_ws RX11 TX11 8).all (fun w => decide (w ∈ lw_tbl) && goodWord w) = true := by decide +kernel
  have h1 := List.all_eq_true.mp h w hw
  simp only [Bool.and_eq_true, decide_eq_true_eq] at h1
  exact List.mem_filter.mpr h1
theorem hin_12 : ∀ w ∈ u_ws RX12 TX12 36, w ∈ AW := by
  intro w hw
  have h : (u_ws RX12 TX12 36).all (fun w => decide (w ∈ lw_tbl) && goodWord w) = true := by decide +kernel
  have h1 := List.all_eq_true.mp h w hw
  simp only [Bool.and_eq_true, decide_eq_true_eq] at h1
  exact List.mem_filter.mpr h1
section WORDS
variable {X : qX} {D : va_G} {b : Nat} {l : Launch} {R : Room} {cc : ByteArray} {own : String} {nL : Nat} {k n z : Nat} {h : qH} {pc pc' : Nat} {L : List (Nat × Value)} {st : List Value} {a : Nat} {fs : List Value} {v : Value}
theorem cw_X0_init : Cond.code yX0_init cX0_init 1 none ∈ AW := (AW_m 144 (by decide +kernel) rfl)
theorem cw_X0_append : Cond.code yX0_append cX0_append 3 (some .boolean) ∈ AW := (AW_m 575 (by decide +kernel) rfl)
theorem cw_X0_copyFrom : Cond.code yX0_copyFrom cX0_copyFrom 3 none ∈ AW := (AW_m 645 (by decide +kernel) rfl)
theorem cw_X0_readingsSeen : Cond.code yX0_readingsSeen cX0_readingsSeen 4 (some .int) ∈ AW := (AW_m 599 (by decide +kernel) rfl)
theorem cw_X0_wrongReadings : Cond.code yX0_wrongReadings cX0_wrongReadings 5 (some .int) ∈ AW := (AW_m 587 (by decide +kernel) rfl)
theorem cw_X0_isSeen : Cond.code yX0_isSeen cX0_isSeen 3 (some .boolean) ∈ AW := (AW_m 591 (by decide +kernel) rfl)
theorem cw_X1_init : Cond.code yX1_init cX1_init 3 none ∈ AW := (AW_m 464 (by decide +kernel) rfl)
theorem cw_X1_kindNumber : Cond.code yX1_kindNumber cX1_kindNumber 1 (some .int) ∈ AW := (AW_m 498 (by decide +kernel) rfl)
theorem cw_X1_covers : Cond.code yX1_covers cX1_covers 2 (some .boolean) ∈ AW := (AW_m 387 (by decide +kernel) rfl)
theorem cw_X2_init : Cond.code yX2_init cX2_init 3 none ∈ AW := (AW_m 429 (by decide +kernel) rfl)
theorem cw_X2_kindNumber : Cond.code yX2_kindNumber cX2_kindNumber 1 (some .int) ∈ AW := (AW_m 501 (by decide +kernel) rfl)
theorem cw_X2_covers : Cond.code yX2_covers cX2_covers 2 (some .boolean) ∈ AW := (AW_m 392 (by decide +kernel) rfl)
theorem cw_X3_init : Cond.code yX3_init cX3_init 3 none ∈ AW := (AW_m 196 (by decide +kernel) rfl)
theorem cw_X4_init : Cond.code yX4_init cX4_init 3 none ∈ AW := (AW_m 432 (by decide +kernel) rfl)
theorem cw_X4_kindNumber : Cond.code yX4_kindNumber cX4_kindNumber 1 (some .int) ∈ AW := (AW_m 508 (by decide +kernel) rfl)
theorem cw_X4_covers : Cond.code yX4_covers cX4_covers 2 (some .boolean) ∈ AW := (AW_m 409 (by decide +kernel) rfl)
theorem cw_X4_payment : Cond.code yX4_payment cX4_payment 3 (some .int) ∈ AW := (AW_m 380 (by decide +kernel) rfl)
theorem cw_X5_init : Cond.code yX5_init cX5_init 3 none ∈ AW := (AW_m 473 (by decide +kernel) rfl)
theorem cw_X5_kindNumber : Cond.code yX5_kindNumber cX5_kindNumber 1 (some .int) ∈ AW := (AW_m 504 (by decide +kernel) rfl)
theorem cw_X5_covers : Cond.code yX5_covers cX5_covers 2 (some .boolean) ∈ AW := (AW_m 397 (by decide +kernel) rfl)
theorem cw_X6_init : Cond.code yX6_init cX6_init 3 none ∈ AW := (AW_m 454 (by decide +kernel) rfl)
theorem cw_X6_kindNumber : Cond.code yX6_kindNumber cX6_kindNumber 1 (some .int) ∈ AW := (AW_m 507 (by decide +kernel) rfl)
theorem cw_X6_covers : Cond.code yX6_covers cX6_covers 2 (some .boolean) ∈ AW := (AW_m 403 (by decide +kernel) rfl)
theorem cw_X7_init : Cond.code yX7_init cX7_init 3 none ∈ AW := (AW_m 104 (by decide +kernel) rfl)
theorem cw_X7_startAnew : Cond.code yX7_startAnew cX7_startAnew 3 none ∈ AW := (AW_m 295 (by decide +kernel) rfl)
theorem cw_X7_copyFrom : Cond.code yX7_copyFrom cX7_copyFrom 3 none ∈ AW := (AW_m 641 (by decide +kernel) rfl)
theorem cw_X7_passDay : Cond.code yX7_passDay cX7_passDay 3 none ∈ AW := (AW_m 414 (by decide +kernel) rfl)
theorem cw_X7_tell : Cond.code yX7_tell cX7_tell 4 (some .boolean) ∈ AW := (AW_m 346 (by decide +kernel) rfl)
theorem cw_X7_readingOf : Cond.code yX7_readingOf cX7_readingOf 2 (some .int) ∈ AW := (AW_m 315 (by decide +kernel) rfl)
theorem cw_X7_readingsTold : Cond.code yX7_readingsTold cX7_readingsTold 3 (some .int) ∈ AW := (AW_m 354 (by decide +kernel) rfl)
theorem cw_X7_oddsOf : Cond.code yX7_oddsOf cX7_oddsOf 3 (some .long) ∈ AW := (AW_m 367 (by decide +kernel) rfl)
theorem cw_X7_allOdds : Cond.code yX7_allOdds cX7_allOdds 4 (some .long) ∈ AW := (AW_m 350 (by decide +kernel) rfl)
theorem cw_X7_possibleDays : Cond.code yX7_possibleDays cX7_possibleDays 1 (some .int) ∈ AW := (AW_m 550 (by decide +kernel) rfl)
theorem cw_X7_sureWeather : Cond.code yX7_sureWeather cX7_sureWeather 4 (some .int) ∈ AW := (AW_m 407 (by decide +kernel) rfl)
theorem cw_X7_numberOfMostOdds : Cond.code yX7_numberOfMostOdds cX7_numberOfMostOdds 10 (some .int) ∈ AW := (AW_m 542 (by decide +kernel) rfl)
theorem cw_X7_meanByKnowing : Cond.code yX7_meanByKnowing cX7_meanByKnowing 8 (some .long) ∈ AW := (AW_m 564 (by decide +kernel) rfl)
theorem cw_X7_reckon : Cond.code yX7_reckon cX7_reckon 1 none ∈ AW := (AW_m 299 (by decide +kernel) rfl)
theorem cw_X7_reckonBehind : Cond.code yX7_reckonBehind cX7_reckonBehind 6 none ∈ AW := (AW_m 303 (by decide +kernel) rfl)
theorem cw_X7_reckonUntil : Cond.code yX7_reckonUntil cX7_reckonUntil 4 none ∈ AW := (AW_m 326 (by decide +kernel) rfl)
theorem cw_X7_stepOdds : Cond.code yX7_stepOdds cX7_stepOdds 4 (some .long) ∈ AW := (AW_m 307 (by decide +kernel) rfl)
theorem cw_X8_init : Cond.code yX8_init cX8_init 1 none ∈ AW := (AW_m 90 (by decide +kernel) rfl)
theorem cw_X8_append : Cond.code yX8_append cX8_append 2 (some .boolean) ∈ AW := (AW_m 249 (by decide +kernel) rfl)
theorem cw_X8_codeAt : Cond.code yX8_codeAt cX8_codeAt 2 (some .int) ∈ AW := (AW_m 273 (by decide +kernel) rfl)
theorem cw_X8_digitAt : Cond.code yX8_digitAt cX8_digitAt 3 (some .int) ∈ AW := (AW_m 269 (by decide +kernel) rfl)
theorem cw_X8_isStation : Cond.code yX8_isStation cX8_isStation 1 (some .boolean) ∈ AW := (AW_m 285 (by decide +kernel) rfl)
theorem cw_X8_firstFault : Cond.code yX8_firstFault cX8_firstFault 2 (some .int) ∈ AW := (AW_m 261 (by decide +kernel) rfl)
theorem cw_X8_isGoodAt : Cond.code yX8_isGoodAt cX8_isGoodAt 2 (some .boolean) ∈ AW := (AW_m 265 (by decide +kernel) rfl)
theorem cw_X8_isGoodTenths : Cond.code yX8_isGoodTenths cX8_isGoodTenths 4 (some .boolean) ∈ AW := (AW_m 277 (by decide +kernel) rfl)
theorem cw_X9_init : Cond.code yX9_init cX9_init 1 none ∈ AW := (AW_m 68 (by decide +kernel) rfl)
theorem cw_X9_isRead : Cond.code yX9_isRead cX9_isRead 1 (some .boolean) ∈ AW := (AW_m 337 (by decide +kernel) rfl)
theorem cw_X9_read : Cond.code yX9_read cX9_read 4 none ∈ AW := (AW_m 290 (by decide +kernel) rfl)
theorem cw_X9_tenthsFrom : Cond.code yX9_tenthsFrom cX9_tenthsFrom 4 (some .int) ∈ AW := (AW_m 311 (by decide +kernel) rfl)
theorem cw_X9_fit : Cond.code yX9_fit cX9_fit 3 (some .int) ∈ AW := (AW_m 319 (by decide +kernel) rfl)
theorem cw_X10_init : Cond.code yX10_init cX10_init 3 none ∈ AW := (AW_m 161 (by decide +kernel) rfl)
theorem cw_X10_begin : Cond.code yX10_begin cX10_begin 3 none ∈ AW := (AW_m 607 (by decide +kernel) rfl)
theorem cw_X10_tellOne : Cond.code yX10_tellOne cX10_tellOne 3 none ∈ AW := (AW_m 612 (by decide +kernel) rfl)
theorem cw_X10_passOne : Cond.code yX10_passOne cX10_passOne 5 none ∈ AW := (AW_m 631 (by decide +kernel) rfl)
theorem cw_X10_drawWeather : Cond.code yX10_drawWeather cX10_drawWeather 4 (some .int) ∈ AW := (AW_m 616 (by decide +kernel) rfl)
theorem cw_X10_draw : Cond.code yX10_draw cX10_draw 1 (some .int) ∈ AW := (AW_m 620 (by decide +kernel) rfl)
theorem cw_X11_init : Cond.code yX11_init cX11_init 2 none ∈ AW := (AW_m 60 (by decide +kernel) rfl)
theorem cw_X11_letter : Cond.code yX11_letter cX11_letter 2 (some .int) ∈ AW := (AW_m 245 (by decide +kernel) rfl)
theorem cw_X11_blank : Cond.code yX11_blank cX11_blank 2 (some .int) ∈ AW := (AW_m 253 (by decide +kernel) rfl)
theorem cw_X11_fault : Cond.code yX11_fault cX11_fault 1 (some .int) ∈ AW := (AW_m 257 (by decide +kernel) rfl)
theorem cw_X11_station : Cond.code yX11_station cX11_station 2 (some .int) ∈ AW := (AW_m 281 (by decide +kernel) rfl)
theorem cw_X11_follows : Cond.code yX11_follows cX11_follows 3 (some .int) ∈ AW := (AW_m 330 (by decide +kernel) rfl)
theorem cw_X11_reading : Cond.code yX11_reading cX11_reading 2 (some .int) ∈ AW := (AW_m 342 (by decide +kernel) rfl)
theorem cw_X11_told : Cond.code yX11_told cX11_told 2 (some .int) ∈ AW := (AW_m 358 (by decide +kernel) rfl)
theorem cw_X11_day : Cond.code yX11_day cX11_day 4 (some .int) ∈ AW := (AW_m 363 (by decide +kernel) rfl)
theorem cw_X11_person : Cond.code yX11_person cX11_person 5 (some .int) ∈ AW := (AW_m 418 (by decide +kernel) rfl)
theorem cw_X11_about : Cond.code yX11_about cX11_about 4 (some .int) ∈ AW := (AW_m 487 (by decide +kernel) rfl)
theorem cw_X11_as : Cond.code yX11_as cX11_as 4 (some .int) ∈ AW := (AW_m 513 (by decide +kernel) rfl)
theorem cw_X11_likely : Cond.code yX11_likely cX11_likely 4 (some .long) ∈ AW := (AW_m 520 (by decide +kernel) rfl)
theorem cw_X11_likeliest : Cond.code yX11_likeliest cX11_likeliest 1 (some .int) ∈ AW := (AW_m 538 (by decide +kernel) rfl)
theorem cw_X11_ways : Cond.code yX11_ways cX11_ways 1 (some .int) ∈ AW := (AW_m 546 (by decide +kernel) rfl)
theorem cw_X11_sure : Cond.code yX11_sure cX11_sure 2 (some .int) ∈ AW := (AW_m 554 (by decide +kernel) rfl)
theorem cw_X11_look : Cond.code yX11_look cX11_look 9 (some .long) ∈ AW := (AW_m 559 (by decide +kernel) rfl)
theorem cw_X11_book : Cond.code yX11_book cX11_book 3 (some .int) ∈ AW := (AW_m 571 (by decide +kernel) rfl)
theorem cw_X11_forget : Cond.code yX11_forget cX11_forget 2 (some .int) ∈ AW := (AW_m 579 (by decide +kernel) rfl)
theorem cw_X11_wrong : Cond.code yX11_wrong cX11_wrong 2 (some .int) ∈ AW := (AW_m 583 (by decide +kernel) rfl)
theorem cw_X11_earliest : Cond.code yX11_earliest cX11_earliest 4 (some .int) ∈ AW := (AW_m 595 (by decide +kernel) rfl)
theorem cw_X11_days : Cond.code yX11_days cX11_days 5 (some .int) ∈ AW := (AW_m 603 (by decide +kernel) rfl)
theorem cw_X11_image : Cond.code yX11_image cX11_image 3 (some .int) ∈ AW := (AW_m 637 (by decide +kernel) rfl)
theorem cw_X11_restore : Cond.code yX11_restore cX11_restore 3 (some .int) ∈ AW := (AW_m 653 (by decide +kernel) rfl)
theorem cw_X11_count : Cond.code yX11_count cX11_count 2 (some .int) ∈ AW := (AW_m 657 (by decide +kernel) rfl)
theorem cw_X11_digest : Cond.code yX11_digest cX11_digest 4 (some .long) ∈ AW := (AW_m 665 (by decide +kernel) rfl)
theorem cw_X11_digestOfPeople : Cond.code yX11_digestOfPeople cX11_digestOfPeople 8 (some .long) ∈ AW := (AW_m 670 (by decide +kernel) rfl)
theorem cw_X11_digestOfComing : Cond.code yX11_digestOfComing cX11_digestOfComing 6 (some .long) ∈ AW := (AW_m 676 (by decide +kernel) rfl)
theorem cw_X11_digestOfLikely : Cond.code yX11_digestOfLikely cX11_digestOfLikely 7 (some .long) ∈ AW := (AW_m 681 (by decide +kernel) rfl)
theorem cw_X11_isWeather : Cond.code yX11_isWeather cX11_isWeather 1 (some .boolean) ∈ AW := (AW_m 333 (by decide +kernel) rfl)
theorem cw_X11_isAhead : Cond.code yX11_isAhead cX11_isAhead 1 (some .boolean) ∈ AW := (AW_m 370 (by decide +kernel) rfl)
theorem cw_X11_isPart : Cond.code yX11_isPart cX11_isPart 1 (some .boolean) ∈ AW := (AW_m 525 (by decide +kernel) rfl)
theorem cw_X11_isPrice : Cond.code yX11_isPrice cX11_isPrice 1 (some .boolean) ∈ AW := (AW_m 421 (by decide +kernel) rfl)
theorem cw_X11_lowestTerms : Cond.code yX11_lowestTerms cX11_lowestTerms 9 (some .long) ∈ AW := (AW_m 531 (by decide +kernel) rfl)
theorem cw_X11_greatestDivisor : Cond.code yX11_greatestDivisor cX11_greatestDivisor 11 (some .long) ∈ AW := (AW_m 534 (by decide +kernel) rfl)
theorem cw_X11_newcomer : Cond.code yX11_newcomer cX11_newcomer 3 (some (.object "EarlyGauge$Keeper")) ∈ AW := (AW_m 424 (by decide +kernel) rfl)
theorem cw_X11_isOfKind : Cond.code yX11_isOfKind cX11_isOfKind 2 (some .boolean) ∈ AW := (AW_m 516 (by decide +kernel) rfl)
theorem cw_X11_personOf : Cond.code yX11_personOf cX11_personOf 2 (some (.object "EarlyGauge$Keeper")) ∈ AW := (AW_m 491 (by decide +kernel) rfl)
theorem cw_X11_countPeople : Cond.code yX11_countPeople cX11_countPeople 3 (some .int) ∈ AW := (AW_m 649 (by decide +kernel) rfl)
theorem cw_X11_paidByAll : Cond.code yX11_paidByAll cX11_paidByAll 4 (some .int) ∈ AW := (AW_m 661 (by decide +kernel) rfl)
theorem cw_X12_init : Cond.code yX12_init cX12_init 1 none ∈ AW := (AW_m 695 (by decide +kernel) rfl)
theorem cw_X12_within : Cond.code yX12_within cX12_within 3 (some .boolean) ∈ AW := (AW_m 813 (by decide +kernel) rfl)
theorem cw_X12_isWeather : Cond.code yX12_isWeather cX12_isWeather 1 (some .boolean) ∈ AW := (AW_m 844 (by decide +kernel) rfl)
theorem cw_X12_lowest : Cond.code yX12_lowest cX12_lowest 11 (some .long) ∈ AW := (AW_m 916 (by decide +kernel) rfl)
theorem cw_X12_letter : Cond.code yX12_letter cX12_letter 2 (some .int) ∈ AW := (AW_m 810 (by decide +kernel) rfl)
theorem cw_X12_blank : Cond.code yX12_blank cX12_blank 2 (some .int) ∈ AW := (AW_m 817 (by decide +kernel) rfl)
theorem cw_X12_figure : Cond.code yX12_figure cX12_figure 2 (some .int) ∈ AW := (AW_m 833 (by decide +kernel) rfl)
theorem cw_X12_isGood : Cond.code yX12_isGood cX12_isGood 3 (some .boolean) ∈ AW := (AW_m 829 (by decide +kernel) rfl)
theorem cw_X12_faultNow : Cond.code yX12_faultNow cX12_faultNow 2 (some .int) ∈ AW := (AW_m 825 (by decide +kernel) rfl)
theorem cw_X12_fault : Cond.code yX12_fault cX12_fault 1 (some .int) ∈ AW := (AW_m 821 (by decide +kernel) rfl)
theorem cw_X12_station : Cond.code yX12_station cX12_station 3 (some .int) ∈ AW := (AW_m 837 (by decide +kernel) rfl)
theorem cw_X12_follows : Cond.code yX12_follows cX12_follows 3 (some .int) ∈ AW := (AW_m 841 (by decide +kernel) rfl)
theorem cw_X12_weatherIn : Cond.code yX12_weatherIn cX12_weatherIn 4 (some .int) ∈ AW := (AW_m 855 (by decide +kernel) rfl)
theorem cw_X12_tells : Cond.code yX12_tells cX12_tells 3 (some .int) ∈ AW := (AW_m 863 (by decide +kernel) rfl)
theorem cw_X12_oddsOf : Cond.code yX12_oddsOf cX12_oddsOf 7 (some .long) ∈ AW := (AW_m 859 (by decide +kernel) rfl)
theorem cw_X12_weightOf : Cond.code yX12_weightOf cX12_weightOf 6 (some .long) ∈ AW := (AW_m 852 (by decide +kernel) rfl)
theorem cw_X12_toldMany : Cond.code yX12_toldMany cX12_toldMany 3 (some .int) ∈ AW := (AW_m 867 (by decide +kernel) rfl)
theorem cw_X12_reading : Cond.code yX12_reading cX12_reading 3 (some .int) ∈ AW := (AW_m 848 (by decide +kernel) rfl)
theorem cw_X12_told : Cond.code yX12_told cX12_told 2 (some .int) ∈ AW := (AW_m 871 (by decide +kernel) rfl)
theorem cw_X12_covers : Cond.code yX12_covers cX12_covers 3 (some .boolean) ∈ AW := (AW_m 883 (by decide +kernel) rfl)
theorem cw_X12_goDay : Cond.code yX12_goDay cX12_goDay 6 (some .int) ∈ AW := (AW_m 879 (by decide +kernel) rfl)
theorem cw_X12_day : Cond.code yX12_day cX12_day 2 (some .int) ∈ AW := (AW_m 875 (by decide +kernel) rfl)
theorem cw_X12_isPerson : Cond.code yX12_isPerson cX12_isPerson 2 (some .boolean) ∈ AW := (AW_m 895 (by decide +kernel) rfl)
theorem cw_X12_person : Cond.code yX12_person cX12_person 4 (some .int) ∈ AW := (AW_m 887 (by decide +kernel) rfl)
theorem cw_X12_personNow : Cond.code yX12_personNow cX12_personNow 3 (some .int) ∈ AW := (AW_m 899 (by decide +kernel) rfl)
theorem cw_X12_about : Cond.code yX12_about cX12_about 3 (some .int) ∈ AW := (AW_m 891 (by decide +kernel) rfl)
theorem cw_X12_as : Cond.code yX12_as cX12_as 4 (some .int) ∈ AW := (AW_m 903 (by decide +kernel) rfl)
theorem cw_X12_likelyNow : Cond.code yX12_likelyNow cX12_likelyNow 4 (some .long) ∈ AW := (AW_m 913 (by decide +kernel) rfl)
theorem cw_X12_likely : Cond.code yX12_likely cX12_likely 4 (some .long) ∈ AW := (AW_m 907 (by decide +kernel) rfl)
theorem cw_X12_likeliestNow : Cond.code yX12_likeliestNow cX12_likeliestNow 7 (some .int) ∈ AW := (AW_m 925 (by decide +kernel) rfl)
theorem cw_X12_likeliest : Cond.code yX12_likeliest cX12_likeliest 1 (some .int) ∈ AW := (AW_m 921 (by decide +kernel) rfl)
theorem cw_X12_waysNow : Cond.code yX12_waysNow cX12_waysNow 3 (some .int) ∈ AW := (AW_m 934 (by decide +kernel) rfl)
theorem cw_X12_ways : Cond.code yX12_ways cX12_ways 1 (some .int) ∈ AW := (AW_m 930 (by decide +kernel) rfl)
theorem cw_X12_sureNow : Cond.code yX12_sureNow cX12_sureNow 6 (some .int) ∈ AW := (AW_m 942 (by decide +kernel) rfl)
theorem cw_X12_sure : Cond.code yX12_sure cX12_sure 2 (some .int) ∈ AW := (AW_m 938 (by decide +kernel) rfl)
theorem cw_X12_less : Cond.code yX12_less cX12_less 4 (some .long) ∈ AW := (AW_m 954 (by decide +kernel) rfl)
theorem cw_X12_lookNow : Cond.code yX12_lookNow cX12_lookNow 14 (some .long) ∈ AW := (AW_m 950 (by decide +kernel) rfl)
theorem cw_X12_look : Cond.code yX12_look cX12_look 4 (some .long) ∈ AW := (AW_m 946 (by decide +kernel) rfl)
theorem cw_X12_book : Cond.code yX12_book cX12_book 3 (some .int) ∈ AW := (AW_m 958 (by decide +kernel) rfl)
theorem cw_X12_forget : Cond.code yX12_forget cX12_forget 2 (some .int) ∈ AW := (AW_m 962 (by decide +kernel) rfl)
theorem cw_X12_lookedAt : Cond.code yX12_lookedAt cX12_lookedAt 6 (some .int) ∈ AW := (AW_m 970 (by decide +kernel) rfl)
theorem cw_X12_wrong : Cond.code yX12_wrong cX12_wrong 2 (some .int) ∈ AW := (AW_m 966 (by decide +kernel) rfl)
theorem cw_X12_earliestNow : Cond.code yX12_earliestNow cX12_earliestNow 6 (some .int) ∈ AW := (AW_m 978 (by decide +kernel) rfl)
theorem cw_X12_earliest : Cond.code yX12_earliest cX12_earliest 1 (some .int) ∈ AW := (AW_m 974 (by decide +kernel) rfl)
theorem cw_X12_draw : Cond.code yX12_draw cX12_draw 2 (some .int) ∈ AW := (AW_m 998 (by decide +kernel) rfl)
theorem cw_X12_drawDays : Cond.code yX12_drawDays cX12_drawDays 4 none ∈ AW := (AW_m 994 (by decide +kernel) rfl)
theorem cw_X12_goSeeded : Cond.code yX12_goSeeded cX12_goSeeded 5 (some .int) ∈ AW := (AW_m 990 (by decide +kernel) rfl)
theorem cw_X12_daysNow : Cond.code yX12_daysNow cX12_daysNow 7 (some .int) ∈ AW := (AW_m 986 (by decide +kernel) rfl)
theorem cw_X12_days : Cond.code yX12_days cX12_days 4 (some .int) ∈ AW := (AW_m 982 (by decide +kernel) rfl)
theorem cw_X12_image : Cond.code yX12_image cX12_image 2 (some .int) ∈ AW := (AW_m 1006 (by decide +kernel) rfl)
theorem cw_X12_restore : Cond.code yX12_restore cX12_restore 2 (some .int) ∈ AW := (AW_m 1010 (by decide +kernel) rfl)
theorem cw_X12_paidAll : Cond.code yX12_paidAll cX12_paidAll 3 (some .int) ∈ AW := (AW_m 1022 (by decide +kernel) rfl)
theorem cw_X12_howMany : Cond.code yX12_howMany cX12_howMany 2 (some .int) ∈ AW := (AW_m 1018 (by decide +kernel) rfl)
theorem cw_X12_count : Cond.code yX12_count cX12_count 2 (some .int) ∈ AW := (AW_m 1014 (by decide +kernel) rfl)
theorem cw_X12_mix : Cond.code yX12_mix cX12_mix 3 none ∈ AW := (AW_m 1031 (by decide +kernel) rfl)
theorem cw_X12_mixLikely : Cond.code yX12_mixLikely cX12_mixLikely 3 none ∈ AW := (AW_m 1036 (by decide +kernel) rfl)
theorem cw_X12_digest : Cond.code yX12_digest cX12_digest 3 (some .long) ∈ AW := (AW_m 1026 (by decide +kernel) rfl)
theorem hw_0_3 : Cond.methodLink RX0 3 objectInit ∈ AW ∧ Cond.instanceMethod objectInit ∈ AW ∧ Cond.code objectInit ⟨#[0xb1]⟩ 1 none ∈ AW := ⟨(AW_m 145 (by decide +kernel) rfl), (AW_m 62 (by decide +kernel) rfl), (AW_m 63 (by decide +kernel) rfl)⟩
theorem gf_0_11 (C : qC X D b l R cc RX0 nL) (he : h a = some (.inr (0, fs))) (hv : fs[0]? = some v) (hdg : decode cc pc = .ok (.getfield 11, 3)) (hp : pc + 3 = pc') (kk : qG X k n z h pc' L (v :: st)) : qG X k n z h pc L (.ref a :: st) := g_get (ref := "EarlyGauge$Book") C hin_0 (Cn := RX0) (T := TX0) (N := 3) rfl 0 (by decide) (AW_m 146 (by decide +kernel) rfl) (fun _ _ _ _ h => h) he hv hdg hp kk
theorem pf_0_11 (C : qC X D b l R cc RX0 nL) (hin2 : X.2.2.2.2.2.2.2.2.2.2.1.name = "<init>") (he : h a = some (.inr (0, fs))) (hn : narrow (.array .int) v = v) (hfit : fits (.array .int) v = true) (hlen : 0 < fs.length) (hdg : decode cc pc = .ok (.putfield 11, 3)) (hp : pc + 3 = pc') (kk : ∀ h1 : qH, h1 a = some (.inr (0, fs.set 0 v)) → (∀ q, q ≠ a → h1 q = h q) → qG X k n z h1 pc' L st) : qG X k n z h pc L (v :: .ref a :: st) := g_putF (ref := "EarlyGauge$Book") C hin_0 tyX0 tyX0_ok nmX0 (Cn := RX0) (T := TX0) (N := 3) rfl 0 (by decide) (AW_m 146 (by decide +kernel) rfl) (fun _ _ _ _ h => h) rfl hin2 rfl (ty := (.array .int)) (by decide +kernel) he hn hfit hlen hdg hp kk
theorem gf_0_15 (C : qC X D b l R cc RX0 nL) (he : h a = some (.inr (0, fs))) (hv : fs[1]? = some v) (hdg : decode cc pc = .ok (.getfield 15, 3)) (hp : pc + 3 = pc') (kk : qG X k n z h pc' L (v :: st)) : qG X k n z h pc L (.ref a :: st) := g_get (ref := "EarlyGauge$Book") C hin_0 (Cn := RX0) (T := TX0) (N := 3) rfl 1 (by decide) (AW_m 147 (by decide +kernel) rfl) (fun _ _ _ _ h => h) he hv hdg hp kk
theorem pf_0_15 (C : qC X D b l R cc RX0 nL) (hin2 : X.2.2.2.2.2.2.2.2.2.2.1.name = "<init>") (he : h a = some (.inr (0, fs))) (hn : narrow (.array .int) v = v) (hfit : fits (.array .int) v = true) (hlen : 1 < fs.length) (hdg : decode cc pc = .ok (.putfield 15, 3)) (hp : pc + 3 = pc') (kk : ∀ h1 : qH, h1 a = some (.inr (0, fs.set 1 v)) → (∀ q, q ≠ a → h1 q = h q) → qG X k n z h1 pc' L st) : qG X k n z h pc L (v :: .ref a :: st) := g_putF (ref := "EarlyGauge$Book") C hin_0 tyX0 tyX0_ok nmX0 (Cn := RX0) (T := TX0) (N := 3) rfl 1 (by decide) (AW_m 147 (by decide +kernel) rfl) (fun _ _ _ _ h => h) rfl hin2 rfl (ty := (.array .int)) (by decide +kernel) he hn hfit hlen hdg hp kk
theorem gf_0_18 (C : qC X D b l R cc RX0 nL) (he : h a = some (.inr (0, fs))) (hv : fs[2]? = some v) (hdg : decode cc pc = .ok (.getfield 18, 3)) (hp : pc + 3 = pc') (kk : qG X k n z h pc' L (v :: st)) : qG X k n z h pc L (.ref a :: st) := g_get (ref := "EarlyGauge$Book") C hin_0 (Cn := RX0) (T := TX0) (N := 3) rfl 2 (by decide) (AW_m 148 (by decide +kernel) rfl) (fun _ _ _ _ h => h) he hv hdg hp kk
theorem pf_0_18 (C : qC X D b l R cc RX0 nL) (he : h a = some (.inr (0, fs))) (hn : narrow .int v = v) (hfit : fits .int v = true) (hlen : 2 < fs.length) (hdg : decode cc pc = .ok (.putfield 18, 3)) (hp : pc + 3 = pc') (kk : ∀ h1 : qH, h1 a = some (.inr (0, fs.set 2 v)) → (∀ q, q ≠ a → h1 q = h q) → qG X k n z h1 pc' L st) : qG X k n z h pc L (v :: .ref a :: st) := g_put (ref := "EarlyGauge$Book") C hin_0 tyX0 tyX0_ok nmX0 (Cn := RX0) (T := TX0) (N := 3) rfl 2 (by decide) (AW_m 148 (by decide +kernel) rfl) (fun _ _ _ _ h => h) rfl (ty := .int) (by decide +kernel) he hn hfit hlen hdg hp kk
theorem hw_0_22 : qWV RX0 22 RX0 yX0_isSeen cX0_isSeen 3 (some .boolean) 2 := ⟨⟨(AW_m 588 (by decide +kernel) rfl), (AW_m 590 (by decide +kernel) rfl), (AW_m 7 (by decide +kernel) rfl), (AW_m 46 (by decide +kernel) rfl), cw_X0_isSeen⟩, by decide +kernel⟩
theorem hw_1_1 : qWI RX1 1 yX4_init cX4_init 3 2 := ⟨⟨(AW_m 465 (by decide +kernel) rfl), (AW_m 431 (by decide +kernel) rfl), (AW_m 51 (by decide +kernel) rfl), cw_X4_init⟩, rfl, by decide +kernel⟩
theorem hw_1_7 : qWSU RX1 7 yX4_covers cX4_covers 2 (some .boolean) 1 := ⟨⟨(AW_m 388 (by decide +kernel) rfl), (AW_m 384 (by decide +kernel) rfl), (AW_m 389 (by decide +kernel) rfl), (AW_m 382 (by decide +kernel) rfl), (AW_m 51 (by decide +kernel) rfl), cw_X4_covers⟩, by decide +kernel⟩
theorem hw_2_3 : qWI RX2 3 yX4_init cX4_init 3 2 := ⟨⟨(AW_m 430 (by decide +kernel) rfl), (AW_m 431 (by decide +kernel) rfl), (AW_m 51 (by decide +kernel) rfl), cw_X4_init⟩, rfl, by decide +kernel⟩
theorem gf_2_9 (C : qC X D b l R cc RX2 nL) (he : h a = some (.inr (2, fs))) (hv : fs[1]? = some v) (hdg : decode cc pc = .ok (.getfield 9, 3)) (hp : pc + 3 = pc') (kk : qG X k n z h pc' L (v :: st)) : qG X k n z h pc L (.ref a :: st) := g_get (ref := "EarlyGauge$Farmer") C hin_2 (Cn := RX2) (T := TX2) (N := 3) rfl 1 (by decide) (AW_m 439 (by decide +kernel) rfl) (fun s args hts x h => u_same (hts _ (AW_m 440 (by decide +kernel) rfl)) x h) he hv hdg hp kk
theorem hw_2_15 : qWV RX2 15 RX7 yX7_oddsOf cX7_oddsOf 3 (some .long) 2 := ⟨⟨(AW_m 393 (by decide +kernel) rfl), (AW_m 365 (by decide +kernel) rfl), (AW_m 366 (by decide +kernel) rfl), (AW_m 45 (by decide +kernel) rfl), cw_X7_oddsOf⟩, by decide +kernel⟩
theorem gf_2_21 (C : qC X D b l R cc RX2 nL) (he : h a = some (.inr (2, fs))) (hv : fs[0]? = some v) (hdg : decode cc pc = .ok (.getfield 21, 3)) (hp : pc + 3 = pc') (kk : qG X k n z h pc' L (v :: st)) : qG X k n z h pc L (.ref a :: st) := g_get (ref := "EarlyGauge$Farmer") C hin_2 (Cn := RX2) (T := TX2) (N := 3) rfl 0 (by decide) (AW_m 435 (by decide +kernel) rfl) (fun s args hts x h => u_same (hts _ (AW_m 436 (by decide +kernel) rfl)) x h) he hv hdg hp kk
theorem hw_2_24 : qWV RX2 24 RX7 yX7_allOdds cX7_allOdds 4 (some .long) 0 := ⟨⟨(AW_m 394 (by decide +kernel) rfl), (AW_m 348 (by decide +kernel) rfl), (AW_m 349 (by decide +kernel) rfl), (AW_m 45 (by decide +kernel) rfl), cw_X7_allOdds⟩, by decide +kernel⟩
theorem hw_3_3 : Cond.methodLink RX3 3 objectInit ∈ AW ∧ Cond.instanceMethod objectInit ∈ AW ∧ Cond.code objectInit ⟨#[0xb1]⟩ 1 none ∈ AW := ⟨(AW_m 197 (by decide +kernel) rfl), (AW_m 62 (by decide +kernel) rfl), (AW_m 63 (by decide +kernel) rfl)⟩
theorem pf_3_9 (C : qC X D b l R cc RX3 nL) (hin2 : X.2.2.2.2.2.2.2.2.2.2.1.name = "<init>") (he : h a = some (.inr (3, fs))) (hn : narrow (.array .int) v = v) (hfit : fits (.array .int) v = true) (hlen : 2 < fs.length) (hdg : decode cc pc = .ok (.putfield 9, 3)) (hp : pc + 3 = pc') (kk : ∀ h1 : qH, h1 a = some (.inr (3, fs.set 2 v)) → (∀ q, q ≠ a → h1 q = h q) → qG X k n z h1 pc' L st) : qG X k n z h pc L (v :: .ref a :: st) := g_putF (ref := "EarlyGauge$Image") C hin_3 tyX3 tyX3_ok nmX3 (Cn := RX3) (T := TX3) (N := 5) rfl 2 (by decide) (AW_m 202 (by decide +kernel) rfl) (fun _ _ _ _ h => h) rfl hin2 rfl (ty := (.array .int)) (by decide +kernel) he hn hfit hlen hdg hp kk
theorem pf_3_15 (C : qC X D b l R cc RX3 nL) (hin2 : X.2.2.2.2.2.2.2.2.2.2.1.name = "<init>") (he : h a = some (.inr (3, fs))) (hn : narrow (.object "EarlyGauge$Outlook") v = v) (hfit : fits (.object "EarlyGauge$Outlook") v = true) (hlen : 0 < fs.length) (hdg : decode cc pc = .ok (.putfield 15, 3)) (hp : pc + 3 = pc') (kk : ∀ h1 : qH, h1 a = some (.inr (3, fs.set 0 v)) → (∀ q, q ≠ a → h1 q = h q) → qG X k n z h1 pc' L st) : qG X k n z h pc L (v :: .ref a :: st) := g_putF (ref := "EarlyGauge$Image") C hin_3 tyX3 tyX3_ok nmX3 (Cn := RX3) (T := TX3) (N := 5) rfl 0 (by decide) (AW_m 198 (by decide +kernel) rfl) (fun _ _ _ _ h => h) rfl hin2 rfl (ty := (.object "EarlyGauge$Outlook")) (by decide +kernel) he hn hfit hlen hdg hp kk
theorem pf_3_19 (C : qC X D b l R cc RX3 nL) (hin2 : X.2.2.2.2.2.2.2.2.2.2.1.name = "<init>") (he : h a = some (.inr (3, fs))) (hn : narrow (.object "EarlyGauge$Book") v = v) (hfit : fits (.object "EarlyGauge$Book") v = true) (hlen : 1 < fs.length) (hdg : decode cc pc = .ok (.putfield 19, 3)) (hp : pc + 3 = pc') (kk : ∀ h1 : qH, h1 a = some (.inr (3, fs.set 1 v)) → (∀ q, q ≠ a → h1 q = h q) → qG X k n z h1 pc' L st) : qG X k n z h pc L (v :: .ref a :: st) := g_putF (ref := "EarlyGauge$Image") C hin_3 tyX3 tyX3_ok nmX3 (Cn := RX3) (T := TX3) (N := 5) rfl 1 (by decide) (AW_m 200 (by decide +kernel) rfl) (fun _ _ _ _ h => h) rfl hin2 rfl (ty := (.object "EarlyGauge$Book")) (by decide +kernel) he hn hfit hlen hdg hp kk
theorem hw_4_3 : Cond.methodLink RX4 3 objectInit ∈ AW ∧ Cond.instanceMethod objectInit ∈ AW ∧ Cond.code objectInit ⟨#[0xb1]⟩ 1 none ∈ AW := ⟨(AW_m 433 (by decide +kernel) rfl), (AW_m 62 (by decide +kernel) rfl), (AW_m 63 (by decide +kernel) rfl)⟩
theorem gf_4_9_1 (C : qC X D b l R cc RX4 nL) (he : h a = some (.inr (1, fs))) (hv : fs[0]? = some v) (hdg : decode cc pc = .ok (.getfield 9, 3)) (hp : pc + 3 = pc') (kk : qG X k n z h pc' L (v :: st)) : qG X k n z h pc L (.ref a :: st) := g_get (ref := "EarlyGauge$Keeper") C hin_1 (Cn := RX1) (T := TX1) (N := 3) rfl 0 (by decide) (AW_m 434 (by decide +kernel) rfl) (fun _ _ _ _ h => h) he hv hdg hp kk
theorem pf_4_9_1 (C : qC X D b l R cc RX4 nL) (hin2 : X.2.2.2.2.2.2.2.2.2.2.1.name = "<init>") (he : h a = some (.inr (1, fs))) (hn : narrow .int v = v) (hfit : fits .int v = true) (hlen : 0 < fs.length) (hdg : decode cc pc = .ok (.putfield 9, 3)) (hp : pc + 3 = pc') (kk : ∀ h1 : qH, h1 a = some (.inr (1, fs.set 0 v)) → (∀ q, q ≠ a → h1 q = h q) → qG X k n z h1 pc' L st) : qG X k n z h pc L (v :: .ref a :: st) := g_putF (ref := "EarlyGauge$Keeper") C hin_1 tyX1 tyX1_ok nmX1 (Cn := RX1) (T := TX1) (N := 3) rfl 0 (by decide) (AW_m 434 (by decide +kernel) rfl) (fun _ _ _ _ h => h) rfl hin2 rfl (ty := .int) (by decide +kernel) he hn hfit hlen hdg hp kk
theorem gf_4_9_2 (C : qC X D b l R cc RX4 nL) (he : h a = some (.inr (2, fs))) (hv : fs[0]? = some v) (hdg : decode cc pc = .ok (.getfield 9, 3)) (hp : pc + 3 = pc') (kk : qG X k n z h pc' L (v :: st)) : qG X k n z h pc L (.ref a :: st) := g_get (ref := "EarlyGauge$Keeper") C hin_2 (Cn := RX2) (T := TX2) (N := 3) rfl 0 (by decide) (AW_m 434 (by decide +kernel) rfl) (fun _ _ _ _ h => h) he hv hdg hp kk
theorem pf_4_9_2 (C : qC X D b l R cc RX4 nL) (hin2 : X.2.2.2.2.2.2.2.2.2.2.1.name = "<init>") (he : h a = some (.inr (2, fs))) (hn : narrow .int v = v) (hfit : fits .int v = true) (hlen : 0 < fs.length) (hdg : decode cc pc = .ok (.putfield 9, 3)) (hp : pc + 3 = pc') (kk : ∀ h1 : qH, h1 a = some (.inr (2, fs.set 0 v)) → (∀ q, q ≠ a → h1 q = h q) → qG X k n z h1 pc' L st) : qG X k n z h pc L (v :: .ref a :: st) := g_putF (ref := "EarlyGauge$Keeper") C hin_2 tyX2 tyX2_ok nmX2 (Cn := RX2) (T := TX2) (N := 3) rfl 0 (by decide) (AW_m 434 (by decide +kernel) rfl) (fun _ _ _ _ h => h) rfl hin2 rfl (ty := .int) (by decide +kernel) he hn hfit hlen hdg hp kk
theorem gf_4_9_4 (C : qC X D b l R cc RX4 nL) (he : h a = some (.inr (4, fs))) (hv : fs[0]? = some v) (hdg : decode cc pc = .ok (.getfield 9, 3)) (hp : pc + 3 = pc') (kk : qG X k n z h pc' L (v :: st)) : qG X k n z h pc L (.ref a :: st) := g_get (ref := "EarlyGauge$Keeper") C hin_4 (Cn := RX4) (T := TX4) (N := 3) rfl 0 (by decide) (AW_m 434 (by decide +kernel) rfl) (fun _ _ _ _ h => h) he hv hdg hp kk
theorem pf_4_9_4 (C : qC X D b l R cc RX4 nL) (hin2 : X.2.2.2.2.2.2.2.2.2.2.1.name = "<init>") (he : h a = some (.inr (4, fs))) (hn : narrow .int v = v) (hfit : fits .int v = true) (hlen : 0 < fs.length) (hdg : decode cc pc = .ok (.putfield 9, 3)) (hp : pc + 3 = pc') (kk : ∀ h1 : qH, h1 a = some (.inr (4, fs.set 0 v)) → (∀ q, q ≠ a → h1 q = h q) → qG X k n z h1 pc' L st) : qG X k n z h pc L (v :: .ref a :: st) := g_putF (ref := "EarlyGauge$Keeper") C hin_4 tyX4 tyX4_ok nmX4 (Cn := RX4) (T := TX4) (N := 3) rfl 0 (by decide) (AW_m 434 (by decide +kernel) rfl) (fun _ _ _ _ h => h) rfl hin2 rfl (ty := .int) (by decide +kernel) he hn hfit hlen hdg hp kk
theorem gf_4_9_5 (C : qC X D b l R cc RX4 nL) (he : h a = some (.inr (5, fs))) (hv : fs[0]? = some v) (hdg : decode cc pc = .ok (.getfield 9, 3)) (hp : pc + 3 = pc') (kk : qG X k n z h pc' L (v :: st)) : qG X k n z h pc L (.ref a :: st) := g_get (ref := "EarlyGauge$Keeper") C hin_5 (Cn := RX5) (T := TX5) (N := 3) rfl 0 (by decide) (AW_m 434 (by decide +kernel) rfl) (fun _ _ _ _ h => h) he hv hdg hp kk
theorem pf_4_9_5 (C : qC X D b l R cc RX4 nL) (hin2 : X.2.2.2.2.2.2.2.2.2.2.1.name = "<init>") (he : h a = some (.inr (5, fs))) (hn : narrow .int v = v) (hfit : fits .int v = true) (hlen : 0 < fs.length) (hdg : decode cc pc = .ok (.putfield 9, 3)) (hp : pc + 3 = pc') (kk : ∀ h1 : qH, h1 a = some (.inr (5, fs.set 0 v)) → (∀ q, q ≠ a → h1 q = h q) → qG X k n z h1 pc' L st) : qG X k n z h pc L (v :: .ref a :: st) := g_putF (ref := "EarlyGauge$Keeper") C hin_5 tyX5 tyX5_ok nmX5 (Cn := RX5) (T := TX5) (N := 3) rfl 0 (by decide) (AW_m 434 (by decide +kernel) rfl) (fun _ _ _ _ h => h) rfl hin2 rfl (ty := .int) (by decide +kernel) he hn hfit hlen hdg hp kk
theorem gf_4_9_6 (C : qC X D b l R cc RX4 nL) (he : h a = some (.inr (6, fs))) (hv : fs[0]? = some v) (hdg : decode cc pc = .ok (.getfield 9, 3)) (hp : pc + 3 = pc') (kk : qG X k n z h pc' L (v :: st)) : qG X k n z h pc L (.ref a :: st) := g_get (ref := "EarlyGauge$Keeper") C hin_6 (Cn := RX6) (T := TX6) (N := 3) rfl 0 (by decide) (AW_m 434 (by decide +kernel) rfl) (fun _ _ _ _ h => h) he hv hdg hp kk
theorem pf_4_9_6 (C : qC X D b l R cc RX4 nL) (hin2 : X.2.2.2.2.2.2.2.2.2.2.1.name = "<init>") (he : h a = some (.inr (6, fs))) (hn : narrow .int v = v) (hfit : fits .int v = true) (hlen : 0 < fs.length) (hdg : decode cc pc = .ok (.putfield 9, 3)) (hp : pc + 3 = pc') (kk : ∀ h1 : qH, h1 a = some (.inr (6, fs.set 0 v)) → (∀ q, q ≠ a → h1 q = h q) → qG X k n z h1 pc' L st) : qG X k n z h pc L (v :: .ref a :: st) := g_putF (ref := "EarlyGauge$Keeper") C hin_6 tyX6 tyX6_ok nmX6 (Cn := RX6) (T := TX6) (N := 3) rfl 0 (by decide) (AW_m 434 (by decide +kernel) rfl) (fun _ _ _ _ h => h) rfl hin2 rfl (ty := .int) (by decide +kernel) he hn hfit hlen hdg hp kk
theorem gf_4_15_1 (C : qC X D b l R cc RX4 nL) (he : h a = some (.inr (1, fs))) (hv : fs[1]? = some v) (hdg : decode cc pc = .ok (.getfield 15, 3)) (hp : pc + 3 = pc') (kk : qG X k n z h pc' L (v :: st)) : qG X k n z h pc L (.ref a :: st) := g_get (ref := "EarlyGauge$Keeper") C hin_1 (Cn := RX1) (T := TX1) (N := 3) rfl 1 (by decide) (AW_m 438 (by decide +kernel) rfl) (fun _ _ _ _ h => h) he hv hdg hp kk
theorem pf_4_15_1 (C : qC X D b l R cc RX4 nL) (hin2 : X.2.2.2.2.2.2.2.2.2.2.1.name = "<init>") (he : h a = some (.inr (1, fs))) (hn : narrow .int v = v) (hfit : fits .int v = true) (hlen : 1 < fs.length) (hdg : decode cc pc = .ok (.putfield 15, 3)) (hp : pc + 3 = pc') (kk : ∀ h1 : qH, h1 a = some (.inr (1, fs.set 1 v)) → (∀ q, q ≠ a → h1 q = h q) → qG X k n z h1 pc' L st) : qG X k n z h pc L (v :: .ref a :: st) := g_putF (ref := "EarlyGauge$Keeper") C hin_1 tyX1 tyX1_ok nmX1 (Cn := RX1) (T := TX1) (N := 3) rfl 1 (by decide) (AW_m 438 (by decide +kernel) rfl) (fun _ _ _ _ h => h) rfl hin2 rfl (ty := .int) (by decide +kernel) he hn hfit hlen hdg hp kk
theorem gf_4_15_2 (C : qC X D b l R cc RX4 nL) (he : h a = some (.inr (2, fs))) (hv : fs[1]? = some v) (hdg : decode cc pc = .ok (.getfield 15, 3)) (hp : pc + 3 = pc') (kk : qG X k n z h pc' L (v :: st)) : qG X k n z h pc L (.ref a :: st) := g_get (ref := "EarlyGauge$Keeper") C hin_2 (Cn := RX2) (T := TX2) (N := 3) rfl 1 (by decide) (AW_m 438 (by decide +kernel) rfl) (fun _ _ _ _ h => h) he hv hdg hp kk
theorem pf_4_15_2 (C : qC X D b l R cc RX4 nL) (hin2 : X.2.2.2.2.2.2.2.2.2.2.1.name = "<init>") (he : h a = some (.inr (2, fs))) (hn : narrow .int v = v) (hfit : fits .int v = true) (hlen : 1 < fs.length) (hdg : decode cc pc = .ok (.putfield 15, 3)) (hp : pc + 3 = pc') (kk : ∀ h1 : qH, h1 a = some (.inr (2, fs.set 1 v)) → (∀ q, q ≠ a → h1 q = h q) → qG X k n z h1 pc' L st) : qG X k n z h pc L (v :: .ref a :: st) := g_putF (ref := "EarlyGauge$Keeper") C hin_2 tyX2 tyX2_ok nmX2 (Cn := RX2) (T := TX2) (N := 3) rfl 1 (by decide) (AW_m 438 (by decide +kernel) rfl) (fun _ _ _ _ h => h) rfl hin2 rfl (ty := .int) (by decide +kernel) he hn hfit hlen hdg hp kk
theorem gf_4_15_4 (C : qC X D b l R cc RX4 nL) (he : h a = some (.inr (4, fs))) (hv : fs[1]? = some v) (hdg : decode cc pc = .ok (.getfield 15, 3)) (hp : pc + 3 = pc') (kk : qG X k n z h pc' L (v :: st)) : qG X k n z h pc L (.ref a :: st) := g_get (ref := "EarlyGauge$Keeper") C hin_4 (Cn := RX4) (T := TX4) (N := 3) rfl 1 (by decide) (AW_m 438 (by decide +kernel) rfl) (fun _ _ _ _ h => h) he hv hdg hp kk
theorem pf_4_15_4 (C : qC X D b l R cc RX4 nL) (hin2 : X.2.2.2.2.2.2.2.2.2.2.1.name = "<init>") (he : h a = some (.inr (4, fs))) (hn : narrow .int v = v) (hfit : fits .int v = true) (hlen : 1 < fs.length) (hdg : decode cc pc = .ok (.putfield 15, 3)) (hp : pc + 3 = pc') (kk : ∀ h1 : qH, h1 a = some (.inr (4, fs.set 1 v)) → (∀ q, q ≠ a → h1 q = h q) → qG X k n z h1 pc' L st) : qG X k n z h pc L (v :: .ref a :: st) := g_putF (ref := "EarlyGauge$Keeper") C hin_4 tyX4 tyX4_ok nmX4 (Cn := RX4) (T := TX4) (N := 3) rfl 1 (by decide) (AW_m 438 (by decide +kernel) rfl) (fun _ _ _ _ h => h) rfl hin2 rfl (ty := .int) (by decide +kernel) he hn hfit hlen hdg hp kk
theorem gf_4_15_5 (C : qC X D b l R cc RX4 nL) (he : h a = some (.inr (5, fs))) (hv : fs[1]? = some v) (hdg : decode cc pc = .ok (.getfield 15, 3)) (hp : pc + 3 = pc') (kk : qG X k n z h pc' L (v :: st)) : qG X k n z h pc L (.ref a :: st) := g_get (ref := "EarlyGauge$Keeper") C hin_5 (Cn := RX5) (T := TX5) (N := 3) rfl 1 (by decide) (AW_m 438 (by decide +kernel) rfl) (fun _ _ _ _ h => h) he hv hdg hp kk
theorem pf_4_15_5 (C : qC X D b l R cc RX4 nL) (hin2 : X.2.2.2.2.2.2.2.2.2.2.1.name = "<init>") (he : h a = some (.inr (5, fs))) (hn : narrow .int v = v) (hfit : fits .int v = true) (hlen : 1 < fs.length) (hdg : decode cc pc = .ok (.putfield 15, 3)) (hp : pc + 3 = pc') (kk : ∀ h1 : qH, h1 a = some (.inr (5, fs.set 1 v)) → (∀ q, q ≠ a → h1 q = h q) → qG X k n z h1 pc' L st) : qG X k n z h pc L (v :: .ref a :: st) := g_putF (ref := "EarlyGauge$Keeper") C hin_5 tyX5 tyX5_ok nmX5 (Cn := RX5) (T := TX5) (N := 3) rfl 1 (by decide) (AW_m 438 (by decide +kernel) rfl) (fun _ _ _ _ h => h) rfl hin2 rfl (ty := .int) (by decide +kernel) he hn hfit hlen hdg hp kk
theorem gf_4_15_6 (C : qC X D b l R cc RX4 nL) (he : h a = some (.inr (6, fs))) (hv : fs[1]? = some v) (hdg : decode cc pc = .ok (.getfield 15, 3)) (hp : pc + 3 = pc') (kk : qG X k n z h pc' L (v :: st)) : qG X k n z h pc L (.ref a :: st) := g_get (ref := "EarlyGauge$Keeper") C hin_6 (Cn := RX6) (T := TX6) (N := 3) rfl 1 (by decide) (AW_m 438 (by decide +kernel) rfl) (fun _ _ _ _ h => h) he hv hdg hp kk
theorem pf_4_15_6 (C : qC X D b l R cc RX4 nL) (hin2 : X.2.2.2.2.2.2.2.2.2.2.1.name = "<init>") (he : h a = some (.inr (6, fs))) (hn : narrow .int v = v) (hfit : fits .int v = true) (hlen : 1 < fs.length) (hdg : decode cc pc = .ok (.putfield 15, 3)) (hp : pc + 3 = pc') (kk : ∀ h1 : qH, h1 a = some (.inr (6, fs.set 1 v)) → (∀ q, q ≠ a → h1 q = h q) → qG X k n z h1 pc' L st) : qG X k n z h pc L (v :: .ref a :: st) := g_putF (ref := "EarlyGauge$Keeper") C hin_6 tyX6 tyX6_ok nmX6 (Cn := RX6) (T := TX6) (N := 3) rfl 1 (by decide) (AW_m 438 (by decide +kernel) rfl) (fun _ _ _ _ h => h) rfl hin2 rfl (ty := .int) (by decide +kernel) he hn hfit hlen hdg hp kk
theorem hw_4_18 : qWV RX4 18 RX7 yX7_readingOf cX7_readingOf 2 (some .int) 1 := ⟨⟨(AW_m 410 (by decide +kernel) rfl), (AW_m 313 (by decide +kernel) rfl), (AW_m 314 (by decide +kernel) rfl), (AW_m 45 (by decide +kernel) rfl), cw_X7_readingOf⟩, by decide +kernel⟩
theorem hw_4_24_1 : qWO RX4 24 RX1 RX4 yX4_covers yX1_covers cX1_covers 2 (some .boolean) cX4_covers 2 (some .boolean) 1 := ⟨⟨(AW_m 381 (by decide +kernel) rfl), (AW_m 384 (by decide +kernel) rfl), (AW_m 382 (by decide +kernel) rfl), (AW_m 385 (by decide +kernel) rfl), (AW_m 386 (by decide +kernel) rfl), (AW_m 54 (by decide +kernel) rfl), cw_X1_covers, cw_X4_covers⟩, by decide +kernel⟩
theorem hw_4_24_2 : qWO RX4 24 RX2 RX4 yX4_covers yX2_covers cX2_covers 2 (some .boolean) cX4_covers 2 (some .boolean) 1 := ⟨⟨(AW_m 381 (by decide +kernel) rfl), (AW_m 384 (by decide +kernel) rfl), (AW_m 382 (by decide +kernel) rfl), (AW_m 390 (by decide +kernel) rfl), (AW_m 391 (by decide +kernel) rfl), (AW_m 52 (by decide +kernel) rfl), cw_X2_covers, cw_X4_covers⟩, by decide +kernel⟩
theorem hw_4_24_4 : qWV RX4 24 RX4 yX4_covers cX4_covers 2 (some .boolean) 1 := ⟨⟨(AW_m 381 (by decide +kernel) rfl), (AW_m 382 (by decide +kernel) rfl), (AW_m 383 (by decide +kernel) rfl), (AW_m 51 (by decide +kernel) rfl), cw_X4_covers⟩, by decide +kernel⟩
theorem hw_4_24_5 : qWO RX4 24 RX5 RX4 yX4_covers yX5_covers cX5_covers 2 (some .boolean) cX4_covers 2 (some .boolean) 1 := ⟨⟨(AW_m 381 (by decide +kernel) rfl), (AW_m 384 (by decide +kernel) rfl), (AW_m 382 (by decide +kernel) rfl), (AW_m 395 (by decide +kernel) rfl), (AW_m 396 (by decide +kernel) rfl), (AW_m 55 (by decide +kernel) rfl), cw_X5_covers, cw_X4_covers⟩, by decide +kernel⟩
theorem hw_4_24_6 : qWO RX4 24 RX6 RX4 yX4_covers yX6_covers cX6_covers 2 (some .boolean) cX4_covers 2 (some .boolean) 1 := ⟨⟨(AW_m 381 (by decide +kernel) rfl), (AW_m 384 (by decide +kernel) rfl), (AW_m 382 (by decide +kernel) rfl), (AW_m 401 (by decide +kernel) rfl), (AW_m 402 (by decide +kernel) rfl), (AW_m 53 (by decide +kernel) rfl), cw_X6_covers, cw_X4_covers⟩, by decide +kernel⟩
theorem hw_5_3 : qWI RX5 3 yX1_init cX1_init 3 2 := ⟨⟨(AW_m 474 (by decide +kernel) rfl), (AW_m 463 (by decide +kernel) rfl), (AW_m 54 (by decide +kernel) rfl), cw_X1_init⟩, rfl, by decide +kernel⟩
theorem hw_5_9 : qWV RX5 9 RX7 yX7_readingOf cX7_readingOf 2 (some .int) 1 := ⟨⟨(AW_m 398 (by decide +kernel) rfl), (AW_m 313 (by decide +kernel) rfl), (AW_m 314 (by decide +kernel) rfl), (AW_m 45 (by decide +kernel) rfl), cw_X7_readingOf⟩, by decide +kernel⟩
theorem hw_5_15 : qWSU RX5 15 yX1_covers cX1_covers 2 (some .boolean) 1 := ⟨⟨(AW_m 399 (by decide +kernel) rfl), (AW_m 1037 (by decide +kernel) rfl), (AW_m 400 (by decide +kernel) rfl), (AW_m 386 (by decide +kernel) rfl), (AW_m 54 (by decide +kernel) rfl), cw_X1_covers⟩, by decide +kernel⟩
theorem hw_6_3 : qWI RX6 3 yX4_init cX4_init 3 2 := ⟨⟨(AW_m 455 (by decide +kernel) rfl), (AW_m 431 (by decide +kernel) rfl), (AW_m 51 (by decide +kernel) rfl), cw_X4_init⟩, rfl, by decide +kernel⟩
theorem hw_6_9 : qWV RX6 9 RX7 yX7_sureWeather cX7_sureWeather 4 (some .int) 1 := ⟨⟨(AW_m 404 (by decide +kernel) rfl), (AW_m 405 (by decide +kernel) rfl), (AW_m 406 (by decide +kernel) rfl), (AW_m 45 (by decide +kernel) rfl), cw_X7_sureWeather⟩, by decide +kernel⟩
theorem hw_7_3 : Cond.methodLink RX7 3 objectInit ∈ AW ∧ Cond.instanceMethod objectInit ∈ AW ∧ Cond.code objectInit ⟨#[0xb1]⟩ 1 none ∈ AW := ⟨(AW_m 105 (by decide +kernel) rfl), (AW_m 62 (by decide +kernel) rfl), (AW_m 63 (by decide +kernel) rfl)⟩
theorem gf_7_9 (C : qC X D b l R cc RX7 nL) (he : h a = some (.inr (7, fs))) (hv : fs[1]? = some v) (hdg : decode cc pc = .ok (.getfield 9, 3)) (hp : pc + 3 = pc') (kk : qG X k n z h pc' L (v :: st)) : qG X k n z h pc L (.ref a :: st) := g_get (ref := "EarlyGauge$Outlook") C hin_7 (Cn := RX7) (T := TX7) (N := 8) rfl 1 (by decide) (AW_m 111 (by decide +kernel) rfl) (fun _ _ _ _ h => h) he hv hdg hp kk
theorem pf_7_9 (C : qC X D b l R cc RX7 nL) (hin2 : X.2.2.2.2.2.2.2.2.2.2.1.name = "<init>") (he : h a = some (.inr (7, fs))) (hn : narrow (.array .int) v = v) (hfit : fits (.array .int) v = true) (hlen : 1 < fs.length) (hdg : decode cc pc = .ok (.putfield 9, 3)) (hp : pc + 3 = pc') (kk : ∀ h1 : qH, h1 a = some (.inr (7, fs.set 1 v)) → (∀ q, q ≠ a → h1 q = h q) → qG X k n z h1 pc' L st) : qG X k n z h pc L (v :: .ref a :: st) := g_putF (ref := "EarlyGauge$Outlook") C hin_7 tyX7 tyX7_ok nmX7 (Cn := RX7) (T := TX7) (N := 8) rfl 1 (by decide) (AW_m 111 (by decide +kernel) rfl) (fun _ _ _ _ h => h) rfl hin2 rfl (ty := (.array .int)) (by decide +kernel) he hn hfit hlen hdg hp kk
theorem gf_7_17 (C : qC X D b l R cc RX7 nL) (he : h a = some (.inr (7, fs))) (hv : fs[4]? = some v) (hdg : decode cc pc = .ok (.getfield 17, 3)) (hp : pc + 3 = pc') (kk : qG X k n z h pc' L (v :: st)) : qG X k n z h pc L (.ref a :: st) := g_get (ref := "EarlyGauge$Outlook") C hin_7 (Cn := RX7) (T := TX7) (N := 8) rfl 4 (by decide) (AW_m 116 (by decide +kernel) rfl) (fun _ _ _ _ h => h) he hv hdg hp kk
theorem pf_7_17 (C : qC X D b l R cc RX7 nL) (hin2 : X.2.2.2.2.2.2.2.2.2.2.1.name = "<init>") (he : h a = some (.inr (7, fs))) (hn : narrow (.array (.array .long)) v = v) (hfit : fits (.array (.array .long)) v = true) (hlen : 4 < fs.length) (hdg : decode cc pc = .ok (.putfield 17, 3)) (hp : pc + 3 = pc') (kk : ∀ h1 : qH, h1 a = some (.inr (7, fs.set 4 v)) → (∀ q, q ≠ a → h1 q = h q) → qG X k n z h1 pc' L st) : qG X k n z h pc L (v :: .ref a :: st) := g_putF (ref := "EarlyGauge$Outlook") C hin_7 tyX7 tyX7_ok nmX7 (Cn := RX7) (T := TX7) (N := 8) rfl 4 (by decide) (AW_m 116 (by decide +kernel) rfl) (fun _ _ _ _ h => h) rfl hin2 rfl (ty := (.array (.array .long))) (by decide +kernel) he hn hfit hlen hdg hp kk
theorem gf_7_20 (C : qC X D b l R cc RX7 nL) (he : h a = some (.inr (7, fs))) (hv : fs[5]? = some v) (hdg : decode cc pc = .ok (.getfield 20, 3)) (hp : pc + 3 = pc') (kk : qG X k n z h pc' L (v :: st)) : qG X k n z h pc L (.ref a :: st) := g_get (ref := "EarlyGauge$Outlook") C hin_7 (Cn := RX7) (T := TX7) (N := 8) rfl 5 (by decide) (AW_m 117 (by decide +kernel) rfl) (fun _ _ _ _ h => h) he hv hdg hp kk
theorem pf_7_20 (C : qC X D b l R cc RX7 nL) (hin2 : X.2.2.2.2.2.2.2.2.2.2.1.name = "<init>") (he : h a = some (.inr (7, fs))) (hn : narrow (.array (.array .long)) v = v) (hfit : fits (.array (.array .long)) v = true) (hlen : 5 < fs.length) (hdg : decode cc pc = .ok (.putfield 20, 3)) (hp : pc + 3 = pc') (kk : ∀ h1 : qH, h1 a = some (.inr (7, fs.set 5 v)) → (∀ q, q ≠ a → h1 q = h q) → qG X k n z h1 pc' L st) : qG X k n z h pc L (v :: .ref a :: st) := g_putF (ref := "EarlyGauge$Outlook") C hin_7 tyX7 tyX7_ok nmX7 (Cn := RX7) (T := TX7) (N := 8) rfl 5 (by decide) (AW_m 117 (by decide +kernel) rfl) (fun _ _ _ _ h => h) rfl hin2 rfl (ty := (.array (.array .long))) (by decide +kernel) he hn hfit hlen hdg hp kk
theorem gf_7_23 (C : qC X D b l R cc RX7 nL) (he : h a = some (.inr (7, fs))) (hv : fs[6]? = some v) (hdg : decode cc pc = .ok (.getfield 23, 3)) (hp : pc + 3 = pc') (kk : qG X k n z h pc' L (v :: st)) : qG X k n z h pc L (.ref a :: st) := g_get (ref := "EarlyGauge$Outlook") C hin_7 (Cn := RX7) (T := TX7) (N := 8) rfl 6 (by decide) (AW_m 118 (by decide +kernel) rfl) (fun _ _ _ _ h => h) he hv hdg hp kk
theorem pf_7_23 (C : qC X D b l R cc RX7 nL) (hin2 : X.2.2.2.2.2.2.2.2.2.2.1.name = "<init>") (he : h a = some (.inr (7, fs))) (hn : narrow (.array (.array .long)) v = v) (hfit : fits (.array (.array .long)) v = true) (hlen : 6 < fs.length) (hdg : decode cc pc = .ok (.putfield 23, 3)) (hp : pc + 3 = pc') (kk : ∀ h1 : qH, h1 a = some (.inr (7, fs.set 6 v)) → (∀ q, q ≠ a → h1 q = h q) → qG X k n z h1 pc' L st) : qG X k n z h pc L (v :: .ref a :: st) := g_putF (ref := "EarlyGauge$Outlook") C hin_7 tyX7 tyX7_ok nmX7 (Cn := RX7) (T := TX7) (N := 8) rfl 6 (by decide) (AW_m 118 (by decide +kernel) rfl) (fun _ _ _ _ h => h) rfl hin2 rfl (ty := (.array (.array .long))) (by decide +kernel) he hn hfit hlen hdg hp kk
theorem gf_7_28 (C : qC X D b l R cc RX7 nL) (he : h a = some (.inr (7, fs))) (hv : fs[7]? = some v) (hdg : decode cc pc = .ok (.getfield 28, 3)) (hp : pc + 3 = pc') (kk : qG X k n z h pc' L (v :: st)) : qG X k n z h pc L (.ref a :: st) := g_get (ref := "EarlyGauge$Outlook") C hin_7 (Cn := RX7) (T := TX7) (N := 8) rfl 7 (by decide) (AW_m 119 (by decide +kernel) rfl) (fun _ _ _ _ h => h) he hv hdg hp kk
theorem pf_7_28 (C : qC X D b l R cc RX7 nL) (hin2 : X.2.2.2.2.2.2.2.2.2.2.1.name = "<init>") (he : h a = some (.inr (7, fs))) (hn : narrow (.array (.array .int)) v = v) (hfit : fits (.array (.array .int)) v = true) (hlen : 7 < fs.length) (hdg : decode cc pc = .ok (.putfield 28, 3)) (hp : pc + 3 = pc') (kk : ∀ h1 : qH, h1 a = some (.inr (7, fs.set 7 v)) → (∀ q, q ≠ a → h1 q = h q) → qG X k n z h1 pc' L st) : qG X k n z h pc L (v :: .ref a :: st) := g_putF (ref := "EarlyGauge$Outlook") C hin_7 tyX7 tyX7_ok nmX7 (Cn := RX7) (T := TX7) (N := 8) rfl 7 (by decide) (AW_m 119 (by decide +kernel) rfl) (fun _ _ _ _ h => h) rfl hin2 rfl (ty := (.array (.array .int))) (by decide +kernel) he hn hfit hlen hdg hp kk
theorem gf_7_31 (C : qC X D b l R cc RX7 nL) (he : h a = some (.inr (7, fs))) (hv : fs[0]? = some v) (hdg : decode cc pc = .ok (.getfield 31, 3)) (hp : pc + 3 = pc') (kk : qG X k n z h pc' L (v :: st)) : qG X k n z h pc L (.ref a :: st) := g_get (ref := "EarlyGauge$Outlook") C hin_7 (Cn := RX7) (T := TX7) (N := 8) rfl 0 (by decide) (AW_m 110 (by decide +kernel) rfl) (fun _ _ _ _ h => h) he hv hdg hp kk
theorem pf_7_31 (C : qC X D b l R cc RX7 nL) (hin2 : X.2.2.2.2.2.2.2.2.2.2.1.name = "<init>") (he : h a = some (.inr (7, fs))) (hn : narrow (.object "EarlyGauge$Station") v = v) (hfit : fits (.object "EarlyGauge$Station") v = true) (hlen : 0 < fs.length) (hdg : decode cc pc = .ok (.putfield 31, 3)) (hp : pc + 3 = pc') (kk : ∀ h1 : qH, h1 a = some (.inr (7, fs.set 0 v)) → (∀ q, q ≠ a → h1 q = h q) → qG X k n z h1 pc' L st) : qG X k n z h pc L (v :: .ref a :: st) := g_putF (ref := "EarlyGauge$Outlook") C hin_7 tyX7 tyX7_ok nmX7 (Cn := RX7) (T := TX7) (N := 8) rfl 0 (by decide) (AW_m 110 (by decide +kernel) rfl) (fun _ _ _ _ h => h) rfl hin2 rfl (ty := (.object "EarlyGauge$Station")) (by decide +kernel) he hn hfit hlen hdg hp kk
theorem gf_7_35 (C : qC X D b l R cc RX7 nL) (he : h a = some (.inr (7, fs))) (hv : fs[2]? = some v) (hdg : decode cc pc = .ok (.getfield 35, 3)) (hp : pc + 3 = pc') (kk : qG X k n z h pc' L (v :: st)) : qG X k n z h pc L (.ref a :: st) := g_get (ref := "EarlyGauge$Outlook") C hin_7 (Cn := RX7) (T := TX7) (N := 8) rfl 2 (by decide) (AW_m 112 (by decide +kernel) rfl) (fun _ _ _ _ h => h) he hv hdg hp kk
theorem pf_7_35 (C : qC X D b l R cc RX7 nL) (he : h a = some (.inr (7, fs))) (hn : narrow .int v = v) (hfit : fits .int v = true) (hlen : 2 < fs.length) (hdg : decode cc pc = .ok (.putfield 35, 3)) (hp : pc + 3 = pc') (kk : ∀ h1 : qH, h1 a = some (.inr (7, fs.set 2 v)) → (∀ q, q ≠ a → h1 q = h q) → qG X k n z h1 pc' L st) : qG X k n z h pc L (v :: .ref a :: st) := g_put (ref := "EarlyGauge$Outlook") C hin_7 tyX7 tyX7_ok nmX7 (Cn := RX7) (T := TX7) (N := 8) rfl 2 (by decide) (AW_m 112 (by decide +kernel) rfl) (fun _ _ _ _ h => h) rfl (ty := .int) (by decide +kernel) he hn hfit hlen hdg hp kk
theorem gf_7_39 (C : qC X D b l R cc RX7 nL) (he : h a = some (.inr (7, fs))) (hv : fs[3]? = some v) (hdg : decode cc pc = .ok (.getfield 39, 3)) (hp : pc + 3 = pc') (kk : qG X k n z h pc' L (v :: st)) : qG X k n z h pc L (.ref a :: st) := g_get (ref := "EarlyGauge$Outlook") C hin_7 (Cn := RX7) (T := TX7) (N := 8) rfl 3 (by decide) (AW_m 114 (by decide +kernel) rfl) (fun _ _ _ _ h => h) he hv hdg hp kk
theorem pf_7_39 (C : qC X D b l R cc RX7 nL) (he : h a = some (.inr (7, fs))) (hn : narrow .int v = v) (hfit : fits .int v = true) (hlen : 3 < fs.length) (hdg : decode cc pc = .ok (.putfield 39, 3)) (hp : pc + 3 = pc') (kk : ∀ h1 : qH, h1 a = some (.inr (7, fs.set 3 v)) → (∀ q, q ≠ a → h1 q = h q) → qG X k n z h1 pc' L st) : qG X k n z h pc L (v :: .ref a :: st) := g_put (ref := "EarlyGauge$Outlook") C hin_7 tyX7 tyX7_ok nmX7 (Cn := RX7) (T := TX7) (N := 8) rfl 3 (by decide) (AW_m 114 (by decide +kernel) rfl) (fun _ _ _ _ h => h) rfl (ty := .int) (by decide +kernel) he hn hfit hlen hdg hp kk
theorem hw_7_42 : qWV RX7 42 RX7 yX7_reckon cX7_reckon 1 none 0 := ⟨⟨(AW_m 296 (by decide +kernel) rfl), (AW_m 298 (by decide +kernel) rfl), (AW_m 2 (by decide +kernel) rfl), (AW_m 45 (by decide +kernel) rfl), cw_X7_reckon⟩, by decide +kernel⟩
theorem gf_7_45 (C : qC X D b l R cc RX7 nL) (he : h a = some (.inr (9, fs))) (hv : fs[1]? = some v) (hdg : decode cc pc = .ok (.getfield 45, 3)) (hp : pc + 3 = pc') (kk : qG X k n z h pc' L (v :: st)) : qG X k n z h pc L (.ref a :: st) := g_getN (ref := "EarlyGauge$Station") (host := "EarlyGauge") C hin_9 (Cn := RX9) (T := TX9) (N := 3) rfl 1 (by decide) (by decide +kernel) (fun _ _ _ _ h => h) he hv hdg hp kk
theorem hw_7_50 : qWV RX7 50 RX7 yX7_allOdds cX7_allOdds 4 (some .long) 0 := ⟨⟨(AW_m 347 (by decide +kernel) rfl), (AW_m 348 (by decide +kernel) rfl), (AW_m 349 (by decide +kernel) rfl), (AW_m 45 (by decide +kernel) rfl), cw_X7_allOdds⟩, by decide +kernel⟩
theorem hw_7_54 : qWSN RX7 54 "EarlyGauge" yX11_isAhead cX11_isAhead 1 (some .boolean) 1 := ⟨⟨by decide +kernel, (AW_m 369 (by decide +kernel) rfl), (AW_m 42 (by decide +kernel) rfl), cw_X11_isAhead⟩, by decide +kernel⟩
theorem hw_7_58 : qWSN RX7 58 "EarlyGauge" yX11_isWeather cX11_isWeather 1 (some .boolean) 1 := ⟨⟨by decide +kernel, (AW_m 332 (by decide +kernel) rfl), (AW_m 42 (by decide +kernel) rfl), cw_X11_isWeather⟩, by decide +kernel⟩
theorem hw_7_61 : qWV RX7 61 RX7 yX7_oddsOf cX7_oddsOf 3 (some .long) 2 := ⟨⟨(AW_m 408 (by decide +kernel) rfl), (AW_m 365 (by decide +kernel) rfl), (AW_m 366 (by decide +kernel) rfl), (AW_m 45 (by decide +kernel) rfl), cw_X7_oddsOf⟩, by decide +kernel⟩
theorem hw_7_65 : qWV RX7 65 RX7 yX7_stepOdds cX7_stepOdds 4 (some .long) 3 := ⟨⟨(AW_m 304 (by decide +kernel) rfl), (AW_m 306 (by decide +kernel) rfl), (AW_m 4 (by decide +kernel) rfl), (AW_m 45 (by decide +kernel) rfl), cw_X7_stepOdds⟩, by decide +kernel⟩
theorem hw_7_69 : qWV RX7 69 RX9 yX9_fit cX9_fit 3 (some .int) 2 := ⟨⟨(AW_m 316 (by decide +kernel) rfl), (AW_m 317 (by decide +kernel) rfl), (AW_m 318 (by decide +kernel) rfl), (AW_m 43 (by decide +kernel) rfl), cw_X9_fit⟩, by decide +kernel⟩
theorem hw_7_73 : Cond.methodLink RX7 73 Lib.MathLoose.min_long.x ∈ AW ∧ Cond.static Lib.MathLoose.min_long.x ∈ AW ∧ Cond.initialized "java/lang/Math" ∈ AW ∧ Cond.code Lib.MathLoose.min_long.x Lib.MathLoose.min_long.code 4 (some .long) ∈ AW := ⟨(AW_m 565 (by decide +kernel) rfl), (AW_m 566 (by decide +kernel) rfl), (AW_m 50 (by decide +kernel) rfl), (AW_m 567 (by decide +kernel) rfl)⟩
theorem hw_7_79 : qWV RX7 79 RX7 yX7_reckonBehind cX7_reckonBehind 6 none 0 := ⟨⟨(AW_m 300 (by decide +kernel) rfl), (AW_m 302 (by decide +kernel) rfl), (AW_m 3 (by decide +kernel) rfl), (AW_m 45 (by decide +kernel) rfl), cw_X7_reckonBehind⟩, by decide +kernel⟩
theorem hw_7_82 : qWV RX7 82 RX7 yX7_reckonUntil cX7_reckonUntil 4 none 0 := ⟨⟨(AW_m 323 (by decide +kernel) rfl), (AW_m 325 (by decide +kernel) rfl), (AW_m 5 (by decide +kernel) rfl), (AW_m 45 (by decide +kernel) rfl), cw_X7_reckonUntil⟩, by decide +kernel⟩
theorem hw_7_85 : Cond.methodLink RX7 85 Lib.MathLoose.max_long.x ∈ AW ∧ Cond.static Lib.MathLoose.max_long.x ∈ AW ∧ Cond.initialized "java/lang/Math" ∈ AW ∧ Cond.code Lib.MathLoose.max_long.x Lib.MathLoose.max_long.code 4 (some .long) ∈ AW := ⟨(AW_m 320 (by decide +kernel) rfl), (AW_m 321 (by decide +kernel) rfl), (AW_m 50 (by decide +kernel) rfl), (AW_m 322 (by decide +kernel) rfl)⟩
theorem hw_7_88 : qWV RX7 88 RX9 yX9_tenthsFrom cX9_tenthsFrom 4 (some .int) 2 := ⟨⟨(AW_m 308 (by decide +kernel) rfl), (AW_m 309 (by decide +kernel) rfl), (AW_m 310 (by decide +kernel) rfl), (AW_m 43 (by decide +kernel) rfl), cw_X9_tenthsFrom⟩, by decide +kernel⟩
theorem hw_7_91 : qWV RX7 91 RX7 yX7_readingOf cX7_readingOf 2 (some .int) 1 := ⟨⟨(AW_m 312 (by decide +kernel) rfl), (AW_m 313 (by decide +kernel) rfl), (AW_m 314 (by decide +kernel) rfl), (AW_m 45 (by decide +kernel) rfl), cw_X7_readingOf⟩, by decide +kernel⟩
theorem hw_8_3 : Cond.methodLink RX8 3 objectInit ∈ AW ∧ Cond.instanceMethod objectInit ∈ AW ∧ Cond.code objectInit ⟨#[0xb1]⟩ 1 none ∈ AW := ⟨(AW_m 91 (by decide +kernel) rfl), (AW_m 62 (by decide +kernel) rfl), (AW_m 63 (by decide +kernel) rfl)⟩
theorem gf_8_11 (C : qC X D b l R cc RX8 nL) (he : h a = some (.inr (8, fs))) (hv : fs[0]? = some v) (hdg : decode cc pc = .ok (.getfield 11, 3)) (hp : pc + 3 = pc') (kk : qG X k n z h pc' L (v :: st)) : qG X k n z h pc L (.ref a :: st) := g_get (ref := "EarlyGauge$Page") C hin_8 (Cn := RX8) (T := TX8) (N := 2) rfl 0 (by decide) (AW_m 92 (by decide +kernel) rfl) (fun _ _ _ _ h => h) he hv hdg hp kk
theorem pf_8_11 (C : qC X D b l R cc RX8 nL) (hin2 : X.2.2.2.2.2.2.2.2.2.2.1.name = "<init>") (he : h a = some (.inr (8, fs))) (hn : narrow (.array .int) v = v) (hfit : fits (.array .int) v = true) (hlen : 0 < fs.length) (hdg : decode cc pc = .ok (.putfield 11, 3)) (hp : pc + 3 = pc') (kk : ∀ h1 : qH, h1 a = some (.inr (8, fs.set 0 v)) → (∀ q, q ≠ a → h1 q = h q) → qG X k n z h1 pc' L st) : qG X k n z h pc L (v :: .ref a :: st) := g_putF (ref := "EarlyGauge$Page") C hin_8 tyX8 tyX8_ok nmX8 (Cn := RX8) (T := TX8) (N := 2) rfl 0 (by decide) (AW_m 92 (by decide +kernel) rfl) (fun _ _ _ _ h => h) rfl hin2 rfl (ty := (.array .int)) (by decide +kernel) he hn hfit hlen hdg hp kk
theorem gf_8_15 (C : qC X D b l R cc RX8 nL) (he : h a = some (.inr (8, fs))) (hv : fs[1]? = some v) (hdg : decode cc pc = .ok (.getfield 15, 3)) (hp : pc + 3 = pc') (kk : qG X k n z h pc' L (v :: st)) : qG X k n z h pc L (.ref a :: st) := g_get (ref := "EarlyGauge$Page") C hin_8 (Cn := RX8) (T := TX8) (N := 2) rfl 1 (by decide) (AW_m 93 (by decide +kernel) rfl) (fun _ _ _ _ h => h) he hv hdg hp kk
theorem pf_8_15 (C : qC X D b l R cc RX8 nL) (he : h a = some (.inr (8, fs))) (hn : narrow .int v = v) (hfit : fits .int v = true) (hlen : 1 < fs.length) (hdg : decode cc pc = .ok (.putfield 15, 3)) (hp : pc + 3 = pc') (kk : ∀ h1 : qH, h1 a = some (.inr (8, fs.set 1 v)) → (∀ q, q ≠ a → h1 q = h q) → qG X k n z h1 pc' L st) : qG X k n z h pc L (v :: .ref a :: st) := g_put (ref := "EarlyGauge$Page") C hin_8 tyX8 tyX8_ok nmX8 (Cn := RX8) (T := TX8) (N := 2) rfl 1 (by decide) (AW_m 93 (by decide +kernel) rfl) (fun _ _ _ _ h => h) rfl (ty := .int) (by decide +kernel) he hn hfit hlen hdg hp kk
theorem hw_8_19 : qWV RX8 19 RX8 yX8_codeAt cX8_codeAt 2 (some .int) 1 := ⟨⟨(AW_m 270 (by decide +kernel) rfl), (AW_m 271 (by decide +kernel) rfl), (AW_m 272 (by decide +kernel) rfl), (AW_m 44 (by decide +kernel) rfl), cw_X8_codeAt⟩, by decide +kernel⟩
theorem hw_8_23 : qWV RX8 23 RX8 yX8_firstFault cX8_firstFault 2 (some .int) 0 := ⟨⟨(AW_m 286 (by decide +kernel) rfl), (AW_m 259 (by decide +kernel) rfl), (AW_m 260 (by decide +kernel) rfl), (AW_m 44 (by decide +kernel) rfl), cw_X8_firstFault⟩, by decide +kernel⟩
theorem hw_8_27 : qWV RX8 27 RX8 yX8_isGoodAt cX8_isGoodAt 2 (some .boolean) 1 := ⟨⟨(AW_m 262 (by decide +kernel) rfl), (AW_m 264 (by decide +kernel) rfl), (AW_m 0 (by decide +kernel) rfl), (AW_m 44 (by decide +kernel) rfl), cw_X8_isGoodAt⟩, by decide +kernel⟩
theorem hw_8_31 : qWV RX8 31 RX8 yX8_digitAt cX8_digitAt 3 (some .int) 1 := ⟨⟨(AW_m 266 (by decide +kernel) rfl), (AW_m 267 (by decide +kernel) rfl), (AW_m 268 (by decide +kernel) rfl), (AW_m 44 (by decide +kernel) rfl), cw_X8_digitAt⟩, by decide +kernel⟩
theorem hw_8_34 : qWV RX8 34 RX8 yX8_isGoodTenths cX8_isGoodTenths 4 (some .boolean) 1 := ⟨⟨(AW_m 274 (by decide +kernel) rfl), (AW_m 276 (by decide +kernel) rfl), (AW_m 1 (by decide +kernel) rfl), (AW_m 44 (by decide +kernel) rfl), cw_X8_isGoodTenths⟩, by decide +kernel⟩
theorem hw_9_3 : Cond.methodLink RX9 3 objectInit ∈ AW ∧ Cond.instanceMethod objectInit ∈ AW ∧ Cond.code objectInit ⟨#[0xb1]⟩ 1 none ∈ AW := ⟨(AW_m 69 (by decide +kernel) rfl), (AW_m 62 (by decide +kernel) rfl), (AW_m 63 (by decide +kernel) rfl)⟩
theorem gf_9_9 (C : qC X D b l R cc RX9 nL) (he : h a = some (.inr (9, fs))) (hv : fs[0]? = some v) (hdg : decode cc pc = .ok (.getfield 9, 3)) (hp : pc + 3 = pc') (kk : qG X k n z h pc' L (v :: st)) : qG X k n z h pc L (.ref a :: st) := g_get (ref := "EarlyGauge$Station") C hin_9 (Cn := RX9) (T := TX9) (N := 3) rfl 0 (by decide) (AW_m 70 (by decide +kernel) rfl) (fun _ _ _ _ h => h) he hv hdg hp kk
theorem pf_9_9 (C : qC X D b l R cc RX9 nL) (hin2 : X.2.2.2.2.2.2.2.2.2.2.1.name = "<init>") (he : h a = some (.inr (9, fs))) (hn : narrow (.array .int) v = v) (hfit : fits (.array .int) v = true) (hlen : 0 < fs.length) (hdg : decode cc pc = .ok (.putfield 9, 3)) (hp : pc + 3 = pc') (kk : ∀ h1 : qH, h1 a = some (.inr (9, fs.set 0 v)) → (∀ q, q ≠ a → h1 q = h q) → qG X k n z h1 pc' L st) : qG X k n z h pc L (v :: .ref a :: st) := g_putF (ref := "EarlyGauge$Station") C hin_9 tyX9 tyX9_ok nmX9 (Cn := RX9) (T := TX9) (N := 3) rfl 0 (by decide) (AW_m 70 (by decide +kernel) rfl) (fun _ _ _ _ h => h) rfl hin2 rfl (ty := (.array .int)) (by decide +kernel) he hn hfit hlen hdg hp kk
theorem gf_9_15 (C : qC X D b l R cc RX9 nL) (he : h a = some (.inr (9, fs))) (hv : fs[1]? = some v) (hdg : decode cc pc = .ok (.getfield 15, 3)) (hp : pc + 3 = pc') (kk : qG X k n z h pc' L (v :: st)) : qG X k n z h pc L (.ref a :: st) := g_get (ref := "EarlyGauge$Station") C hin_9 (Cn := RX9) (T := TX9) (N := 3) rfl 1 (by decide) (AW_m 71 (by decide +kernel) rfl) (fun _ _ _ _ h => h) he hv hdg hp kk
theorem pf_9_15 (C : qC X D b l R cc RX9 nL) (he : h a = some (.inr (9, fs))) (hn : narrow .int v = v) (hfit : fits .int v = true) (hlen : 1 < fs.length) (hdg : decode cc pc = .ok (.putfield 15, 3)) (hp : pc + 3 = pc') (kk : ∀ h1 : qH, h1 a = some (.inr (9, fs.set 1 v)) → (∀ q, q ≠ a → h1 q = h q) → qG X k n z h1 pc' L st) : qG X k n z h pc L (v :: .ref a :: st) := g_put (ref := "EarlyGauge$Station") C hin_9 tyX9 tyX9_ok nmX9 (Cn := RX9) (T := TX9) (N := 3) rfl 1 (by decide) (AW_m 71 (by decide +kernel) rfl) (fun _ _ _ _ h => h) rfl (ty := .int) (by decide +kernel) he hn hfit hlen hdg hp kk
theorem hw_9_21 : qWV RX9 21 RX8 yX8_digitAt cX8_digitAt 3 (some .int) 1 := ⟨⟨(AW_m 291 (by decide +kernel) rfl), (AW_m 267 (by decide +kernel) rfl), (AW_m 268 (by decide +kernel) rfl), (AW_m 44 (by decide +kernel) rfl), cw_X8_digitAt⟩, by decide +kernel⟩
theorem gf_9_25 (C : qC X D b l R cc RX9 nL) (he : h a = some (.inr (9, fs))) (hv : fs[2]? = some v) (hdg : decode cc pc = .ok (.getfield 25, 3)) (hp : pc + 3 = pc') (kk : qG X k n z h pc' L (v :: st)) : qG X k n z h pc L (.ref a :: st) := g_get (ref := "EarlyGauge$Station") C hin_9 (Cn := RX9) (T := TX9) (N := 3) rfl 2 (by decide) (AW_m 75 (by decide +kernel) rfl) (fun _ _ _ _ h => h) he hv hdg hp kk
theorem pf_9_25 (C : qC X D b l R cc RX9 nL) (he : h a = some (.inr (9, fs))) (hn : narrow .int v = v) (hfit : fits .int v = true) (hlen : 2 < fs.length) (hdg : decode cc pc = .ok (.putfield 25, 3)) (hp : pc + 3 = pc') (kk : ∀ h1 : qH, h1 a = some (.inr (9, fs.set 2 v)) → (∀ q, q ≠ a → h1 q = h q) → qG X k n z h1 pc' L st) : qG X k n z h pc L (v :: .ref a :: st) := g_put (ref := "EarlyGauge$Station") C hin_9 tyX9 tyX9_ok nmX9 (Cn := RX9) (T := TX9) (N := 3) rfl 2 (by decide) (AW_m 75 (by decide +kernel) rfl) (fun _ _ _ _ h => h) rfl (ty := .int) (by decide +kernel) he hn hfit hlen hdg hp kk
theorem hw_10_3 : Cond.methodLink RX10 3 objectInit ∈ AW ∧ Cond.instanceMethod objectInit ∈ AW ∧ Cond.code objectInit ⟨#[0xb1]⟩ 1 none ∈ AW := ⟨(AW_m 162 (by decide +kernel) rfl), (AW_m 62 (by decide +kernel) rfl), (AW_m 63 (by decide +kernel) rfl)⟩
theorem gf_10_9 (C : qC X D b l R cc RX10 nL) (he : h a = some (.inr (10, fs))) (hv : fs[2]? = some v) (hdg : decode cc pc = .ok (.getfield 9, 3)) (hp : pc + 3 = pc') (kk : qG X k n z h pc' L (v :: st)) : qG X k n z h pc L (.ref a :: st) := g_get (ref := "EarlyGauge$Trial") C hin_10 (Cn := RX10) (T := TX10) (N := 8) rfl 2 (by decide) (AW_m 165 (by decide +kernel) rfl) (fun _ _ _ _ h => h) he hv hdg hp kk
theorem pf_10_9 (C : qC X D b l R cc RX10 nL) (hin2 : X.2.2.2.2.2.2.2.2.2.2.1.name = "<init>") (he : h a = some (.inr (10, fs))) (hn : narrow (.array .int) v = v) (hfit : fits (.array .int) v = true) (hlen : 2 < fs.length) (hdg : decode cc pc = .ok (.putfield 9, 3)) (hp : pc + 3 = pc') (kk : ∀ h1 : qH, h1 a = some (.inr (10, fs.set 2 v)) → (∀ q, q ≠ a → h1 q = h q) → qG X k n z h1 pc' L st) : qG X k n z h pc L (v :: .ref a :: st) := g_putF (ref := "EarlyGauge$Trial") C hin_10 tyX10 tyX10_ok nmX10 (Cn := RX10) (T := TX10) (N := 8) rfl 2 (by decide) (AW_m 165 (by decide +kernel) rfl) (fun _ _ _ _ h => h) rfl hin2 rfl (ty := (.array .int)) (by decide +kernel) he hn hfit hlen hdg hp kk
theorem gf_10_15 (C : qC X D b l R cc RX10 nL) (he : h a = some (.inr (10, fs))) (hv : fs[0]? = some v) (hdg : decode cc pc = .ok (.getfield 15, 3)) (hp : pc + 3 = pc') (kk : qG X k n z h pc' L (v :: st)) : qG X k n z h pc L (.ref a :: st) := g_get (ref := "EarlyGauge$Trial") C hin_10 (Cn := RX10) (T := TX10) (N := 8) rfl 0 (by decide) (AW_m 163 (by decide +kernel) rfl) (fun _ _ _ _ h => h) he hv hdg hp kk
theorem pf_10_15 (C : qC X D b l R cc RX10 nL) (hin2 : X.2.2.2.2.2.2.2.2.2.2.1.name = "<init>") (he : h a = some (.inr (10, fs))) (hn : narrow (.object "EarlyGauge$Station") v = v) (hfit : fits (.object "EarlyGauge$Station") v = true) (hlen : 0 < fs.length) (hdg : decode cc pc = .ok (.putfield 15, 3)) (hp : pc + 3 = pc') (kk : ∀ h1 : qH, h1 a = some (.inr (10, fs.set 0 v)) → (∀ q, q ≠ a → h1 q = h q) → qG X k n z h1 pc' L st) : qG X k n z h pc L (v :: .ref a :: st) := g_putF (ref := "EarlyGauge$Trial") C hin_10 tyX10 tyX10_ok nmX10 (Cn := RX10) (T := TX10) (N := 8) rfl 0 (by decide) (AW_m 163 (by decide +kernel) rfl) (fun _ _ _ _ h => h) rfl hin2 rfl (ty := (.object "EarlyGauge$Station")) (by decide +kernel) he hn hfit hlen hdg hp kk
theorem gf_10_19 (C : qC X D b l R cc RX10 nL) (he : h a = some (.inr (10, fs))) (hv : fs[1]? = some v) (hdg : decode cc pc = .ok (.getfield 19, 3)) (hp : pc + 3 = pc') (kk : qG X k n z h pc' L (v :: st)) : qG X k n z h pc L (.ref a :: st) := g_get (ref := "EarlyGauge$Trial") C hin_10 (Cn := RX10) (T := TX10) (N := 8) rfl 1 (by decide) (AW_m 164 (by decide +kernel) rfl) (fun _ _ _ _ h => h) he hv hdg hp kk
theorem pf_10_19 (C : qC X D b l R cc RX10 nL) (hin2 : X.2.2.2.2.2.2.2.2.2.2.1.name = "<init>") (he : h a = some (.inr (10, fs))) (hn : narrow (.object "EarlyGauge$Outlook") v = v) (hfit : fits (.object "EarlyGauge$Outlook") v = true) (hlen : 1 < fs.length) (hdg : decode cc pc = .ok (.putfield 19, 3)) (hp : pc + 3 = pc') (kk : ∀ h1 : qH, h1 a = some (.inr (10, fs.set 1 v)) → (∀ q, q ≠ a → h1 q = h q) → qG X k n z h1 pc' L st) : qG X k n z h pc L (v :: .ref a :: st) := g_putF (ref := "EarlyGauge$Trial") C hin_10 tyX10 tyX10_ok nmX10 (Cn := RX10) (T := TX10) (N := 8) rfl 1 (by decide) (AW_m 164 (by decide +kernel) rfl) (fun _ _ _ _ h => h) rfl hin2 rfl (ty := (.object "EarlyGauge$Outlook")) (by decide +kernel) he hn hfit hlen hdg hp kk
theorem hw_10_23 : qWV RX10 23 RX7 yX7_startAnew cX7_startAnew 3 none 1 := ⟨⟨(AW_m 608 (by decide +kernel) rfl), (AW_m 293 (by decide +kernel) rfl), (AW_m 294 (by decide +kernel) rfl), (AW_m 45 (by decide +kernel) rfl), cw_X7_startAnew⟩, by decide +kernel⟩
theorem gf_10_29 (C : qC X D b l R cc RX10 nL) (he : h a = some (.inr (10, fs))) (hv : fs[3]? = some v) (hdg : decode cc pc = .ok (.getfield 29, 3)) (hp : pc + 3 = pc') (kk : qG X k n z h pc' L (v :: st)) : qG X k n z h pc L (.ref a :: st) := g_get (ref := "EarlyGauge$Trial") C hin_10 (Cn := RX10) (T := TX10) (N := 8) rfl 3 (by decide) (AW_m 166 (by decide +kernel) rfl) (fun _ _ _ _ h => h) he hv hdg hp kk
theorem pf_10_29 (C : qC X D b l R cc RX10 nL) (he : h a = some (.inr (10, fs))) (hn : narrow .int v = v) (hfit : fits .int v = true) (hlen : 3 < fs.length) (hdg : decode cc pc = .ok (.putfield 29, 3)) (hp : pc + 3 = pc') (kk : ∀ h1 : qH, h1 a = some (.inr (10, fs.set 3 v)) → (∀ q, q ≠ a → h1 q = h q) → qG X k n z h1 pc' L st) : qG X k n z h pc L (v :: .ref a :: st) := g_put (ref := "EarlyGauge$Trial") C hin_10 tyX10 tyX10_ok nmX10 (Cn := RX10) (T := TX10) (N := 8) rfl 3 (by decide) (AW_m 166 (by decide +kernel) rfl) (fun _ _ _ _ h => h) rfl (ty := .int) (by decide +kernel) he hn hfit hlen hdg hp kk
theorem gf_10_33 (C : qC X D b l R cc RX10 nL) (he : h a = some (.inr (10, fs))) (hv : fs[4]? = some v) (hdg : decode cc pc = .ok (.getfield 33, 3)) (hp : pc + 3 = pc') (kk : qG X k n z h pc' L (v :: st)) : qG X k n z h pc L (.ref a :: st) := g_get (ref := "EarlyGauge$Trial") C hin_10 (Cn := RX10) (T := TX10) (N := 8) rfl 4 (by decide) (AW_m 167 (by decide +kernel) rfl) (fun _ _ _ _ h => h) he hv hdg hp kk
theorem pf_10_33 (C : qC X D b l R cc RX10 nL) (he : h a = some (.inr (10, fs))) (hn : narrow .long v = v) (hfit : fits .long v = true) (hlen : 4 < fs.length) (hdg : decode cc pc = .ok (.putfield 33, 3)) (hp : pc + 3 = pc') (kk : ∀ h1 : qH, h1 a = some (.inr (10, fs.set 4 v)) → (∀ q, q ≠ a → h1 q = h q) → qG X k n z h1 pc' L st) : qG X k n z h pc L (v :: .ref a :: st) := g_put (ref := "EarlyGauge$Trial") C hin_10 tyX10 tyX10_ok nmX10 (Cn := RX10) (T := TX10) (N := 8) rfl 4 (by decide) (AW_m 167 (by decide +kernel) rfl) (fun _ _ _ _ h => h) rfl (ty := .long) (by decide +kernel) he hn hfit hlen hdg hp kk
theorem gf_10_37 (C : qC X D b l R cc RX10 nL) (he : h a = some (.inr (10, fs))) (hv : fs[5]? = some v) (hdg : decode cc pc = .ok (.getfield 37, 3)) (hp : pc + 3 = pc') (kk : qG X k n z h pc' L (v :: st)) : qG X k n z h pc L (.ref a :: st) := g_get (ref := "EarlyGauge$Trial") C hin_10 (Cn := RX10) (T := TX10) (N := 8) rfl 5 (by decide) (AW_m 169 (by decide +kernel) rfl) (fun _ _ _ _ h => h) he hv hdg hp kk
theorem pf_10_37 (C : qC X D b l R cc RX10 nL) (he : h a = some (.inr (10, fs))) (hn : narrow .int v = v) (hfit : fits .int v = true) (hlen : 5 < fs.length) (hdg : decode cc pc = .ok (.putfield 37, 3)) (hp : pc + 3 = pc') (kk : ∀ h1 : qH, h1 a = some (.inr (10, fs.set 5 v)) → (∀ q, q ≠ a → h1 q = h q) → qG X k n z h1 pc' L st) : qG X k n z h pc L (v :: .ref a :: st) := g_put (ref := "EarlyGauge$Trial") C hin_10 tyX10 tyX10_ok nmX10 (Cn := RX10) (T := TX10) (N := 8) rfl 5 (by decide) (AW_m 169 (by decide +kernel) rfl) (fun _ _ _ _ h => h) rfl (ty := .int) (by decide +kernel) he hn hfit hlen hdg hp kk
theorem gf_10_40 (C : qC X D b l R cc RX10 nL) (he : h a = some (.inr (10, fs))) (hv : fs[6]? = some v) (hdg : decode cc pc = .ok (.getfield 40, 3)) (hp : pc + 3 = pc') (kk : qG X k n z h pc' L (v :: st)) : qG X k n z h pc L (.ref a :: st) := g_get (ref := "EarlyGauge$Trial") C hin_10 (Cn := RX10) (T := TX10) (N := 8) rfl 6 (by decide) (AW_m 171 (by decide +kernel) rfl) (fun _ _ _ _ h => h) he hv hdg hp kk
theorem pf_10_40 (C : qC X D b l R cc RX10 nL) (he : h a = some (.inr (10, fs))) (hn : narrow .int v = v) (hfit : fits .int v = true) (hlen : 6 < fs.length) (hdg : decode cc pc = .ok (.putfield 40, 3)) (hp : pc + 3 = pc') (kk : ∀ h1 : qH, h1 a = some (.inr (10, fs.set 6 v)) → (∀ q, q ≠ a → h1 q = h q) → qG X k n z h1 pc' L st) : qG X k n z h pc L (v :: .ref a :: st) := g_put (ref := "EarlyGauge$Trial") C hin_10 tyX10 tyX10_ok nmX10 (Cn := RX10) (T := TX10) (N := 8) rfl 6 (by decide) (AW_m 171 (by decide +kernel) rfl) (fun _ _ _ _ h => h) rfl (ty := .int) (by decide +kernel) he hn hfit hlen hdg hp kk
theorem gf_10_43 (C : qC X D b l R cc RX10 nL) (he : h a = some (.inr (10, fs))) (hv : fs[7]? = some v) (hdg : decode cc pc = .ok (.getfield 43, 3)) (hp : pc + 3 = pc') (kk : qG X k n z h pc' L (v :: st)) : qG X k n z h pc L (.ref a :: st) := g_get (ref := "EarlyGauge$Trial") C hin_10 (Cn := RX10) (T := TX10) (N := 8) rfl 7 (by decide) (AW_m 173 (by decide +kernel) rfl) (fun _ _ _ _ h => h) he hv hdg hp kk
theorem pf_10_43 (C : qC X D b l R cc RX10 nL) (he : h a = some (.inr (10, fs))) (hn : narrow .int v = v) (hfit : fits .int v = true) (hlen : 7 < fs.length) (hdg : decode cc pc = .ok (.putfield 43, 3)) (hp : pc + 3 = pc') (kk : ∀ h1 : qH, h1 a = some (.inr (10, fs.set 7 v)) → (∀ q, q ≠ a → h1 q = h q) → qG X k n z h1 pc' L st) : qG X k n z h pc L (v :: .ref a :: st) := g_put (ref := "EarlyGauge$Trial") C hin_10 tyX10 tyX10_ok nmX10 (Cn := RX10) (T := TX10) (N := 8) rfl 7 (by decide) (AW_m 173 (by decide +kernel) rfl) (fun _ _ _ _ h => h) rfl (ty := .int) (by decide +kernel) he hn hfit hlen hdg hp kk
theorem gf_10_46 (C : qC X D b l R cc RX10 nL) (he : h a = some (.inr (9, fs))) (hv : fs[1]? = some v) (hdg : decode cc pc = .ok (.getfield 46, 3)) (hp : pc + 3 = pc') (kk : qG X k n z h pc' L (v :: st)) : qG X k n z h pc L (.ref a :: st) := g_getN (ref := "EarlyGauge$Station") (host := "EarlyGauge") C hin_9 (Cn := RX9) (T := TX9) (N := 3) rfl 1 (by decide) (by decide +kernel) (fun _ _ _ _ h => h) he hv hdg hp kk
theorem hw_10_51 : qWV RX10 51 RX10 yX10_drawWeather cX10_drawWeather 4 (some .int) 1 := ⟨⟨(AW_m 613 (by decide +kernel) rfl), (AW_m 615 (by decide +kernel) rfl), (AW_m 8 (by decide +kernel) rfl), (AW_m 47 (by decide +kernel) rfl), cw_X10_drawWeather⟩, by decide +kernel⟩
theorem hw_10_55 : qWV RX10 55 RX10 yX10_draw cX10_draw 1 (some .int) 0 := ⟨⟨(AW_m 617 (by decide +kernel) rfl), (AW_m 619 (by decide +kernel) rfl), (AW_m 9 (by decide +kernel) rfl), (AW_m 47 (by decide +kernel) rfl), cw_X10_draw⟩, by decide +kernel⟩
theorem gf_10_59 (C : qC X D b l R cc RX10 nL) (he : h a = some (.inr (9, fs))) (hv : fs[2]? = some v) (hdg : decode cc pc = .ok (.getfield 59, 3)) (hp : pc + 3 = pc') (kk : qG X k n z h pc' L (v :: st)) : qG X k n z h pc L (.ref a :: st) := g_getN (ref := "EarlyGauge$Station") (host := "EarlyGauge") C hin_9 (Cn := RX9) (T := TX9) (N := 3) rfl 2 (by decide) (by decide +kernel) (fun _ _ _ _ h => h) he hv hdg hp kk
theorem hw_10_62 : qWV RX10 62 RX7 yX7_tell cX7_tell 4 (some .boolean) 1 := ⟨⟨(AW_m 627 (by decide +kernel) rfl), (AW_m 344 (by decide +kernel) rfl), (AW_m 345 (by decide +kernel) rfl), (AW_m 45 (by decide +kernel) rfl), cw_X7_tell⟩, by decide +kernel⟩
theorem hw_10_66_1 : qWU RX10 66 RX1 RX4 yX4_payment yX4_payment cX4_payment 3 (some .int) 2 := ⟨⟨(AW_m 632 (by decide +kernel) rfl), (AW_m 375 (by decide +kernel) rfl), (AW_m 376 (by decide +kernel) rfl), (AW_m 373 (by decide +kernel) rfl), (AW_m 51 (by decide +kernel) rfl), cw_X4_payment⟩, rfl, by decide +kernel⟩
theorem hw_10_66_2 : qWU RX10 66 RX2 RX4 yX4_payment yX4_payment cX4_payment 3 (some .int) 2 := ⟨⟨(AW_m 632 (by decide +kernel) rfl), (AW_m 375 (by decide +kernel) rfl), (AW_m 377 (by decide +kernel) rfl), (AW_m 373 (by decide +kernel) rfl), (AW_m 51 (by decide +kernel) rfl), cw_X4_payment⟩, rfl, by decide +kernel⟩
theorem hw_10_66_4 : qWV RX10 66 RX4 yX4_payment cX4_payment 3 (some .int) 2 := ⟨⟨(AW_m 632 (by decide +kernel) rfl), (AW_m 373 (by decide +kernel) rfl), (AW_m 374 (by decide +kernel) rfl), (AW_m 51 (by decide +kernel) rfl), cw_X4_payment⟩, by decide +kernel⟩
theorem hw_10_66_5 : qWU RX10 66 RX5 RX4 yX4_payment yX4_payment cX4_payment 3 (some .int) 2 := ⟨⟨(AW_m 632 (by decide +kernel) rfl), (AW_m 375 (by decide +kernel) rfl), (AW_m 378 (by decide +kernel) rfl), (AW_m 373 (by decide +kernel) rfl), (AW_m 51 (by decide +kernel) rfl), cw_X4_payment⟩, rfl, by decide +kernel⟩
theorem hw_10_66_6 : qWU RX10 66 RX6 RX4 yX4_payment yX4_payment cX4_payment 3 (some .int) 2 := ⟨⟨(AW_m 632 (by decide +kernel) rfl), (AW_m 375 (by decide +kernel) rfl), (AW_m 379 (by decide +kernel) rfl), (AW_m 373 (by decide +kernel) rfl), (AW_m 51 (by decide +kernel) rfl), cw_X4_payment⟩, rfl, by decide +kernel⟩
theorem hw_10_72 : qWV RX10 72 RX7 yX7_passDay cX7_passDay 3 none 1 := ⟨⟨(AW_m 633 (by decide +kernel) rfl), (AW_m 412 (by decide +kernel) rfl), (AW_m 413 (by decide +kernel) rfl), (AW_m 45 (by decide +kernel) rfl), cw_X7_passDay⟩, by decide +kernel⟩
theorem hw_10_75 : qWV RX10 75 RX9 yX9_tenthsFrom cX9_tenthsFrom 4 (some .int) 2 := ⟨⟨(AW_m 626 (by decide +kernel) rfl), (AW_m 309 (by decide +kernel) rfl), (AW_m 310 (by decide +kernel) rfl), (AW_m 43 (by decide +kernel) rfl), cw_X9_tenthsFrom⟩, by decide +kernel⟩
theorem kl_10_79 : Cond.constantLong RX10 79 (1103515245) ∈ AW := (AW_m 621 (by decide +kernel) rfl)
theorem kl_10_81 : Cond.constantLong RX10 81 (12345) ∈ AW := (AW_m 622 (by decide +kernel) rfl)
theorem kl_10_83 : Cond.constantLong RX10 83 (2147483648) ∈ AW := (AW_m 623 (by decide +kernel) rfl)
theorem kl_10_85 : Cond.constantLong RX10 85 (65536) ∈ AW := (AW_m 624 (by decide +kernel) rfl)
theorem kl_10_87 : Cond.constantLong RX10 87 (10) ∈ AW := (AW_m 625 (by decide +kernel) rfl)
theorem hw_11_1 : Cond.methodLink RX11 1 objectInit ∈ AW ∧ Cond.instanceMethod objectInit ∈ AW ∧ Cond.code objectInit ⟨#[0xb1]⟩ 1 none ∈ AW := ⟨(AW_m 61 (by decide +kernel) rfl), (AW_m 62 (by decide +kernel) rfl), (AW_m 63 (by decide +kernel) rfl)⟩
theorem hw_11_9 : qWIN RX11 9 "EarlyGauge" yX9_init cX9_init 1 0 := ⟨⟨by decide +kernel, (AW_m 67 (by decide +kernel) rfl), (AW_m 43 (by decide +kernel) rfl), cw_X9_init⟩, rfl, by decide +kernel⟩
theorem hw_11_12 : qWIN RX11 12 "EarlyGauge" yX8_init cX8_init 1 0 := ⟨⟨by decide +kernel, (AW_m 89 (by decide +kernel) rfl), (AW_m 44 (by decide +kernel) rfl), cw_X8_init⟩, rfl, by decide +kernel⟩
theorem gf_11_13 (C : qC X D b l R cc RX11 nL) (he : h a = some (.inr (11, fs))) (hv : fs[0]? = some v) (hdg : decode cc pc = .ok (.getfield 13, 3)) (hp : pc + 3 = pc') (kk : qG X k n z h pc' L (v :: st)) : qG X k n z h pc L (.ref a :: st) := g_get (ref := "EarlyGauge") C hin_11 (Cn := RX11) (T := TX11) (N := 8) rfl 0 (by decide) (AW_m 217 (by decide +kernel) rfl) (fun _ _ _ _ h => h) he hv hdg hp kk
theorem pf_11_13 (C : qC X D b l R cc RX11 nL) (hin2 : X.2.2.2.2.2.2.2.2.2.2.1.name = "<init>") (he : h a = some (.inr (11, fs))) (hn : narrow (.object "EarlyGauge$Page") v = v) (hfit : fits (.object "EarlyGauge$Page") v = true) (hlen : 0 < fs.length) (hdg : decode cc pc = .ok (.putfield 13, 3)) (hp : pc + 3 = pc') (kk : ∀ h1 : qH, h1 a = some (.inr (11, fs.set 0 v)) → (∀ q, q ≠ a → h1 q = h q) → qG X k n z h1 pc' L st) : qG X k n z h pc L (v :: .ref a :: st) := g_putF (ref := "EarlyGauge") C hin_11 tyX11 tyX11_ok nmX11 (Cn := RX11) (T := TX11) (N := 8) rfl 0 (by decide) (AW_m 217 (by decide +kernel) rfl) (fun _ _ _ _ h => h) rfl hin2 rfl (ty := (.object "EarlyGauge$Page")) (by decide +kernel) he hn hfit hlen hdg hp kk
theorem gf_11_19 (C : qC X D b l R cc RX11 nL) (he : h a = some (.inr (11, fs))) (hv : fs[1]? = some v) (hdg : decode cc pc = .ok (.getfield 19, 3)) (hp : pc + 3 = pc') (kk : qG X k n z h pc' L (v :: st)) : qG X k n z h pc L (.ref a :: st) := g_get (ref := "EarlyGauge") C hin_11 (Cn := RX11) (T := TX11) (N := 8) rfl 1 (by decide) (AW_m 218 (by decide +kernel) rfl) (fun _ _ _ _ h => h) he hv hdg hp kk
theorem pf_11_19 (C : qC X D b l R cc RX11 nL) (hin2 : X.2.2.2.2.2.2.2.2.2.2.1.name = "<init>") (he : h a = some (.inr (11, fs))) (hn : narrow (.object "EarlyGauge$Station") v = v) (hfit : fits (.object "EarlyGauge$Station") v = true) (hlen : 1 < fs.length) (hdg : decode cc pc = .ok (.putfield 19, 3)) (hp : pc + 3 = pc') (kk : ∀ h1 : qH, h1 a = some (.inr (11, fs.set 1 v)) → (∀ q, q ≠ a → h1 q = h q) → qG X k n z h1 pc' L st) : qG X k n z h pc L (v :: .ref a :: st) := g_putF (ref := "EarlyGauge") C hin_11 tyX11 tyX11_ok nmX11 (Cn := RX11) (T := TX11) (N := 8) rfl 1 (by decide) (AW_m 218 (by decide +kernel) rfl) (fun _ _ _ _ h => h) rfl hin2 rfl (ty := (.object "EarlyGauge$Station")) (by decide +kernel) he hn hfit hlen hdg hp kk
theorem hw_11_25 : qWI RX11 25 yX7_init cX7_init 3 1 := ⟨⟨(AW_m 102 (by decide +kernel) rfl), (AW_m 103 (by decide +kernel) rfl), (AW_m 45 (by decide +kernel) rfl), cw_X7_init⟩, rfl, by decide +kernel⟩
theorem gf_11_28 (C : qC X D b l R cc RX11 nL) (he : h a = some (.inr (11, fs))) (hv : fs[2]? = some v) (hdg : decode cc pc = .ok (.getfield 28, 3)) (hp : pc + 3 = pc') (kk : qG X k n z h pc' L (v :: st)) : qG X k n z h pc L (.ref a :: st) := g_get (ref := "EarlyGauge") C hin_11 (Cn := RX11) (T := TX11) (N := 8) rfl 2 (by decide) (AW_m 219 (by decide +kernel) rfl) (fun _ _ _ _ h => h) he hv hdg hp kk
theorem pf_11_28 (C : qC X D b l R cc RX11 nL) (hin2 : X.2.2.2.2.2.2.2.2.2.2.1.name = "<init>") (he : h a = some (.inr (11, fs))) (hn : narrow (.object "EarlyGauge$Outlook") v = v) (hfit : fits (.object "EarlyGauge$Outlook") v = true) (hlen : 2 < fs.length) (hdg : decode cc pc = .ok (.putfield 28, 3)) (hp : pc + 3 = pc') (kk : ∀ h1 : qH, h1 a = some (.inr (11, fs.set 2 v)) → (∀ q, q ≠ a → h1 q = h q) → qG X k n z h1 pc' L st) : qG X k n z h pc L (v :: .ref a :: st) := g_putF (ref := "EarlyGauge") C hin_11 tyX11 tyX11_ok nmX11 (Cn := RX11) (T := TX11) (N := 8) rfl 2 (by decide) (AW_m 219 (by decide +kernel) rfl) (fun _ _ _ _ h => h) rfl hin2 rfl (ty := (.object "EarlyGauge$Outlook")) (by decide +kernel) he hn hfit hlen hdg hp kk
theorem gf_11_34 (C : qC X D b l R cc RX11 nL) (he : h a = some (.inr (11, fs))) (hv : fs[3]? = some v) (hdg : decode cc pc = .ok (.getfield 34, 3)) (hp : pc + 3 = pc') (kk : qG X k n z h pc' L (v :: st)) : qG X k n z h pc L (.ref a :: st) := g_get (ref := "EarlyGauge") C hin_11 (Cn := RX11) (T := TX11) (N := 8) rfl 3 (by decide) (AW_m 220 (by decide +kernel) rfl) (fun _ _ _ _ h => h) he hv hdg hp kk
theorem pf_11_34 (C : qC X D b l R cc RX11 nL) (hin2 : X.2.2.2.2.2.2.2.2.2.2.1.name = "<init>") (he : h a = some (.inr (11, fs))) (hn : narrow (.array (.object "EarlyGauge$Keeper")) v = v) (hfit : fits (.array (.object "EarlyGauge$Keeper")) v = true) (hlen : 3 < fs.length) (hdg : decode cc pc = .ok (.putfield 34, 3)) (hp : pc + 3 = pc') (kk : ∀ h1 : qH, h1 a = some (.inr (11, fs.set 3 v)) → (∀ q, q ≠ a → h1 q = h q) → qG X k n z h1 pc' L st) : qG X k n z h pc L (v :: .ref a :: st) := g_putF (ref := "EarlyGauge") C hin_11 tyX11 tyX11_ok nmX11 (Cn := RX11) (T := TX11) (N := 8) rfl 3 (by decide) (AW_m 220 (by decide +kernel) rfl) (fun _ _ _ _ h => h) rfl hin2 rfl (ty := (.array (.object "EarlyGauge$Keeper"))) (by decide +kernel) he hn hfit hlen hdg hp kk
theorem hw_11_40 : qWIN RX11 40 "EarlyGauge" yX0_init cX0_init 1 0 := ⟨⟨by decide +kernel, (AW_m 143 (by decide +kernel) rfl), (AW_m 46 (by decide +kernel) rfl), cw_X0_init⟩, rfl, by decide +kernel⟩
theorem gf_11_41 (C : qC X D b l R cc RX11 nL) (he : h a = some (.inr (11, fs))) (hv : fs[4]? = some v) (hdg : decode cc pc = .ok (.getfield 41, 3)) (hp : pc + 3 = pc') (kk : qG X k n z h pc' L (v :: st)) : qG X k n z h pc L (.ref a :: st) := g_get (ref := "EarlyGauge") C hin_11 (Cn := RX11) (T := TX11) (N := 8) rfl 4 (by decide) (AW_m 221 (by decide +kernel) rfl) (fun _ _ _ _ h => h) he hv hdg hp kk
theorem pf_11_41 (C : qC X D b l R cc RX11 nL) (hin2 : X.2.2.2.2.2.2.2.2.2.2.1.name = "<init>") (he : h a = some (.inr (11, fs))) (hn : narrow (.object "EarlyGauge$Book") v = v) (hfit : fits (.object "EarlyGauge$Book") v = true) (hlen : 4 < fs.length) (hdg : decode cc pc = .ok (.putfield 41, 3)) (hp : pc + 3 = pc') (kk : ∀ h1 : qH, h1 a = some (.inr (11, fs.set 4 v)) → (∀ q, q ≠ a → h1 q = h q) → qG X k n z h1 pc' L st) : qG X k n z h pc L (v :: .ref a :: st) := g_putF (ref := "EarlyGauge") C hin_11 tyX11 tyX11_ok nmX11 (Cn := RX11) (T := TX11) (N := 8) rfl 4 (by decide) (AW_m 221 (by decide +kernel) rfl) (fun _ _ _ _ h => h) rfl hin2 rfl (ty := (.object "EarlyGauge$Book")) (by decide +kernel) he hn hfit hlen hdg hp kk
theorem hw_11_47 : qWI RX11 47 yX10_init cX10_init 3 2 := ⟨⟨(AW_m 159 (by decide +kernel) rfl), (AW_m 160 (by decide +kernel) rfl), (AW_m 47 (by decide +kernel) rfl), cw_X10_init⟩, rfl, by decide +kernel⟩
theorem gf_11_50 (C : qC X D b l R cc RX11 nL) (he : h a = some (.inr (11, fs))) (hv : fs[5]? = some v) (hdg : decode cc pc = .ok (.getfield 50, 3)) (hp : pc + 3 = pc') (kk : qG X k n z h pc' L (v :: st)) : qG X k n z h pc L (.ref a :: st) := g_get (ref := "EarlyGauge") C hin_11 (Cn := RX11) (T := TX11) (N := 8) rfl 5 (by decide) (AW_m 222 (by decide +kernel) rfl) (fun _ _ _ _ h => h) he hv hdg hp kk
theorem pf_11_50 (C : qC X D b l R cc RX11 nL) (hin2 : X.2.2.2.2.2.2.2.2.2.2.1.name = "<init>") (he : h a = some (.inr (11, fs))) (hn : narrow (.object "EarlyGauge$Trial") v = v) (hfit : fits (.object "EarlyGauge$Trial") v = true) (hlen : 5 < fs.length) (hdg : decode cc pc = .ok (.putfield 50, 3)) (hp : pc + 3 = pc') (kk : ∀ h1 : qH, h1 a = some (.inr (11, fs.set 5 v)) → (∀ q, q ≠ a → h1 q = h q) → qG X k n z h1 pc' L st) : qG X k n z h pc L (v :: .ref a :: st) := g_putF (ref := "EarlyGauge") C hin_11 tyX11 tyX11_ok nmX11 (Cn := RX11) (T := TX11) (N := 8) rfl 5 (by decide) (AW_m 222 (by decide +kernel) rfl) (fun _ _ _ _ h => h) rfl hin2 rfl (ty := (.object "EarlyGauge$Trial")) (by decide +kernel) he hn hfit hlen hdg hp kk
theorem hw_11_56 : qWI RX11 56 yX3_init cX3_init 3 2 := ⟨⟨(AW_m 194 (by decide +kernel) rfl), (AW_m 195 (by decide +kernel) rfl), (AW_m 48 (by decide +kernel) rfl), cw_X3_init⟩, rfl, by decide +kernel⟩
theorem gf_11_59 (C : qC X D b l R cc RX11 nL) (he : h a = some (.inr (11, fs))) (hv : fs[6]? = some v) (hdg : decode cc pc = .ok (.getfield 59, 3)) (hp : pc + 3 = pc') (kk : qG X k n z h pc' L (v :: st)) : qG X k n z h pc L (.ref a :: st) := g_get (ref := "EarlyGauge") C hin_11 (Cn := RX11) (T := TX11) (N := 8) rfl 6 (by decide) (AW_m 223 (by decide +kernel) rfl) (fun _ _ _ _ h => h) he hv hdg hp kk
theorem pf_11_59 (C : qC X D b l R cc RX11 nL) (hin2 : X.2.2.2.2.2.2.2.2.2.2.1.name = "<init>") (he : h a = some (.inr (11, fs))) (hn : narrow (.object "EarlyGauge$Image") v = v) (hfit : fits (.object "EarlyGauge$Image") v = true) (hlen : 6 < fs.length) (hdg : decode cc pc = .ok (.putfield 59, 3)) (hp : pc + 3 = pc') (kk : ∀ h1 : qH, h1 a = some (.inr (11, fs.set 6 v)) → (∀ q, q ≠ a → h1 q = h q) → qG X k n z h1 pc' L st) : qG X k n z h pc L (v :: .ref a :: st) := g_putF (ref := "EarlyGauge") C hin_11 tyX11 tyX11_ok nmX11 (Cn := RX11) (T := TX11) (N := 8) rfl 6 (by decide) (AW_m 223 (by decide +kernel) rfl) (fun _ _ _ _ h => h) rfl hin2 rfl (ty := (.object "EarlyGauge$Image")) (by decide +kernel) he hn hfit hlen hdg hp kk
theorem hw_11_63 : qWV RX11 63 RX8 yX8_append cX8_append 2 (some .boolean) 1 := ⟨⟨(AW_m 246 (by decide +kernel) rfl), (AW_m 247 (by decide +kernel) rfl), (AW_m 248 (by decide +kernel) rfl), (AW_m 44 (by decide +kernel) rfl), cw_X8_append⟩, by decide +kernel⟩
theorem gf_11_67 (C : qC X D b l R cc RX11 nL) (he : h a = some (.inr (8, fs))) (hv : fs[1]? = some v) (hdg : decode cc pc = .ok (.getfield 67, 3)) (hp : pc + 3 = pc') (kk : qG X k n z h pc' L (v :: st)) : qG X k n z h pc L (.ref a :: st) := g_getN (ref := "EarlyGauge$Page") (host := "EarlyGauge") C hin_8 (Cn := RX8) (T := TX8) (N := 2) rfl 1 (by decide) (by decide +kernel) (fun _ _ _ _ h => h) he hv hdg hp kk
theorem pf_11_67 (C : qC X D b l R cc RX11 nL) (he : h a = some (.inr (8, fs))) (hn : narrow .int v = v) (hfit : fits .int v = true) (hlen : 1 < fs.length) (hdg : decode cc pc = .ok (.putfield 67, 3)) (hp : pc + 3 = pc') (kk : ∀ h1 : qH, h1 a = some (.inr (8, fs.set 1 v)) → (∀ q, q ≠ a → h1 q = h q) → qG X k n z h1 pc' L st) : qG X k n z h pc L (v :: .ref a :: st) := g_putN (ref := "EarlyGauge$Page") (host := "EarlyGauge") C hin_8 tyX8 tyX8_ok nmX8 (Cn := RX8) (T := TX8) (N := 2) rfl 1 (by decide) (by decide +kernel) (fun _ _ _ _ h => h) rfl (ty := .int) (by decide +kernel) he hn hfit hlen hdg hp kk
theorem hw_11_71 : qWV RX11 71 RX8 yX8_firstFault cX8_firstFault 2 (some .int) 0 := ⟨⟨(AW_m 258 (by decide +kernel) rfl), (AW_m 259 (by decide +kernel) rfl), (AW_m 260 (by decide +kernel) rfl), (AW_m 44 (by decide +kernel) rfl), cw_X8_firstFault⟩, by decide +kernel⟩
theorem hw_11_75 : qWV RX11 75 RX8 yX8_isStation cX8_isStation 1 (some .boolean) 0 := ⟨⟨(AW_m 282 (by decide +kernel) rfl), (AW_m 283 (by decide +kernel) rfl), (AW_m 284 (by decide +kernel) rfl), (AW_m 44 (by decide +kernel) rfl), cw_X8_isStation⟩, by decide +kernel⟩
theorem hw_11_79 : qWV RX11 79 RX9 yX9_read cX9_read 4 none 1 := ⟨⟨(AW_m 287 (by decide +kernel) rfl), (AW_m 288 (by decide +kernel) rfl), (AW_m 289 (by decide +kernel) rfl), (AW_m 43 (by decide +kernel) rfl), cw_X9_read⟩, by decide +kernel⟩
theorem hw_11_83 : qWV RX11 83 RX7 yX7_startAnew cX7_startAnew 3 none 1 := ⟨⟨(AW_m 292 (by decide +kernel) rfl), (AW_m 293 (by decide +kernel) rfl), (AW_m 294 (by decide +kernel) rfl), (AW_m 45 (by decide +kernel) rfl), cw_X7_startAnew⟩, by decide +kernel⟩
theorem gf_11_87 (C : qC X D b l R cc RX11 nL) (he : h a = some (.inr (0, fs))) (hv : fs[2]? = some v) (hdg : decode cc pc = .ok (.getfield 87, 3)) (hp : pc + 3 = pc') (kk : qG X k n z h pc' L (v :: st)) : qG X k n z h pc L (.ref a :: st) := g_getN (ref := "EarlyGauge$Book") (host := "EarlyGauge") C hin_0 (Cn := RX0) (T := TX0) (N := 3) rfl 2 (by decide) (by decide +kernel) (fun _ _ _ _ h => h) he hv hdg hp kk
theorem pf_11_87 (C : qC X D b l R cc RX11 nL) (he : h a = some (.inr (0, fs))) (hn : narrow .int v = v) (hfit : fits .int v = true) (hlen : 2 < fs.length) (hdg : decode cc pc = .ok (.putfield 87, 3)) (hp : pc + 3 = pc') (kk : ∀ h1 : qH, h1 a = some (.inr (0, fs.set 2 v)) → (∀ q, q ≠ a → h1 q = h q) → qG X k n z h1 pc' L st) : qG X k n z h pc L (v :: .ref a :: st) := g_putN (ref := "EarlyGauge$Book") (host := "EarlyGauge") C hin_0 tyX0 tyX0_ok nmX0 (Cn := RX0) (T := TX0) (N := 3) rfl 2 (by decide) (by decide +kernel) (fun _ _ _ _ h => h) rfl (ty := .int) (by decide +kernel) he hn hfit hlen hdg hp kk
theorem gf_11_90 (C : qC X D b l R cc RX11 nL) (he : h a = some (.inr (3, fs))) (hv : fs[4]? = some v) (hdg : decode cc pc = .ok (.getfield 90, 3)) (hp : pc + 3 = pc') (kk : qG X k n z h pc' L (v :: st)) : qG X k n z h pc L (.ref a :: st) := g_getN (ref := "EarlyGauge$Image") (host := "EarlyGauge") C hin_3 (Cn := RX3) (T := TX3) (N := 5) rfl 4 (by decide) (by decide +kernel) (fun _ _ _ _ h => h) he hv hdg hp kk
theorem pf_11_90 (C : qC X D b l R cc RX11 nL) (he : h a = some (.inr (3, fs))) (hn : narrow .boolean v = v) (hfit : fits .boolean v = true) (hlen : 4 < fs.length) (hdg : decode cc pc = .ok (.putfield 90, 3)) (hp : pc + 3 = pc') (kk : ∀ h1 : qH, h1 a = some (.inr (3, fs.set 4 v)) → (∀ q, q ≠ a → h1 q = h q) → qG X k n z h1 pc' L st) : qG X k n z h pc L (v :: .ref a :: st) := g_putN (ref := "EarlyGauge$Image") (host := "EarlyGauge") C hin_3 tyX3 tyX3_ok nmX3 (Cn := RX3) (T := TX3) (N := 5) rfl 4 (by decide) (by decide +kernel) (fun _ _ _ _ h => h) rfl (ty := .boolean) (by decide +kernel) he hn hfit hlen hdg hp kk
theorem gf_11_94 (C : qC X D b l R cc RX11 nL) (he : h a = some (.inr (11, fs))) (hv : fs[7]? = some v) (hdg : decode cc pc = .ok (.getfield 94, 3)) (hp : pc + 3 = pc') (kk : qG X k n z h pc' L (v :: st)) : qG X k n z h pc L (.ref a :: st) := g_get (ref := "EarlyGauge") C hin_11 (Cn := RX11) (T := TX11) (N := 8) rfl 7 (by decide) (AW_m 224 (by decide +kernel) rfl) (fun _ _ _ _ h => h) he hv hdg hp kk
theorem pf_11_94 (C : qC X D b l R cc RX11 nL) (he : h a = some (.inr (11, fs))) (hn : narrow .int v = v) (hfit : fits .int v = true) (hlen : 7 < fs.length) (hdg : decode cc pc = .ok (.putfield 94, 3)) (hp : pc + 3 = pc') (kk : ∀ h1 : qH, h1 a = some (.inr (11, fs.set 7 v)) → (∀ q, q ≠ a → h1 q = h q) → qG X k n z h1 pc' L st) : qG X k n z h pc L (v :: .ref a :: st) := g_put (ref := "EarlyGauge") C hin_11 tyX11 tyX11_ok nmX11 (Cn := RX11) (T := TX11) (N := 8) rfl 7 (by decide) (AW_m 224 (by decide +kernel) rfl) (fun _ _ _ _ h => h) rfl (ty := .int) (by decide +kernel) he hn hfit hlen hdg hp kk
theorem gf_11_97 (C : qC X D b l R cc RX11 nL) (he : h a = some (.inr (9, fs))) (hv : fs[1]? = some v) (hdg : decode cc pc = .ok (.getfield 97, 3)) (hp : pc + 3 = pc') (kk : qG X k n z h pc' L (v :: st)) : qG X k n z h pc L (.ref a :: st) := g_getN (ref := "EarlyGauge$Station") (host := "EarlyGauge") C hin_9 (Cn := RX9) (T := TX9) (N := 3) rfl 1 (by decide) (by decide +kernel) (fun _ _ _ _ h => h) he hv hdg hp kk
theorem hw_11_100 : qWS RX11 100 yX11_isWeather cX11_isWeather 1 (some .boolean) 1 := ⟨⟨(AW_m 331 (by decide +kernel) rfl), (AW_m 332 (by decide +kernel) rfl), (AW_m 42 (by decide +kernel) rfl), cw_X11_isWeather⟩, by decide +kernel⟩
theorem hw_11_103 : qWV RX11 103 RX9 yX9_isRead cX9_isRead 1 (some .boolean) 0 := ⟨⟨(AW_m 334 (by decide +kernel) rfl), (AW_m 335 (by decide +kernel) rfl), (AW_m 336 (by decide +kernel) rfl), (AW_m 43 (by decide +kernel) rfl), cw_X9_isRead⟩, by decide +kernel⟩
theorem hw_11_106 : qWV RX11 106 RX9 yX9_tenthsFrom cX9_tenthsFrom 4 (some .int) 2 := ⟨⟨(AW_m 338 (by decide +kernel) rfl), (AW_m 309 (by decide +kernel) rfl), (AW_m 310 (by decide +kernel) rfl), (AW_m 43 (by decide +kernel) rfl), cw_X9_tenthsFrom⟩, by decide +kernel⟩
theorem hw_11_110 : qWV RX11 110 RX7 yX7_tell cX7_tell 4 (some .boolean) 1 := ⟨⟨(AW_m 343 (by decide +kernel) rfl), (AW_m 344 (by decide +kernel) rfl), (AW_m 345 (by decide +kernel) rfl), (AW_m 45 (by decide +kernel) rfl), cw_X7_tell⟩, by decide +kernel⟩
theorem hw_11_113 : qWV RX11 113 RX7 yX7_readingsTold cX7_readingsTold 3 (some .int) 0 := ⟨⟨(AW_m 351 (by decide +kernel) rfl), (AW_m 352 (by decide +kernel) rfl), (AW_m 353 (by decide +kernel) rfl), (AW_m 45 (by decide +kernel) rfl), cw_X7_readingsTold⟩, by decide +kernel⟩
theorem hw_11_116 : qWV RX11 116 RX7 yX7_readingOf cX7_readingOf 2 (some .int) 1 := ⟨⟨(AW_m 359 (by decide +kernel) rfl), (AW_m 313 (by decide +kernel) rfl), (AW_m 314 (by decide +kernel) rfl), (AW_m 45 (by decide +kernel) rfl), cw_X7_readingOf⟩, by decide +kernel⟩
theorem hw_11_120 : qWV RX11 120 RX7 yX7_oddsOf cX7_oddsOf 3 (some .long) 2 := ⟨⟨(AW_m 364 (by decide +kernel) rfl), (AW_m 365 (by decide +kernel) rfl), (AW_m 366 (by decide +kernel) rfl), (AW_m 45 (by decide +kernel) rfl), cw_X7_oddsOf⟩, by decide +kernel⟩
theorem gf_11_124_1 (C : qC X D b l R cc RX11 nL) (he : h a = some (.inr (1, fs))) (hv : fs[2]? = some v) (hdg : decode cc pc = .ok (.getfield 124, 3)) (hp : pc + 3 = pc') (kk : qG X k n z h pc' L (v :: st)) : qG X k n z h pc L (.ref a :: st) := g_get (ref := "EarlyGauge$Keeper") C hin_1 (Cn := RX1) (T := TX1) (N := 3) rfl 2 (by decide) (AW_m 442 (by decide +kernel) rfl) (fun _ _ _ _ h => h) he hv hdg hp kk
theorem pf_11_124_1 (C : qC X D b l R cc RX11 nL) (he : h a = some (.inr (1, fs))) (hn : narrow .int v = v) (hfit : fits .int v = true) (hlen : 2 < fs.length) (hdg : decode cc pc = .ok (.putfield 124, 3)) (hp : pc + 3 = pc') (kk : ∀ h1 : qH, h1 a = some (.inr (1, fs.set 2 v)) → (∀ q, q ≠ a → h1 q = h q) → qG X k n z h1 pc' L st) : qG X k n z h pc L (v :: .ref a :: st) := g_put (ref := "EarlyGauge$Keeper") C hin_1 tyX1 tyX1_ok nmX1 (Cn := RX1) (T := TX1) (N := 3) rfl 2 (by decide) (AW_m 442 (by decide +kernel) rfl) (fun _ _ _ _ h => h) rfl (ty := .int) (by decide +kernel) he hn hfit hlen hdg hp kk
theorem gf_11_124_2 (C : qC X D b l R cc RX11 nL) (he : h a = some (.inr (2, fs))) (hv : fs[2]? = some v) (hdg : decode cc pc = .ok (.getfield 124, 3)) (hp : pc + 3 = pc') (kk : qG X k n z h pc' L (v :: st)) : qG X k n z h pc L (.ref a :: st) := g_get (ref := "EarlyGauge$Keeper") C hin_2 (Cn := RX2) (T := TX2) (N := 3) rfl 2 (by decide) (AW_m 442 (by decide +kernel) rfl) (fun _ _ _ _ h => h) he hv hdg hp kk
theorem pf_11_124_2 (C : qC X D b l R cc RX11 nL) (he : h a = some (.inr (2, fs))) (hn : narrow .int v = v) (hfit : fits .int v = true) (hlen : 2 < fs.length) (hdg : decode cc pc = .ok (.putfield 124, 3)) (hp : pc + 3 = pc') (kk : ∀ h1 : qH, h1 a = some (.inr (2, fs.set 2 v)) → (∀ q, q ≠ a → h1 q = h q) → qG X k n z h1 pc' L st) : qG X k n z h pc L (v :: .ref a :: st) := g_put (ref := "EarlyGauge$Keeper") C hin_2 tyX2 tyX2_ok nmX2 (Cn := RX2) (T := TX2) (N := 3) rfl 2 (by decide) (AW_m 442 (by decide +kernel) rfl) (fun _ _ _ _ h => h) rfl (ty := .int) (by decide +kernel) he hn hfit hlen hdg hp kk
theorem gf_11_124_4 (C : qC X D b l R cc RX11 nL) (he : h a = some (.inr (4, fs))) (hv : fs[2]? = some v) (hdg : decode cc pc = .ok (.getfield 124, 3)) (hp : pc + 3 = pc') (kk : qG X k n z h pc' L (v :: st)) : qG X k n z h pc L (.ref a :: st) := g_get (ref := "EarlyGauge$Keeper") C hin_4 (Cn := RX4) (T := TX4) (N := 3) rfl 2 (by decide) (AW_m 442 (by decide +kernel) rfl) (fun _ _ _ _ h => h) he hv hdg hp kk
theorem pf_11_124_4 (C : qC X D b l R cc RX11 nL) (he : h a = some (.inr (4, fs))) (hn : narrow .int v = v) (hfit : fits .int v = true) (hlen : 2 < fs.length) (hdg : decode cc pc = .ok (.putfield 124, 3)) (hp : pc + 3 = pc') (kk : ∀ h1 : qH, h1 a = some (.inr (4, fs.set 2 v)) → (∀ q, q ≠ a → h1 q = h q) → qG X k n z h1 pc' L st) : qG X k n z h pc L (v :: .ref a :: st) := g_put (ref := "EarlyGauge$Keeper") C hin_4 tyX4 tyX4_ok nmX4 (Cn := RX4) (T := TX4) (N := 3) rfl 2 (by decide) (AW_m 442 (by decide +kernel) rfl) (fun _ _ _ _ h => h) rfl (ty := .int) (by decide +kernel) he hn hfit hlen hdg hp kk
theorem gf_11_124_5 (C : qC X D b l R cc RX11 nL) (he : h a = some (.inr (5, fs))) (hv : fs[2]? = some v) (hdg : decode cc pc = .ok (.getfield 124, 3)) (hp : pc + 3 = pc') (kk : qG X k n z h pc' L (v :: st)) : qG X k n z h pc L (.ref a :: st) := g_get (ref := "EarlyGauge$Keeper") C hin_5 (Cn := RX5) (T := TX5) (N := 3) rfl 2 (by decide) (AW_m 442 (by decide +kernel) rfl) (fun _ _ _ _ h => h) he hv hdg hp kk
theorem pf_11_124_5 (C : qC X D b l R cc RX11 nL) (he : h a = some (.inr (5, fs))) (hn : narrow .int v = v) (hfit : fits .int v = true) (hlen : 2 < fs.length) (hdg : decode cc pc = .ok (.putfield 124, 3)) (hp : pc + 3 = pc') (kk : ∀ h1 : qH, h1 a = some (.inr (5, fs.set 2 v)) → (∀ q, q ≠ a → h1 q = h q) → qG X k n z h1 pc' L st) : qG X k n z h pc L (v :: .ref a :: st) := g_put (ref := "EarlyGauge$Keeper") C hin_5 tyX5 tyX5_ok nmX5 (Cn := RX5) (T := TX5) (N := 3) rfl 2 (by decide) (AW_m 442 (by decide +kernel) rfl) (fun _ _ _ _ h => h) rfl (ty := .int) (by decide +kernel) he hn hfit hlen hdg hp kk
theorem gf_11_124_6 (C : qC X D b l R cc RX11 nL) (he : h a = some (.inr (6, fs))) (hv : fs[2]? = some v) (hdg : decode cc pc = .ok (.getfield 124, 3)) (hp : pc + 3 = pc') (kk : qG X k n z h pc' L (v :: st)) : qG X k n z h pc L (.ref a :: st) := g_get (ref := "EarlyGauge$Keeper") C hin_6 (Cn := RX6) (T := TX6) (N := 3) rfl 2 (by decide) (AW_m 442 (by decide +kernel) rfl) (fun _ _ _ _ h => h) he hv hdg hp kk
theorem pf_11_124_6 (C : qC X D b l R cc RX11 nL) (he : h a = some (.inr (6, fs))) (hn : narrow .int v = v) (hfit : fits .int v = true) (hlen : 2 < fs.length) (hdg : decode cc pc = .ok (.putfield 124, 3)) (hp : pc + 3 = pc') (kk : ∀ h1 : qH, h1 a = some (.inr (6, fs.set 2 v)) → (∀ q, q ≠ a → h1 q = h q) → qG X k n z h1 pc' L st) : qG X k n z h pc L (v :: .ref a :: st) := g_put (ref := "EarlyGauge$Keeper") C hin_6 tyX6 tyX6_ok nmX6 (Cn := RX6) (T := TX6) (N := 3) rfl 2 (by decide) (AW_m 442 (by decide +kernel) rfl) (fun _ _ _ _ h => h) rfl (ty := .int) (by decide +kernel) he hn hfit hlen hdg hp kk
theorem hw_11_127_1 : qWU RX11 127 RX1 RX4 yX4_payment yX4_payment cX4_payment 3 (some .int) 2 := ⟨⟨(AW_m 372 (by decide +kernel) rfl), (AW_m 375 (by decide +kernel) rfl), (AW_m 376 (by decide +kernel) rfl), (AW_m 373 (by decide +kernel) rfl), (AW_m 51 (by decide +kernel) rfl), cw_X4_payment⟩, rfl, by decide +kernel⟩
theorem hw_11_127_2 : qWU RX11 127 RX2 RX4 yX4_payment yX4_payment cX4_payment 3 (some .int) 2 := ⟨⟨(AW_m 372 (by decide +kernel) rfl), (AW_m 375 (by decide +kernel) rfl), (AW_m 377 (by decide +kernel) rfl), (AW_m 373 (by decide +kernel) rfl), (AW_m 51 (by decide +kernel) rfl), cw_X4_payment⟩, rfl, by decide +kernel⟩
theorem hw_11_127_4 : qWV RX11 127 RX4 yX4_payment cX4_payment 3 (some .int) 2 := ⟨⟨(AW_m 372 (by decide +kernel) rfl), (AW_m 373 (by decide +kernel) rfl), (AW_m 374 (by decide +kernel) rfl), (AW_m 51 (by decide +kernel) rfl), cw_X4_payment⟩, by decide +kernel⟩
theorem hw_11_127_5 : qWU RX11 127 RX5 RX4 yX4_payment yX4_payment cX4_payment 3 (some .int) 2 := ⟨⟨(AW_m 372 (by decide +kernel) rfl), (AW_m 375 (by decide +kernel) rfl), (AW_m 378 (by decide +kernel) rfl), (AW_m 373 (by decide +kernel) rfl), (AW_m 51 (by decide +kernel) rfl), cw_X4_payment⟩, rfl, by decide +kernel⟩
theorem hw_11_127_6 : qWU RX11 127 RX6 RX4 yX4_payment yX4_payment cX4_payment 3 (some .int) 2 := ⟨⟨(AW_m 372 (by decide +kernel) rfl), (AW_m 375 (by decide +kernel) rfl), (AW_m 379 (by decide +kernel) rfl), (AW_m 373 (by decide +kernel) rfl), (AW_m 51 (by decide +kernel) rfl), cw_X4_payment⟩, rfl, by decide +kernel⟩
theorem hw_11_131 : qWV RX11 131 RX7 yX7_passDay cX7_passDay 3 none 1 := ⟨⟨(AW_m 411 (by decide +kernel) rfl), (AW_m 412 (by decide +kernel) rfl), (AW_m 413 (by decide +kernel) rfl), (AW_m 45 (by decide +kernel) rfl), cw_X7_passDay⟩, by decide +kernel⟩
theorem gf_11_134 (C : qC X D b l R cc RX11 nL) (he : h a = some (.inr (7, fs))) (hv : fs[2]? = some v) (hdg : decode cc pc = .ok (.getfield 134, 3)) (hp : pc + 3 = pc') (kk : qG X k n z h pc' L (v :: st)) : qG X k n z h pc L (.ref a :: st) := g_getN (ref := "EarlyGauge$Outlook") (host := "EarlyGauge") C hin_7 (Cn := RX7) (T := TX7) (N := 8) rfl 2 (by decide) (by decide +kernel) (fun _ _ _ _ h => h) he hv hdg hp kk
theorem hw_11_137 : qWS RX11 137 yX11_isPrice cX11_isPrice 1 (some .boolean) 1 := ⟨⟨(AW_m 419 (by decide +kernel) rfl), (AW_m 420 (by decide +kernel) rfl), (AW_m 42 (by decide +kernel) rfl), cw_X11_isPrice⟩, by decide +kernel⟩
theorem hw_11_140 : qWS RX11 140 yX11_newcomer cX11_newcomer 3 (some (.object "EarlyGauge$Keeper")) 3 := ⟨⟨(AW_m 422 (by decide +kernel) rfl), (AW_m 423 (by decide +kernel) rfl), (AW_m 42 (by decide +kernel) rfl), cw_X11_newcomer⟩, by decide +kernel⟩
theorem hw_11_144 : qWV RX11 144 RX11 yX11_personOf cX11_personOf 2 (some (.object "EarlyGauge$Keeper")) 1 := ⟨⟨(AW_m 488 (by decide +kernel) rfl), (AW_m 490 (by decide +kernel) rfl), (AW_m 6 (by decide +kernel) rfl), (AW_m 42 (by decide +kernel) rfl), cw_X11_personOf⟩, by decide +kernel⟩
theorem hw_11_148_1 : qWO RX11 148 RX1 RX4 yX4_kindNumber yX1_kindNumber cX1_kindNumber 1 (some .int) cX4_kindNumber 1 (some .int) 0 := ⟨⟨(AW_m 492 (by decide +kernel) rfl), (AW_m 495 (by decide +kernel) rfl), (AW_m 493 (by decide +kernel) rfl), (AW_m 496 (by decide +kernel) rfl), (AW_m 497 (by decide +kernel) rfl), (AW_m 54 (by decide +kernel) rfl), cw_X1_kindNumber, cw_X4_kindNumber⟩, by decide +kernel⟩
theorem hw_11_148_2 : qWO RX11 148 RX2 RX4 yX4_kindNumber yX2_kindNumber cX2_kindNumber 1 (some .int) cX4_kindNumber 1 (some .int) 0 := ⟨⟨(AW_m 492 (by decide +kernel) rfl), (AW_m 495 (by decide +kernel) rfl), (AW_m 493 (by decide +kernel) rfl), (AW_m 499 (by decide +kernel) rfl), (AW_m 500 (by decide +kernel) rfl), (AW_m 52 (by decide +kernel) rfl), cw_X2_kindNumber, cw_X4_kindNumber⟩, by decide +kernel⟩
theorem hw_11_148_4 : qWV RX11 148 RX4 yX4_kindNumber cX4_kindNumber 1 (some .int) 0 := ⟨⟨(AW_m 492 (by decide +kernel) rfl), (AW_m 493 (by decide +kernel) rfl), (AW_m 494 (by decide +kernel) rfl), (AW_m 51 (by decide +kernel) rfl), cw_X4_kindNumber⟩, by decide +kernel⟩
theorem hw_11_148_5 : qWO RX11 148 RX5 RX4 yX4_kindNumber yX5_kindNumber cX5_kindNumber 1 (some .int) cX4_kindNumber 1 (some .int) 0 := ⟨⟨(AW_m 492 (by decide +kernel) rfl), (AW_m 495 (by decide +kernel) rfl), (AW_m 493 (by decide +kernel) rfl), (AW_m 502 (by decide +kernel) rfl), (AW_m 503 (by decide +kernel) rfl), (AW_m 55 (by decide +kernel) rfl), cw_X5_kindNumber, cw_X4_kindNumber⟩, by decide +kernel⟩
theorem hw_11_148_6 : qWO RX11 148 RX6 RX4 yX4_kindNumber yX6_kindNumber cX6_kindNumber 1 (some .int) cX4_kindNumber 1 (some .int) 0 := ⟨⟨(AW_m 492 (by decide +kernel) rfl), (AW_m 495 (by decide +kernel) rfl), (AW_m 493 (by decide +kernel) rfl), (AW_m 505 (by decide +kernel) rfl), (AW_m 506 (by decide +kernel) rfl), (AW_m 53 (by decide +kernel) rfl), cw_X6_kindNumber, cw_X4_kindNumber⟩, by decide +kernel⟩
theorem gf_11_151_1 (C : qC X D b l R cc RX11 nL) (he : h a = some (.inr (1, fs))) (hv : fs[0]? = some v) (hdg : decode cc pc = .ok (.getfield 151, 3)) (hp : pc + 3 = pc') (kk : qG X k n z h pc' L (v :: st)) : qG X k n z h pc L (.ref a :: st) := g_get (ref := "EarlyGauge$Keeper") C hin_1 (Cn := RX1) (T := TX1) (N := 3) rfl 0 (by decide) (AW_m 437 (by decide +kernel) rfl) (fun _ _ _ _ h => h) he hv hdg hp kk
theorem gf_11_151_2 (C : qC X D b l R cc RX11 nL) (he : h a = some (.inr (2, fs))) (hv : fs[0]? = some v) (hdg : decode cc pc = .ok (.getfield 151, 3)) (hp : pc + 3 = pc') (kk : qG X k n z h pc' L (v :: st)) : qG X k n z h pc L (.ref a :: st) := g_get (ref := "EarlyGauge$Keeper") C hin_2 (Cn := RX2) (T := TX2) (N := 3) rfl 0 (by decide) (AW_m 437 (by decide +kernel) rfl) (fun _ _ _ _ h => h) he hv hdg hp kk
theorem gf_11_151_4 (C : qC X D b l R cc RX11 nL) (he : h a = some (.inr (4, fs))) (hv : fs[0]? = some v) (hdg : decode cc pc = .ok (.getfield 151, 3)) (hp : pc + 3 = pc') (kk : qG X k n z h pc' L (v :: st)) : qG X k n z h pc L (.ref a :: st) := g_get (ref := "EarlyGauge$Keeper") C hin_4 (Cn := RX4) (T := TX4) (N := 3) rfl 0 (by decide) (AW_m 437 (by decide +kernel) rfl) (fun _ _ _ _ h => h) he hv hdg hp kk
theorem gf_11_151_5 (C : qC X D b l R cc RX11 nL) (he : h a = some (.inr (5, fs))) (hv : fs[0]? = some v) (hdg : decode cc pc = .ok (.getfield 151, 3)) (hp : pc + 3 = pc') (kk : qG X k n z h pc' L (v :: st)) : qG X k n z h pc L (.ref a :: st) := g_get (ref := "EarlyGauge$Keeper") C hin_5 (Cn := RX5) (T := TX5) (N := 3) rfl 0 (by decide) (AW_m 437 (by decide +kernel) rfl) (fun _ _ _ _ h => h) he hv hdg hp kk
theorem gf_11_151_6 (C : qC X D b l R cc RX11 nL) (he : h a = some (.inr (6, fs))) (hv : fs[0]? = some v) (hdg : decode cc pc = .ok (.getfield 151, 3)) (hp : pc + 3 = pc') (kk : qG X k n z h pc' L (v :: st)) : qG X k n z h pc L (.ref a :: st) := g_get (ref := "EarlyGauge$Keeper") C hin_6 (Cn := RX6) (T := TX6) (N := 3) rfl 0 (by decide) (AW_m 437 (by decide +kernel) rfl) (fun _ _ _ _ h => h) he hv hdg hp kk
theorem gf_11_154_1 (C : qC X D b l R cc RX11 nL) (he : h a = some (.inr (1, fs))) (hv : fs[1]? = some v) (hdg : decode cc pc = .ok (.getfield 154, 3)) (hp : pc + 3 = pc') (kk : qG X k n z h pc' L (v :: st)) : qG X k n z h pc L (.ref a :: st) := g_get (ref := "EarlyGauge$Keeper") C hin_1 (Cn := RX1) (T := TX1) (N := 3) rfl 1 (by decide) (AW_m 441 (by decide +kernel) rfl) (fun _ _ _ _ h => h) he hv hdg hp kk
theorem gf_11_154_2 (C : qC X D b l R cc RX11 nL) (he : h a = some (.inr (2, fs))) (hv : fs[1]? = some v) (hdg : decode cc pc = .ok (.getfield 154, 3)) (hp : pc + 3 = pc') (kk : qG X k n z h pc' L (v :: st)) : qG X k n z h pc L (.ref a :: st) := g_get (ref := "EarlyGauge$Keeper") C hin_2 (Cn := RX2) (T := TX2) (N := 3) rfl 1 (by decide) (AW_m 441 (by decide +kernel) rfl) (fun _ _ _ _ h => h) he hv hdg hp kk
theorem gf_11_154_4 (C : qC X D b l R cc RX11 nL) (he : h a = some (.inr (4, fs))) (hv : fs[1]? = some v) (hdg : decode cc pc = .ok (.getfield 154, 3)) (hp : pc + 3 = pc') (kk : qG X k n z h pc' L (v :: st)) : qG X k n z h pc L (.ref a :: st) := g_get (ref := "EarlyGauge$Keeper") C hin_4 (Cn := RX4) (T := TX4) (N := 3) rfl 1 (by decide) (AW_m 441 (by decide +kernel) rfl) (fun _ _ _ _ h => h) he hv hdg hp kk
theorem gf_11_154_5 (C : qC X D b l R cc RX11 nL) (he : h a = some (.inr (5, fs))) (hv : fs[1]? = some v) (hdg : decode cc pc = .ok (.getfield 154, 3)) (hp : pc + 3 = pc') (kk : qG X k n z h pc' L (v :: st)) : qG X k n z h pc L (.ref a :: st) := g_get (ref := "EarlyGauge$Keeper") C hin_5 (Cn := RX5) (T := TX5) (N := 3) rfl 1 (by decide) (AW_m 441 (by decide +kernel) rfl) (fun _ _ _ _ h => h) he hv hdg hp kk
theorem gf_11_154_6 (C : qC X D b l R cc RX11 nL) (he : h a = some (.inr (6, fs))) (hv : fs[1]? = some v) (hdg : decode cc pc = .ok (.getfield 154, 3)) (hp : pc + 3 = pc') (kk : qG X k n z h pc' L (v :: st)) : qG X k n z h pc L (.ref a :: st) := g_get (ref := "EarlyGauge$Keeper") C hin_6 (Cn := RX6) (T := TX6) (N := 3) rfl 1 (by decide) (AW_m 441 (by decide +kernel) rfl) (fun _ _ _ _ h => h) he hv hdg hp kk
theorem hw_11_157_1 : qWO RX11 157 RX1 RX4 yX4_covers yX1_covers cX1_covers 2 (some .boolean) cX4_covers 2 (some .boolean) 1 := ⟨⟨(AW_m 509 (by decide +kernel) rfl), (AW_m 384 (by decide +kernel) rfl), (AW_m 382 (by decide +kernel) rfl), (AW_m 385 (by decide +kernel) rfl), (AW_m 386 (by decide +kernel) rfl), (AW_m 54 (by decide +kernel) rfl), cw_X1_covers, cw_X4_covers⟩, by decide +kernel⟩
theorem hw_11_157_2 : qWO RX11 157 RX2 RX4 yX4_covers yX2_covers cX2_covers 2 (some .boolean) cX4_covers 2 (some .boolean) 1 := ⟨⟨(AW_m 509 (by decide +kernel) rfl), (AW_m 384 (by decide +kernel) rfl), (AW_m 382 (by decide +kernel) rfl), (AW_m 390 (by decide +kernel) rfl), (AW_m 391 (by decide +kernel) rfl), (AW_m 52 (by decide +kernel) rfl), cw_X2_covers, cw_X4_covers⟩, by decide +kernel⟩
theorem hw_11_157_4 : qWV RX11 157 RX4 yX4_covers cX4_covers 2 (some .boolean) 1 := ⟨⟨(AW_m 509 (by decide +kernel) rfl), (AW_m 382 (by decide +kernel) rfl), (AW_m 383 (by decide +kernel) rfl), (AW_m 51 (by decide +kernel) rfl), cw_X4_covers⟩, by decide +kernel⟩
theorem hw_11_157_5 : qWO RX11 157 RX5 RX4 yX4_covers yX5_covers cX5_covers 2 (some .boolean) cX4_covers 2 (some .boolean) 1 := ⟨⟨(AW_m 509 (by decide +kernel) rfl), (AW_m 384 (by decide +kernel) rfl), (AW_m 382 (by decide +kernel) rfl), (AW_m 395 (by decide +kernel) rfl), (AW_m 396 (by decide +kernel) rfl), (AW_m 55 (by decide +kernel) rfl), cw_X5_covers, cw_X4_covers⟩, by decide +kernel⟩
theorem hw_11_157_6 : qWO RX11 157 RX6 RX4 yX4_covers yX6_covers cX6_covers 2 (some .boolean) cX4_covers 2 (some .boolean) 1 := ⟨⟨(AW_m 509 (by decide +kernel) rfl), (AW_m 384 (by decide +kernel) rfl), (AW_m 382 (by decide +kernel) rfl), (AW_m 401 (by decide +kernel) rfl), (AW_m 402 (by decide +kernel) rfl), (AW_m 53 (by decide +kernel) rfl), cw_X6_covers, cw_X4_covers⟩, by decide +kernel⟩
theorem hw_11_161 : qWS RX11 161 yX11_isOfKind cX11_isOfKind 2 (some .boolean) 2 := ⟨⟨(AW_m 514 (by decide +kernel) rfl), (AW_m 515 (by decide +kernel) rfl), (AW_m 42 (by decide +kernel) rfl), cw_X11_isOfKind⟩, by decide +kernel⟩
theorem hw_11_165 : qWS RX11 165 yX11_isAhead cX11_isAhead 1 (some .boolean) 1 := ⟨⟨(AW_m 521 (by decide +kernel) rfl), (AW_m 369 (by decide +kernel) rfl), (AW_m 42 (by decide +kernel) rfl), cw_X11_isAhead⟩, by decide +kernel⟩
theorem kl_11_168 : Cond.constantLong RX11 168 (-101) ∈ AW := (AW_m 522 (by decide +kernel) rfl)
theorem hw_11_170 : qWS RX11 170 yX11_isPart cX11_isPart 1 (some .boolean) 1 := ⟨⟨(AW_m 523 (by decide +kernel) rfl), (AW_m 524 (by decide +kernel) rfl), (AW_m 42 (by decide +kernel) rfl), cw_X11_isPart⟩, by decide +kernel⟩
theorem kl_11_173 : Cond.constantLong RX11 173 (-102) ∈ AW := (AW_m 526 (by decide +kernel) rfl)
theorem kl_11_175 : Cond.constantLong RX11 175 (-103) ∈ AW := (AW_m 527 (by decide +kernel) rfl)
theorem hw_11_177 : qWV RX11 177 RX7 yX7_allOdds cX7_allOdds 4 (some .long) 0 := ⟨⟨(AW_m 528 (by decide +kernel) rfl), (AW_m 348 (by decide +kernel) rfl), (AW_m 349 (by decide +kernel) rfl), (AW_m 45 (by decide +kernel) rfl), cw_X7_allOdds⟩, by decide +kernel⟩
theorem hw_11_181 : qWS RX11 181 yX11_lowestTerms cX11_lowestTerms 9 (some .long) 3 := ⟨⟨(AW_m 529 (by decide +kernel) rfl), (AW_m 530 (by decide +kernel) rfl), (AW_m 42 (by decide +kernel) rfl), cw_X11_lowestTerms⟩, by decide +kernel⟩
theorem hw_11_185 : qWV RX11 185 RX7 yX7_numberOfMostOdds cX7_numberOfMostOdds 10 (some .int) 0 := ⟨⟨(AW_m 539 (by decide +kernel) rfl), (AW_m 540 (by decide +kernel) rfl), (AW_m 541 (by decide +kernel) rfl), (AW_m 45 (by decide +kernel) rfl), cw_X7_numberOfMostOdds⟩, by decide +kernel⟩
theorem hw_11_188 : qWV RX11 188 RX7 yX7_possibleDays cX7_possibleDays 1 (some .int) 0 := ⟨⟨(AW_m 547 (by decide +kernel) rfl), (AW_m 548 (by decide +kernel) rfl), (AW_m 549 (by decide +kernel) rfl), (AW_m 45 (by decide +kernel) rfl), cw_X7_possibleDays⟩, by decide +kernel⟩
theorem hw_11_191 : qWV RX11 191 RX7 yX7_sureWeather cX7_sureWeather 4 (some .int) 1 := ⟨⟨(AW_m 555 (by decide +kernel) rfl), (AW_m 405 (by decide +kernel) rfl), (AW_m 406 (by decide +kernel) rfl), (AW_m 45 (by decide +kernel) rfl), cw_X7_sureWeather⟩, by decide +kernel⟩
theorem kl_11_194 : Cond.constantLong RX11 194 (10) ∈ AW := (AW_m 560 (by decide +kernel) rfl)
theorem hw_11_196 : qWV RX11 196 RX7 yX7_meanByKnowing cX7_meanByKnowing 8 (some .long) 3 := ⟨⟨(AW_m 561 (by decide +kernel) rfl), (AW_m 562 (by decide +kernel) rfl), (AW_m 563 (by decide +kernel) rfl), (AW_m 45 (by decide +kernel) rfl), cw_X7_meanByKnowing⟩, by decide +kernel⟩
theorem hw_11_200 : qWV RX11 200 RX0 yX0_append cX0_append 3 (some .boolean) 2 := ⟨⟨(AW_m 572 (by decide +kernel) rfl), (AW_m 573 (by decide +kernel) rfl), (AW_m 574 (by decide +kernel) rfl), (AW_m 46 (by decide +kernel) rfl), cw_X0_append⟩, by decide +kernel⟩
theorem hw_11_203 : qWV RX11 203 RX0 yX0_wrongReadings cX0_wrongReadings 5 (some .int) 1 := ⟨⟨(AW_m 584 (by decide +kernel) rfl), (AW_m 585 (by decide +kernel) rfl), (AW_m 586 (by decide +kernel) rfl), (AW_m 46 (by decide +kernel) rfl), cw_X0_wrongReadings⟩, by decide +kernel⟩
theorem hw_11_206 : qWV RX11 206 RX0 yX0_readingsSeen cX0_readingsSeen 4 (some .int) 1 := ⟨⟨(AW_m 596 (by decide +kernel) rfl), (AW_m 597 (by decide +kernel) rfl), (AW_m 598 (by decide +kernel) rfl), (AW_m 46 (by decide +kernel) rfl), cw_X0_readingsSeen⟩, by decide +kernel⟩
theorem gf_11_209 (C : qC X D b l R cc RX11 nL) (he : h a = some (.inr (7, fs))) (hv : fs[3]? = some v) (hdg : decode cc pc = .ok (.getfield 209, 3)) (hp : pc + 3 = pc') (kk : qG X k n z h pc' L (v :: st)) : qG X k n z h pc L (.ref a :: st) := g_getN (ref := "EarlyGauge$Outlook") (host := "EarlyGauge") C hin_7 (Cn := RX7) (T := TX7) (N := 8) rfl 3 (by decide) (by decide +kernel) (fun _ _ _ _ h => h) he hv hdg hp kk
theorem hw_11_212 : qWV RX11 212 RX10 yX10_begin cX10_begin 3 none 2 := ⟨⟨(AW_m 604 (by decide +kernel) rfl), (AW_m 605 (by decide +kernel) rfl), (AW_m 606 (by decide +kernel) rfl), (AW_m 47 (by decide +kernel) rfl), cw_X10_begin⟩, by decide +kernel⟩
theorem hw_11_216 : qWV RX11 216 RX10 yX10_tellOne cX10_tellOne 3 none 0 := ⟨⟨(AW_m 609 (by decide +kernel) rfl), (AW_m 610 (by decide +kernel) rfl), (AW_m 611 (by decide +kernel) rfl), (AW_m 47 (by decide +kernel) rfl), cw_X10_tellOne⟩, by decide +kernel⟩
theorem hw_11_219 : qWV RX11 219 RX10 yX10_passOne cX10_passOne 5 none 1 := ⟨⟨(AW_m 628 (by decide +kernel) rfl), (AW_m 629 (by decide +kernel) rfl), (AW_m 630 (by decide +kernel) rfl), (AW_m 47 (by decide +kernel) rfl), cw_X10_passOne⟩, by decide +kernel⟩
theorem gf_11_223 (C : qC X D b l R cc RX11 nL) (he : h a = some (.inr (10, fs))) (hv : fs[5]? = some v) (hdg : decode cc pc = .ok (.getfield 223, 3)) (hp : pc + 3 = pc') (kk : qG X k n z h pc' L (v :: st)) : qG X k n z h pc L (.ref a :: st) := g_getN (ref := "EarlyGauge$Trial") (host := "EarlyGauge") C hin_10 (Cn := RX10) (T := TX10) (N := 8) rfl 5 (by decide) (by decide +kernel) (fun _ _ _ _ h => h) he hv hdg hp kk
theorem gf_11_226 (C : qC X D b l R cc RX11 nL) (he : h a = some (.inr (10, fs))) (hv : fs[6]? = some v) (hdg : decode cc pc = .ok (.getfield 226, 3)) (hp : pc + 3 = pc') (kk : qG X k n z h pc' L (v :: st)) : qG X k n z h pc L (.ref a :: st) := g_getN (ref := "EarlyGauge$Trial") (host := "EarlyGauge") C hin_10 (Cn := RX10) (T := TX10) (N := 8) rfl 6 (by decide) (by decide +kernel) (fun _ _ _ _ h => h) he hv hdg hp kk
theorem gf_11_227 (C : qC X D b l R cc RX11 nL) (he : h a = some (.inr (10, fs))) (hv : fs[7]? = some v) (hdg : decode cc pc = .ok (.getfield 227, 3)) (hp : pc + 3 = pc') (kk : qG X k n z h pc' L (v :: st)) : qG X k n z h pc L (.ref a :: st) := g_getN (ref := "EarlyGauge$Trial") (host := "EarlyGauge") C hin_10 (Cn := RX10) (T := TX10) (N := 8) rfl 7 (by decide) (by decide +kernel) (fun _ _ _ _ h => h) he hv hdg hp kk
theorem gf_11_230 (C : qC X D b l R cc RX11 nL) (he : h a = some (.inr (10, fs))) (hv : fs[4]? = some v) (hdg : decode cc pc = .ok (.getfield 230, 3)) (hp : pc + 3 = pc') (kk : qG X k n z h pc' L (v :: st)) : qG X k n z h pc L (.ref a :: st) := g_getN (ref := "EarlyGauge$Trial") (host := "EarlyGauge") C hin_10 (Cn := RX10) (T := TX10) (N := 8) rfl 4 (by decide) (by decide +kernel) (fun _ _ _ _ h => h) he hv hdg hp kk
theorem gf_11_234 (C : qC X D b l R cc RX11 nL) (he : h a = some (.inr (3, fs))) (hv : fs[0]? = some v) (hdg : decode cc pc = .ok (.getfield 234, 3)) (hp : pc + 3 = pc') (kk : qG X k n z h pc' L (v :: st)) : qG X k n z h pc L (.ref a :: st) := g_getN (ref := "EarlyGauge$Image") (host := "EarlyGauge") C hin_3 (Cn := RX3) (T := TX3) (N := 5) rfl 0 (by decide) (by decide +kernel) (fun _ _ _ _ h => h) he hv hdg hp kk
theorem hw_11_235 : qWV RX11 235 RX7 yX7_copyFrom cX7_copyFrom 3 none 1 := ⟨⟨(AW_m 638 (by decide +kernel) rfl), (AW_m 639 (by decide +kernel) rfl), (AW_m 640 (by decide +kernel) rfl), (AW_m 45 (by decide +kernel) rfl), cw_X7_copyFrom⟩, by decide +kernel⟩
theorem gf_11_239 (C : qC X D b l R cc RX11 nL) (he : h a = some (.inr (3, fs))) (hv : fs[1]? = some v) (hdg : decode cc pc = .ok (.getfield 239, 3)) (hp : pc + 3 = pc') (kk : qG X k n z h pc' L (v :: st)) : qG X k n z h pc L (.ref a :: st) := g_getN (ref := "EarlyGauge$Image") (host := "EarlyGauge") C hin_3 (Cn := RX3) (T := TX3) (N := 5) rfl 1 (by decide) (by decide +kernel) (fun _ _ _ _ h => h) he hv hdg hp kk
theorem hw_11_240 : qWV RX11 240 RX0 yX0_copyFrom cX0_copyFrom 3 none 1 := ⟨⟨(AW_m 642 (by decide +kernel) rfl), (AW_m 643 (by decide +kernel) rfl), (AW_m 644 (by decide +kernel) rfl), (AW_m 46 (by decide +kernel) rfl), cw_X0_copyFrom⟩, by decide +kernel⟩
theorem hw_11_243 : qWV RX11 243 RX11 yX11_countPeople cX11_countPeople 3 (some .int) 0 := ⟨⟨(AW_m 646 (by decide +kernel) rfl), (AW_m 648 (by decide +kernel) rfl), (AW_m 10 (by decide +kernel) rfl), (AW_m 42 (by decide +kernel) rfl), cw_X11_countPeople⟩, by decide +kernel⟩
theorem gf_11_246 (C : qC X D b l R cc RX11 nL) (he : h a = some (.inr (3, fs))) (hv : fs[3]? = some v) (hdg : decode cc pc = .ok (.getfield 246, 3)) (hp : pc + 3 = pc') (kk : qG X k n z h pc' L (v :: st)) : qG X k n z h pc L (.ref a :: st) := g_getN (ref := "EarlyGauge$Image") (host := "EarlyGauge") C hin_3 (Cn := RX3) (T := TX3) (N := 5) rfl 3 (by decide) (by decide +kernel) (fun _ _ _ _ h => h) he hv hdg hp kk
theorem pf_11_246 (C : qC X D b l R cc RX11 nL) (he : h a = some (.inr (3, fs))) (hn : narrow .int v = v) (hfit : fits .int v = true) (hlen : 3 < fs.length) (hdg : decode cc pc = .ok (.putfield 246, 3)) (hp : pc + 3 = pc') (kk : ∀ h1 : qH, h1 a = some (.inr (3, fs.set 3 v)) → (∀ q, q ≠ a → h1 q = h q) → qG X k n z h1 pc' L st) : qG X k n z h pc L (v :: .ref a :: st) := g_putN (ref := "EarlyGauge$Image") (host := "EarlyGauge") C hin_3 tyX3 tyX3_ok nmX3 (Cn := RX3) (T := TX3) (N := 5) rfl 3 (by decide) (by decide +kernel) (fun _ _ _ _ h => h) rfl (ty := .int) (by decide +kernel) he hn hfit hlen hdg hp kk
theorem gf_11_248 (C : qC X D b l R cc RX11 nL) (he : h a = some (.inr (3, fs))) (hv : fs[2]? = some v) (hdg : decode cc pc = .ok (.getfield 248, 3)) (hp : pc + 3 = pc') (kk : qG X k n z h pc' L (v :: st)) : qG X k n z h pc L (.ref a :: st) := g_getN (ref := "EarlyGauge$Image") (host := "EarlyGauge") C hin_3 (Cn := RX3) (T := TX3) (N := 5) rfl 2 (by decide) (by decide +kernel) (fun _ _ _ _ h => h) he hv hdg hp kk
theorem gf_11_251 (C : qC X D b l R cc RX11 nL) (he : h a = some (.inr (9, fs))) (hv : fs[2]? = some v) (hdg : decode cc pc = .ok (.getfield 251, 3)) (hp : pc + 3 = pc') (kk : qG X k n z h pc' L (v :: st)) : qG X k n z h pc L (.ref a :: st) := g_getN (ref := "EarlyGauge$Station") (host := "EarlyGauge") C hin_9 (Cn := RX9) (T := TX9) (N := 3) rfl 2 (by decide) (by decide +kernel) (fun _ _ _ _ h => h) he hv hdg hp kk
theorem hw_11_254 : qWV RX11 254 RX11 yX11_paidByAll cX11_paidByAll 4 (some .int) 0 := ⟨⟨(AW_m 658 (by decide +kernel) rfl), (AW_m 660 (by decide +kernel) rfl), (AW_m 11 (by decide +kernel) rfl), (AW_m 42 (by decide +kernel) rfl), cw_X11_paidByAll⟩, by decide +kernel⟩
theorem kl_11_257 : Cond.constantLong RX11 257 (821) ∈ AW := (AW_m 666 (by decide +kernel) rfl)
theorem hw_11_259 : qWV RX11 259 RX11 yX11_digestOfPeople cX11_digestOfPeople 8 (some .long) 1 := ⟨⟨(AW_m 667 (by decide +kernel) rfl), (AW_m 669 (by decide +kernel) rfl), (AW_m 12 (by decide +kernel) rfl), (AW_m 42 (by decide +kernel) rfl), cw_X11_digestOfPeople⟩, by decide +kernel⟩
theorem hw_11_263 : qWV RX11 263 RX11 yX11_digestOfComing cX11_digestOfComing 6 (some .long) 1 := ⟨⟨(AW_m 673 (by decide +kernel) rfl), (AW_m 675 (by decide +kernel) rfl), (AW_m 13 (by decide +kernel) rfl), (AW_m 42 (by decide +kernel) rfl), cw_X11_digestOfComing⟩, by decide +kernel⟩
theorem kl_11_266 : Cond.constantLong RX11 266 (31) ∈ AW := (AW_m 671 (by decide +kernel) rfl)
theorem hw_11_268 : qWV RX11 268 RX11 yX11_wrong cX11_wrong 2 (some .int) 1 := ⟨⟨(AW_m 687 (by decide +kernel) rfl), (AW_m 581 (by decide +kernel) rfl), (AW_m 582 (by decide +kernel) rfl), (AW_m 42 (by decide +kernel) rfl), cw_X11_wrong⟩, by decide +kernel⟩
theorem hw_11_271 : qWV RX11 271 RX11 yX11_earliest cX11_earliest 4 (some .int) 0 := ⟨⟨(AW_m 688 (by decide +kernel) rfl), (AW_m 593 (by decide +kernel) rfl), (AW_m 594 (by decide +kernel) rfl), (AW_m 42 (by decide +kernel) rfl), cw_X11_earliest⟩, by decide +kernel⟩
theorem hw_11_274 : qWV RX11 274 RX8 yX8_codeAt cX8_codeAt 2 (some .int) 1 := ⟨⟨(AW_m 689 (by decide +kernel) rfl), (AW_m 271 (by decide +kernel) rfl), (AW_m 272 (by decide +kernel) rfl), (AW_m 44 (by decide +kernel) rfl), cw_X8_codeAt⟩, by decide +kernel⟩
theorem hw_11_277 : qWV RX11 277 RX11 yX11_count cX11_count 2 (some .int) 1 := ⟨⟨(AW_m 690 (by decide +kernel) rfl), (AW_m 655 (by decide +kernel) rfl), (AW_m 656 (by decide +kernel) rfl), (AW_m 42 (by decide +kernel) rfl), cw_X11_count⟩, by decide +kernel⟩
theorem hw_11_280 : qWV RX11 280 RX11 yX11_about cX11_about 4 (some .int) 2 := ⟨⟨(AW_m 672 (by decide +kernel) rfl), (AW_m 485 (by decide +kernel) rfl), (AW_m 486 (by decide +kernel) rfl), (AW_m 42 (by decide +kernel) rfl), cw_X11_about⟩, by decide +kernel⟩
theorem hw_11_283 : qWV RX11 283 RX11 yX11_told cX11_told 2 (some .int) 1 := ⟨⟨(AW_m 677 (by decide +kernel) rfl), (AW_m 356 (by decide +kernel) rfl), (AW_m 357 (by decide +kernel) rfl), (AW_m 42 (by decide +kernel) rfl), cw_X11_told⟩, by decide +kernel⟩
theorem hw_11_286 : qWV RX11 286 RX11 yX11_digestOfLikely cX11_digestOfLikely 7 (some .long) 2 := ⟨⟨(AW_m 678 (by decide +kernel) rfl), (AW_m 680 (by decide +kernel) rfl), (AW_m 14 (by decide +kernel) rfl), (AW_m 42 (by decide +kernel) rfl), cw_X11_digestOfLikely⟩, by decide +kernel⟩
theorem hw_11_290 : qWV RX11 290 RX11 yX11_likeliest cX11_likeliest 1 (some .int) 0 := ⟨⟨(AW_m 683 (by decide +kernel) rfl), (AW_m 536 (by decide +kernel) rfl), (AW_m 537 (by decide +kernel) rfl), (AW_m 42 (by decide +kernel) rfl), cw_X11_likeliest⟩, by decide +kernel⟩
theorem hw_11_293 : qWV RX11 293 RX11 yX11_ways cX11_ways 1 (some .int) 0 := ⟨⟨(AW_m 684 (by decide +kernel) rfl), (AW_m 544 (by decide +kernel) rfl), (AW_m 545 (by decide +kernel) rfl), (AW_m 42 (by decide +kernel) rfl), cw_X11_ways⟩, by decide +kernel⟩
theorem hw_11_296 : qWV RX11 296 RX11 yX11_sure cX11_sure 2 (some .int) 1 := ⟨⟨(AW_m 685 (by decide +kernel) rfl), (AW_m 552 (by decide +kernel) rfl), (AW_m 553 (by decide +kernel) rfl), (AW_m 42 (by decide +kernel) rfl), cw_X11_sure⟩, by decide +kernel⟩
theorem hw_11_299 : qWV RX11 299 RX11 yX11_look cX11_look 9 (some .long) 3 := ⟨⟨(AW_m 686 (by decide +kernel) rfl), (AW_m 557 (by decide +kernel) rfl), (AW_m 558 (by decide +kernel) rfl), (AW_m 42 (by decide +kernel) rfl), cw_X11_look⟩, by decide +kernel⟩
theorem hw_11_302 : qWV RX11 302 RX11 yX11_likely cX11_likely 4 (some .long) 3 := ⟨⟨(AW_m 682 (by decide +kernel) rfl), (AW_m 518 (by decide +kernel) rfl), (AW_m 519 (by decide +kernel) rfl), (AW_m 42 (by decide +kernel) rfl), cw_X11_likely⟩, by decide +kernel⟩
theorem hw_11_305 : qWS RX11 305 yX11_greatestDivisor cX11_greatestDivisor 11 (some .long) 2 := ⟨⟨(AW_m 532 (by decide +kernel) rfl), (AW_m 533 (by decide +kernel) rfl), (AW_m 42 (by decide +kernel) rfl), cw_X11_greatestDivisor⟩, by decide +kernel⟩
theorem hw_11_311 : qWI RX11 311 yX2_init cX2_init 3 2 := ⟨⟨(AW_m 427 (by decide +kernel) rfl), (AW_m 428 (by decide +kernel) rfl), (AW_m 52 (by decide +kernel) rfl), cw_X2_init⟩, rfl, by decide +kernel⟩
theorem hw_11_315 : qWI RX11 315 yX6_init cX6_init 3 2 := ⟨⟨(AW_m 452 (by decide +kernel) rfl), (AW_m 453 (by decide +kernel) rfl), (AW_m 53 (by decide +kernel) rfl), cw_X6_init⟩, rfl, by decide +kernel⟩
theorem hw_11_318 : qWI RX11 318 yX1_init cX1_init 3 2 := ⟨⟨(AW_m 462 (by decide +kernel) rfl), (AW_m 463 (by decide +kernel) rfl), (AW_m 54 (by decide +kernel) rfl), cw_X1_init⟩, rfl, by decide +kernel⟩
theorem hw_11_321 : qWI RX11 321 yX5_init cX5_init 3 2 := ⟨⟨(AW_m 471 (by decide +kernel) rfl), (AW_m 472 (by decide +kernel) rfl), (AW_m 55 (by decide +kernel) rfl), cw_X5_init⟩, rfl, by decide +kernel⟩
theorem hw_11_322 : qWI RX11 322 yX4_init cX4_init 3 2 := ⟨⟨(AW_m 479 (by decide +kernel) rfl), (AW_m 431 (by decide +kernel) rfl), (AW_m 51 (by decide +kernel) rfl), cw_X4_init⟩, rfl, by decide +kernel⟩
theorem hw_12_1 : Cond.methodLink RX12 1 objectInit ∈ AW ∧ Cond.instanceMethod objectInit ∈ AW ∧ Cond.code objectInit ⟨#[0xb1]⟩ 1 none ∈ AW := ⟨(AW_m 696 (by decide +kernel) rfl), (AW_m 62 (by decide +kernel) rfl), (AW_m 63 (by decide +kernel) rfl)⟩
theorem gf_12_7 (C : qC X D b l R cc RX12 nL) (he : h a = some (.inr (12, fs))) (hv : fs[2]? = some v) (hdg : decode cc pc = .ok (.getfield 7, 3)) (hp : pc + 3 = pc') (kk : qG X k n z h pc' L (v :: st)) : qG X k n z h pc L (.ref a :: st) := g_get (ref := "EarlyGaugeModel") C hin_12 (Cn := RX12) (T := TX12) (N := 36) rfl 2 (by decide) (AW_m 699 (by decide +kernel) rfl) (fun _ _ _ _ h => h) he hv hdg hp kk
theorem pf_12_7 (C : qC X D b l R cc RX12 nL) (hin2 : X.2.2.2.2.2.2.2.2.2.2.1.name = "<init>") (he : h a = some (.inr (12, fs))) (hn : narrow (.array .int) v = v) (hfit : fits (.array .int) v = true) (hlen : 2 < fs.length) (hdg : decode cc pc = .ok (.putfield 7, 3)) (hp : pc + 3 = pc') (kk : ∀ h1 : qH, h1 a = some (.inr (12, fs.set 2 v)) → (∀ q, q ≠ a → h1 q = h q) → qG X k n z h1 pc' L st) : qG X k n z h pc L (v :: .ref a :: st) := g_putF (ref := "EarlyGaugeModel") C hin_12 tyX12 tyX12_ok nmX12 (Cn := RX12) (T := TX12) (N := 36) rfl 2 (by decide) (AW_m 699 (by decide +kernel) rfl) (fun _ _ _ _ h => h) rfl hin2 rfl (ty := (.array .int)) (by decide +kernel) he hn hfit hlen hdg hp kk
theorem gf_12_13 (C : qC X D b l R cc RX12 nL) (he : h a = some (.inr (12, fs))) (hv : fs[7]? = some v) (hdg : decode cc pc = .ok (.getfield 13, 3)) (hp : pc + 3 = pc') (kk : qG X k n z h pc' L (v :: st)) : qG X k n z h pc L (.ref a :: st) := g_get (ref := "EarlyGaugeModel") C hin_12 (Cn := RX12) (T := TX12) (N := 36) rfl 7 (by decide) (AW_m 704 (by decide +kernel) rfl) (fun _ _ _ _ h => h) he hv hdg hp kk
theorem pf_12_13 (C : qC X D b l R cc RX12 nL) (hin2 : X.2.2.2.2.2.2.2.2.2.2.1.name = "<init>") (he : h a = some (.inr (12, fs))) (hn : narrow (.array .int) v = v) (hfit : fits (.array .int) v = true) (hlen : 7 < fs.length) (hdg : decode cc pc = .ok (.putfield 13, 3)) (hp : pc + 3 = pc') (kk : ∀ h1 : qH, h1 a = some (.inr (12, fs.set 7 v)) → (∀ q, q ≠ a → h1 q = h q) → qG X k n z h1 pc' L st) : qG X k n z h pc L (v :: .ref a :: st) := g_putF (ref := "EarlyGaugeModel") C hin_12 tyX12 tyX12_ok nmX12 (Cn := RX12) (T := TX12) (N := 36) rfl 7 (by decide) (AW_m 704 (by decide +kernel) rfl) (fun _ _ _ _ h => h) rfl hin2 rfl (ty := (.array .int)) (by decide +kernel) he hn hfit hlen hdg hp kk
theorem gf_12_16 (C : qC X D b l R cc RX12 nL) (he : h a = some (.inr (12, fs))) (hv : fs[9]? = some v) (hdg : decode cc pc = .ok (.getfield 16, 3)) (hp : pc + 3 = pc') (kk : qG X k n z h pc' L (v :: st)) : qG X k n z h pc L (.ref a :: st) := g_get (ref := "EarlyGaugeModel") C hin_12 (Cn := RX12) (T := TX12) (N := 36) rfl 9 (by decide) (AW_m 706 (by decide +kernel) rfl) (fun _ _ _ _ h => h) he hv hdg hp kk
theorem pf_12_16 (C : qC X D b l R cc RX12 nL) (hin2 : X.2.2.2.2.2.2.2.2.2.2.1.name = "<init>") (he : h a = some (.inr (12, fs))) (hn : narrow (.array .int) v = v) (hfit : fits (.array .int) v = true) (hlen : 9 < fs.length) (hdg : decode cc pc = .ok (.putfield 16, 3)) (hp : pc + 3 = pc') (kk : ∀ h1 : qH, h1 a = some (.inr (12, fs.set 9 v)) → (∀ q, q ≠ a → h1 q = h q) → qG X k n z h1 pc' L st) : qG X k n z h pc L (v :: .ref a :: st) := g_putF (ref := "EarlyGaugeModel") C hin_12 tyX12 tyX12_ok nmX12 (Cn := RX12) (T := TX12) (N := 36) rfl 9 (by decide) (AW_m 706 (by decide +kernel) rfl) (fun _ _ _ _ h => h) rfl hin2 rfl (ty := (.array .int)) (by decide +kernel) he hn hfit hlen hdg hp kk
theorem gf_12_19 (C : qC X D b l R cc RX12 nL) (he : h a = some (.inr (12, fs))) (hv : fs[10]? = some v) (hdg : decode cc pc = .ok (.getfield 19, 3)) (hp : pc + 3 = pc') (kk : qG X k n z h pc' L (v :: st)) : qG X k n z h pc L (.ref a :: st) := g_get (ref := "EarlyGaugeModel") C hin_12 (Cn := RX12) (T := TX12) (N := 36) rfl 10 (by decide) (AW_m 707 (by decide +kernel) rfl) (fun _ _ _ _ h => h) he hv hdg hp kk
theorem pf_12_19 (C : qC X D b l R cc RX12 nL) (hin2 : X.2.2.2.2.2.2.2.2.2.2.1.name = "<init>") (he : h a = some (.inr (12, fs))) (hn : narrow (.array .int) v = v) (hfit : fits (.array .int) v = true) (hlen : 10 < fs.length) (hdg : decode cc pc = .ok (.putfield 19, 3)) (hp : pc + 3 = pc') (kk : ∀ h1 : qH, h1 a = some (.inr (12, fs.set 10 v)) → (∀ q, q ≠ a → h1 q = h q) → qG X k n z h1 pc' L st) : qG X k n z h pc L (v :: .ref a :: st) := g_putF (ref := "EarlyGaugeModel") C hin_12 tyX12 tyX12_ok nmX12 (Cn := RX12) (T := TX12) (N := 36) rfl 10 (by decide) (AW_m 707 (by decide +kernel) rfl) (fun _ _ _ _ h => h) rfl hin2 rfl (ty := (.array .int)) (by decide +kernel) he hn hfit hlen hdg hp kk
theorem gf_12_22 (C : qC X D b l R cc RX12 nL) (he : h a = some (.inr (12, fs))) (hv : fs[11]? = some v) (hdg : decode cc pc = .ok (.getfield 22, 3)) (hp : pc + 3 = pc') (kk : qG X k n z h pc' L (v :: st)) : qG X k n z h pc L (.ref a :: st) := g_get (ref := "EarlyGaugeModel") C hin_12 (Cn := RX12) (T := TX12) (N := 36) rfl 11 (by decide) (AW_m 708 (by decide +kernel) rfl) (fun _ _ _ _ h => h) he hv hdg hp kk
theorem pf_12_22 (C : qC X D b l R cc RX12 nL) (hin2 : X.2.2.2.2.2.2.2.2.2.2.1.name = "<init>") (he : h a = some (.inr (12, fs))) (hn : narrow (.array .int) v = v) (hfit : fits (.array .int) v = true) (hlen : 11 < fs.length) (hdg : decode cc pc = .ok (.putfield 22, 3)) (hp : pc + 3 = pc') (kk : ∀ h1 : qH, h1 a = some (.inr (12, fs.set 11 v)) → (∀ q, q ≠ a → h1 q = h q) → qG X k n z h1 pc' L st) : qG X k n z h pc L (v :: .ref a :: st) := g_putF (ref := "EarlyGaugeModel") C hin_12 tyX12 tyX12_ok nmX12 (Cn := RX12) (T := TX12) (N := 36) rfl 11 (by decide) (AW_m 708 (by decide +kernel) rfl) (fun _ _ _ _ h => h) rfl hin2 rfl (ty := (.array .int)) (by decide +kernel) he hn hfit hlen hdg hp kk
theorem gf_12_25 (C : qC X D b l R cc RX12 nL) (he : h a = some (.inr (12, fs))) (hv : fs[12]? = some v) (hdg : decode cc pc = .ok (.getfield 25, 3)) (hp : pc + 3 = pc') (kk : qG X k n z h pc' L (v :: st)) : qG X k n z h pc L (.ref a :: st) := g_get (ref := "EarlyGaugeModel") C hin_12 (Cn := RX12) (T := TX12) (N := 36) rfl 12 (by decide) (AW_m 709 (by decide +kernel) rfl) (fun _ _ _ _ h => h) he hv hdg hp kk
theorem pf_12_25 (C : qC X D b l R cc RX12 nL) (hin2 : X.2.2.2.2.2.2.2.2.2.2.1.name = "<init>") (he : h a = some (.inr (12, fs))) (hn : narrow (.array .int) v = v) (hfit : fits (.array .int) v = true) (hlen : 12 < fs.length) (hdg : decode cc pc = .ok (.putfield 25, 3)) (hp : pc + 3 = pc') (kk : ∀ h1 : qH, h1 a = some (.inr (12, fs.set 12 v)) → (∀ q, q ≠ a → h1 q = h q) → qG X k n z h1 pc' L st) : qG X k n z h pc L (v :: .ref a :: st) := g_putF (ref := "EarlyGaugeModel") C hin_12 tyX12 tyX12_ok nmX12 (Cn := RX12) (T := TX12) (N := 36) rfl 12 (by decide) (AW_m 709 (by decide +kernel) rfl) (fun _ _ _ _ h => h) rfl hin2 rfl (ty := (.array .int)) (by decide +kernel) he hn hfit hlen hdg hp kk
theorem gf_12_28 (C : qC X D b l R cc RX12 nL) (he : h a = some (.inr (12, fs))) (hv : fs[14]? = some v) (hdg : decode cc pc = .ok (.getfield 28, 3)) (hp : pc + 3 = pc') (kk : qG X k n z h pc' L (v :: st)) : qG X k n z h pc L (.ref a :: st) := g_get (ref := "EarlyGaugeModel") C hin_12 (Cn := RX12) (T := TX12) (N := 36) rfl 14 (by decide) (AW_m 711 (by decide +kernel) rfl) (fun _ _ _ _ h => h) he hv hdg hp kk
theorem pf_12_28 (C : qC X D b l R cc RX12 nL) (hin2 : X.2.2.2.2.2.2.2.2.2.2.1.name = "<init>") (he : h a = some (.inr (12, fs))) (hn : narrow (.array .int) v = v) (hfit : fits (.array .int) v = true) (hlen : 14 < fs.length) (hdg : decode cc pc = .ok (.putfield 28, 3)) (hp : pc + 3 = pc') (kk : ∀ h1 : qH, h1 a = some (.inr (12, fs.set 14 v)) → (∀ q, q ≠ a → h1 q = h q) → qG X k n z h1 pc' L st) : qG X k n z h pc L (v :: .ref a :: st) := g_putF (ref := "EarlyGaugeModel") C hin_12 tyX12 tyX12_ok nmX12 (Cn := RX12) (T := TX12) (N := 36) rfl 14 (by decide) (AW_m 711 (by decide +kernel) rfl) (fun _ _ _ _ h => h) rfl hin2 rfl (ty := (.array .int)) (by decide +kernel) he hn hfit hlen hdg hp kk
theorem gf_12_31 (C : qC X D b l R cc RX12 nL) (he : h a = some (.inr (12, fs))) (hv : fs[15]? = some v) (hdg : decode cc pc = .ok (.getfield 31, 3)) (hp : pc + 3 = pc') (kk : qG X k n z h pc' L (v :: st)) : qG X k n z h pc L (.ref a :: st) := g_get (ref := "EarlyGaugeModel") C hin_12 (Cn := RX12) (T := TX12) (N := 36) rfl 15 (by decide) (AW_m 712 (by decide +kernel) rfl) (fun _ _ _ _ h => h) he hv hdg hp kk
theorem pf_12_31 (C : qC X D b l R cc RX12 nL) (hin2 : X.2.2.2.2.2.2.2.2.2.2.1.name = "<init>") (he : h a = some (.inr (12, fs))) (hn : narrow (.array .int) v = v) (hfit : fits (.array .int) v = true) (hlen : 15 < fs.length) (hdg : decode cc pc = .ok (.putfield 31, 3)) (hp : pc + 3 = pc') (kk : ∀ h1 : qH, h1 a = some (.inr (12, fs.set 15 v)) → (∀ q, q ≠ a → h1 q = h q) → qG X k n z h1 pc' L st) : qG X k n z h pc L (v :: .ref a :: st) := g_putF (ref := "EarlyGaugeModel") C hin_12 tyX12 tyX12_ok nmX12 (Cn := RX12) (T := TX12) (N := 36) rfl 15 (by decide) (AW_m 712 (by decide +kernel) rfl) (fun _ _ _ _ h => h) rfl hin2 rfl (ty := (.array .int)) (by decide +kernel) he hn hfit hlen hdg hp kk
theorem gf_12_34 (C : qC X D b l R cc RX12 nL) (he : h a = some (.inr (12, fs))) (hv : fs[17]? = some v) (hdg : decode cc pc = .ok (.getfield 34, 3)) (hp : pc + 3 = pc') (kk : qG X k n z h pc' L (v :: st)) : qG X k n z h pc L (.ref a :: st) := g_get (ref := "EarlyGaugeModel") C hin_12 (Cn := RX12) (T := TX12) (N := 36) rfl 17 (by decide) (AW_m 714 (by decide +kernel) rfl) (fun _ _ _ _ h => h) he hv hdg hp kk
theorem pf_12_34 (C : qC X D b l R cc RX12 nL) (hin2 : X.2.2.2.2.2.2.2.2.2.2.1.name = "<init>") (he : h a = some (.inr (12, fs))) (hn : narrow (.array .byte) v = v) (hfit : fits (.array .byte) v = true) (hlen : 17 < fs.length) (hdg : decode cc pc = .ok (.putfield 34, 3)) (hp : pc + 3 = pc') (kk : ∀ h1 : qH, h1 a = some (.inr (12, fs.set 17 v)) → (∀ q, q ≠ a → h1 q = h q) → qG X k n z h1 pc' L st) : qG X k n z h pc L (v :: .ref a :: st) := g_putF (ref := "EarlyGaugeModel") C hin_12 tyX12 tyX12_ok nmX12 (Cn := RX12) (T := TX12) (N := 36) rfl 17 (by decide) (AW_m 714 (by decide +kernel) rfl) (fun _ _ _ _ h => h) rfl hin2 rfl (ty := (.array .byte)) (by decide +kernel) he hn hfit hlen hdg hp kk
theorem gf_12_38 (C : qC X D b l R cc RX12 nL) (he : h a = some (.inr (12, fs))) (hv : fs[21]? = some v) (hdg : decode cc pc = .ok (.getfield 38, 3)) (hp : pc + 3 = pc') (kk : qG X k n z h pc' L (v :: st)) : qG X k n z h pc L (.ref a :: st) := g_get (ref := "EarlyGaugeModel") C hin_12 (Cn := RX12) (T := TX12) (N := 36) rfl 21 (by decide) (AW_m 718 (by decide +kernel) rfl) (fun _ _ _ _ h => h) he hv hdg hp kk
theorem pf_12_38 (C : qC X D b l R cc RX12 nL) (hin2 : X.2.2.2.2.2.2.2.2.2.2.1.name = "<init>") (he : h a = some (.inr (12, fs))) (hn : narrow (.array .int) v = v) (hfit : fits (.array .int) v = true) (hlen : 21 < fs.length) (hdg : decode cc pc = .ok (.putfield 38, 3)) (hp : pc + 3 = pc') (kk : ∀ h1 : qH, h1 a = some (.inr (12, fs.set 21 v)) → (∀ q, q ≠ a → h1 q = h q) → qG X k n z h1 pc' L st) : qG X k n z h pc L (v :: .ref a :: st) := g_putF (ref := "EarlyGaugeModel") C hin_12 tyX12 tyX12_ok nmX12 (Cn := RX12) (T := TX12) (N := 36) rfl 21 (by decide) (AW_m 718 (by decide +kernel) rfl) (fun _ _ _ _ h => h) rfl hin2 rfl (ty := (.array .int)) (by decide +kernel) he hn hfit hlen hdg hp kk
theorem gf_12_41 (C : qC X D b l R cc RX12 nL) (he : h a = some (.inr (12, fs))) (hv : fs[22]? = some v) (hdg : decode cc pc = .ok (.getfield 41, 3)) (hp : pc + 3 = pc') (kk : qG X k n z h pc' L (v :: st)) : qG X k n z h pc L (.ref a :: st) := g_get (ref := "EarlyGaugeModel") C hin_12 (Cn := RX12) (T := TX12) (N := 36) rfl 22 (by decide) (AW_m 719 (by decide +kernel) rfl) (fun _ _ _ _ h => h) he hv hdg hp kk
theorem pf_12_41 (C : qC X D b l R cc RX12 nL) (hin2 : X.2.2.2.2.2.2.2.2.2.2.1.name = "<init>") (he : h a = some (.inr (12, fs))) (hn : narrow (.array .int) v = v) (hfit : fits (.array .int) v = true) (hlen : 22 < fs.length) (hdg : decode cc pc = .ok (.putfield 41, 3)) (hp : pc + 3 = pc') (kk : ∀ h1 : qH, h1 a = some (.inr (12, fs.set 22 v)) → (∀ q, q ≠ a → h1 q = h q) → qG X k n z h1 pc' L st) : qG X k n z h pc L (v :: .ref a :: st) := g_putF (ref := "EarlyGaugeModel") C hin_12 tyX12 tyX12_ok nmX12 (Cn := RX12) (T := TX12) (N := 36) rfl 22 (by decide) (AW_m 719 (by decide +kernel) rfl) (fun _ _ _ _ h => h) rfl hin2 rfl (ty := (.array .int)) (by decide +kernel) he hn hfit hlen hdg hp kk
theorem gf_12_44 (C : qC X D b l R cc RX12 nL) (he : h a = some (.inr (12, fs))) (hv : fs[31]? = some v) (hdg : decode cc pc = .ok (.getfield 44, 3)) (hp : pc + 3 = pc') (kk : qG X k n z h pc' L (v :: st)) : qG X k n z h pc L (.ref a :: st) := g_get (ref := "EarlyGaugeModel") C hin_12 (Cn := RX12) (T := TX12) (N := 36) rfl 31 (by decide) (AW_m 728 (by decide +kernel) rfl) (fun _ _ _ _ h => h) he hv hdg hp kk
theorem pf_12_44 (C : qC X D b l R cc RX12 nL) (hin2 : X.2.2.2.2.2.2.2.2.2.2.1.name = "<init>") (he : h a = some (.inr (12, fs))) (hn : narrow (.array .int) v = v) (hfit : fits (.array .int) v = true) (hlen : 31 < fs.length) (hdg : decode cc pc = .ok (.putfield 44, 3)) (hp : pc + 3 = pc') (kk : ∀ h1 : qH, h1 a = some (.inr (12, fs.set 31 v)) → (∀ q, q ≠ a → h1 q = h q) → qG X k n z h1 pc' L st) : qG X k n z h pc L (v :: .ref a :: st) := g_putF (ref := "EarlyGaugeModel") C hin_12 tyX12 tyX12_ok nmX12 (Cn := RX12) (T := TX12) (N := 36) rfl 31 (by decide) (AW_m 728 (by decide +kernel) rfl) (fun _ _ _ _ h => h) rfl hin2 rfl (ty := (.array .int)) (by decide +kernel) he hn hfit hlen hdg hp kk
theorem gf_12_47 (C : qC X D b l R cc RX12 nL) (he : h a = some (.inr (12, fs))) (hv : fs[32]? = some v) (hdg : decode cc pc = .ok (.getfield 47, 3)) (hp : pc + 3 = pc') (kk : qG X k n z h pc' L (v :: st)) : qG X k n z h pc L (.ref a :: st) := g_get (ref := "EarlyGaugeModel") C hin_12 (Cn := RX12) (T := TX12) (N := 36) rfl 32 (by decide) (AW_m 729 (by decide +kernel) rfl) (fun _ _ _ _ h => h) he hv hdg hp kk
theorem pf_12_47 (C : qC X D b l R cc RX12 nL) (hin2 : X.2.2.2.2.2.2.2.2.2.2.1.name = "<init>") (he : h a = some (.inr (12, fs))) (hn : narrow (.array .int) v = v) (hfit : fits (.array .int) v = true) (hlen : 32 < fs.length) (hdg : decode cc pc = .ok (.putfield 47, 3)) (hp : pc + 3 = pc') (kk : ∀ h1 : qH, h1 a = some (.inr (12, fs.set 32 v)) → (∀ q, q ≠ a → h1 q = h q) → qG X k n z h1 pc' L st) : qG X k n z h pc L (v :: .ref a :: st) := g_putF (ref := "EarlyGaugeModel") C hin_12 tyX12 tyX12_ok nmX12 (Cn := RX12) (T := TX12) (N := 36) rfl 32 (by decide) (AW_m 729 (by decide +kernel) rfl) (fun _ _ _ _ h => h) rfl hin2 rfl (ty := (.array .int)) (by decide +kernel) he hn hfit hlen hdg hp kk
theorem gf_12_50 (C : qC X D b l R cc RX12 nL) (he : h a = some (.inr (12, fs))) (hv : fs[33]? = some v) (hdg : decode cc pc = .ok (.getfield 50, 3)) (hp : pc + 3 = pc') (kk : qG X k n z h pc' L (v :: st)) : qG X k n z h pc L (.ref a :: st) := g_get (ref := "EarlyGaugeModel") C hin_12 (Cn := RX12) (T := TX12) (N := 36) rfl 33 (by decide) (AW_m 730 (by decide +kernel) rfl) (fun _ _ _ _ h => h) he hv hdg hp kk
theorem pf_12_50 (C : qC X D b l R cc RX12 nL) (hin2 : X.2.2.2.2.2.2.2.2.2.2.1.name = "<init>") (he : h a = some (.inr (12, fs))) (hn : narrow (.array .int) v = v) (hfit : fits (.array .int) v = true) (hlen : 33 < fs.length) (hdg : decode cc pc = .ok (.putfield 50, 3)) (hp : pc + 3 = pc') (kk : ∀ h1 : qH, h1 a = some (.inr (12, fs.set 33 v)) → (∀ q, q ≠ a → h1 q = h q) → qG X k n z h1 pc' L st) : qG X k n z h pc L (v :: .ref a :: st) := g_putF (ref := "EarlyGaugeModel") C hin_12 tyX12 tyX12_ok nmX12 (Cn := RX12) (T := TX12) (N := 36) rfl 33 (by decide) (AW_m 730 (by decide +kernel) rfl) (fun _ _ _ _ h => h) rfl hin2 rfl (ty := (.array .int)) (by decide +kernel) he hn hfit hlen hdg hp kk
theorem gf_12_53 (C : qC X D b l R cc RX12 nL) (he : h a = some (.inr (12, fs))) (hv : fs[34]? = some v) (hdg : decode cc pc = .ok (.getfield 53, 3)) (hp : pc + 3 = pc') (kk : qG X k n z h pc' L (v :: st)) : qG X k n z h pc L (.ref a :: st) := g_get (ref := "EarlyGaugeModel") C hin_12 (Cn := RX12) (T := TX12) (N := 36) rfl 34 (by decide) (AW_m 731 (by decide +kernel) rfl) (fun _ _ _ _ h => h) he hv hdg hp kk
theorem pf_12_53 (C : qC X D b l R cc RX12 nL) (hin2 : X.2.2.2.2.2.2.2.2.2.2.1.name = "<init>") (he : h a = some (.inr (12, fs))) (hn : narrow (.array .int) v = v) (hfit : fits (.array .int) v = true) (hlen : 34 < fs.length) (hdg : decode cc pc = .ok (.putfield 53, 3)) (hp : pc + 3 = pc') (kk : ∀ h1 : qH, h1 a = some (.inr (12, fs.set 34 v)) → (∀ q, q ≠ a → h1 q = h q) → qG X k n z h1 pc' L st) : qG X k n z h pc L (v :: .ref a :: st) := g_putF (ref := "EarlyGaugeModel") C hin_12 tyX12 tyX12_ok nmX12 (Cn := RX12) (T := TX12) (N := 36) rfl 34 (by decide) (AW_m 731 (by decide +kernel) rfl) (fun _ _ _ _ h => h) rfl hin2 rfl (ty := (.array .int)) (by decide +kernel) he hn hfit hlen hdg hp kk
theorem hw_12_56 : qWS RX12 56 yX12_within cX12_within 3 (some .boolean) 3 := ⟨⟨(AW_m 811 (by decide +kernel) rfl), (AW_m 812 (by decide +kernel) rfl), (AW_m 49 (by decide +kernel) rfl), cw_X12_within⟩, by decide +kernel⟩
theorem gf_12_60 (C : qC X D b l R cc RX12 nL) (he : h a = some (.inr (12, fs))) (hv : fs[16]? = some v) (hdg : decode cc pc = .ok (.getfield 60, 3)) (hp : pc + 3 = pc') (kk : qG X k n z h pc' L (v :: st)) : qG X k n z h pc L (.ref a :: st) := g_get (ref := "EarlyGaugeModel") C hin_12 (Cn := RX12) (T := TX12) (N := 36) rfl 16 (by decide) (AW_m 713 (by decide +kernel) rfl) (fun _ _ _ _ h => h) he hv hdg hp kk
theorem pf_12_60 (C : qC X D b l R cc RX12 nL) (he : h a = some (.inr (12, fs))) (hn : narrow .int v = v) (hfit : fits .int v = true) (hlen : 16 < fs.length) (hdg : decode cc pc = .ok (.putfield 60, 3)) (hp : pc + 3 = pc') (kk : ∀ h1 : qH, h1 a = some (.inr (12, fs.set 16 v)) → (∀ q, q ≠ a → h1 q = h q) → qG X k n z h1 pc' L st) : qG X k n z h pc L (v :: .ref a :: st) := g_put (ref := "EarlyGaugeModel") C hin_12 tyX12 tyX12_ok nmX12 (Cn := RX12) (T := TX12) (N := 36) rfl 16 (by decide) (AW_m 713 (by decide +kernel) rfl) (fun _ _ _ _ h => h) rfl (ty := .int) (by decide +kernel) he hn hfit hlen hdg hp kk
theorem hw_12_64 : qWV RX12 64 RX12 yX12_figure cX12_figure 2 (some .int) 1 := ⟨⟨(AW_m 830 (by decide +kernel) rfl), (AW_m 832 (by decide +kernel) rfl), (AW_m 17 (by decide +kernel) rfl), (AW_m 49 (by decide +kernel) rfl), cw_X12_figure⟩, by decide +kernel⟩
theorem hw_12_68 : qWV RX12 68 RX12 yX12_isGood cX12_isGood 3 (some .boolean) 1 := ⟨⟨(AW_m 826 (by decide +kernel) rfl), (AW_m 828 (by decide +kernel) rfl), (AW_m 16 (by decide +kernel) rfl), (AW_m 49 (by decide +kernel) rfl), cw_X12_isGood⟩, by decide +kernel⟩
theorem hw_12_72 : qWV RX12 72 RX12 yX12_faultNow cX12_faultNow 2 (some .int) 0 := ⟨⟨(AW_m 822 (by decide +kernel) rfl), (AW_m 824 (by decide +kernel) rfl), (AW_m 15 (by decide +kernel) rfl), (AW_m 49 (by decide +kernel) rfl), cw_X12_faultNow⟩, by decide +kernel⟩
theorem gf_12_76 (C : qC X D b l R cc RX12 nL) (he : h a = some (.inr (12, fs))) (hv : fs[3]? = some v) (hdg : decode cc pc = .ok (.getfield 76, 3)) (hp : pc + 3 = pc') (kk : qG X k n z h pc' L (v :: st)) : qG X k n z h pc L (.ref a :: st) := g_get (ref := "EarlyGaugeModel") C hin_12 (Cn := RX12) (T := TX12) (N := 36) rfl 3 (by decide) (AW_m 700 (by decide +kernel) rfl) (fun _ _ _ _ h => h) he hv hdg hp kk
theorem pf_12_76 (C : qC X D b l R cc RX12 nL) (he : h a = some (.inr (12, fs))) (hn : narrow .int v = v) (hfit : fits .int v = true) (hlen : 3 < fs.length) (hdg : decode cc pc = .ok (.putfield 76, 3)) (hp : pc + 3 = pc') (kk : ∀ h1 : qH, h1 a = some (.inr (12, fs.set 3 v)) → (∀ q, q ≠ a → h1 q = h q) → qG X k n z h1 pc' L st) : qG X k n z h pc L (v :: .ref a :: st) := g_put (ref := "EarlyGaugeModel") C hin_12 tyX12 tyX12_ok nmX12 (Cn := RX12) (T := TX12) (N := 36) rfl 3 (by decide) (AW_m 700 (by decide +kernel) rfl) (fun _ _ _ _ h => h) rfl (ty := .int) (by decide +kernel) he hn hfit hlen hdg hp kk
theorem gf_12_79 (C : qC X D b l R cc RX12 nL) (he : h a = some (.inr (12, fs))) (hv : fs[4]? = some v) (hdg : decode cc pc = .ok (.getfield 79, 3)) (hp : pc + 3 = pc') (kk : qG X k n z h pc' L (v :: st)) : qG X k n z h pc L (.ref a :: st) := g_get (ref := "EarlyGaugeModel") C hin_12 (Cn := RX12) (T := TX12) (N := 36) rfl 4 (by decide) (AW_m 701 (by decide +kernel) rfl) (fun _ _ _ _ h => h) he hv hdg hp kk
theorem pf_12_79 (C : qC X D b l R cc RX12 nL) (he : h a = some (.inr (12, fs))) (hn : narrow .int v = v) (hfit : fits .int v = true) (hlen : 4 < fs.length) (hdg : decode cc pc = .ok (.putfield 79, 3)) (hp : pc + 3 = pc') (kk : ∀ h1 : qH, h1 a = some (.inr (12, fs.set 4 v)) → (∀ q, q ≠ a → h1 q = h q) → qG X k n z h1 pc' L st) : qG X k n z h pc L (v :: .ref a :: st) := g_put (ref := "EarlyGaugeModel") C hin_12 tyX12 tyX12_ok nmX12 (Cn := RX12) (T := TX12) (N := 36) rfl 4 (by decide) (AW_m 701 (by decide +kernel) rfl) (fun _ _ _ _ h => h) rfl (ty := .int) (by decide +kernel) he hn hfit hlen hdg hp kk
theorem gf_12_82 (C : qC X D b l R cc RX12 nL) (he : h a = some (.inr (12, fs))) (hv : fs[0]? = some v) (hdg : decode cc pc = .ok (.getfield 82, 3)) (hp : pc + 3 = pc') (kk : qG X k n z h pc' L (v :: st)) : qG X k n z h pc L (.ref a :: st) := g_get (ref := "EarlyGaugeModel") C hin_12 (Cn := RX12) (T := TX12) (N := 36) rfl 0 (by decide) (AW_m 697 (by decide +kernel) rfl) (fun _ _ _ _ h => h) he hv hdg hp kk
theorem pf_12_82 (C : qC X D b l R cc RX12 nL) (he : h a = some (.inr (12, fs))) (hn : narrow .boolean v = v) (hfit : fits .boolean v = true) (hlen : 0 < fs.length) (hdg : decode cc pc = .ok (.putfield 82, 3)) (hp : pc + 3 = pc') (kk : ∀ h1 : qH, h1 a = some (.inr (12, fs.set 0 v)) → (∀ q, q ≠ a → h1 q = h q) → qG X k n z h1 pc' L st) : qG X k n z h pc L (v :: .ref a :: st) := g_put (ref := "EarlyGaugeModel") C hin_12 tyX12 tyX12_ok nmX12 (Cn := RX12) (T := TX12) (N := 36) rfl 0 (by decide) (AW_m 697 (by decide +kernel) rfl) (fun _ _ _ _ h => h) rfl (ty := .boolean) (by decide +kernel) he hn hfit hlen hdg hp kk
theorem gf_12_86 (C : qC X D b l R cc RX12 nL) (he : h a = some (.inr (12, fs))) (hv : fs[1]? = some v) (hdg : decode cc pc = .ok (.getfield 86, 3)) (hp : pc + 3 = pc') (kk : qG X k n z h pc' L (v :: st)) : qG X k n z h pc L (.ref a :: st) := g_get (ref := "EarlyGaugeModel") C hin_12 (Cn := RX12) (T := TX12) (N := 36) rfl 1 (by decide) (AW_m 698 (by decide +kernel) rfl) (fun _ _ _ _ h => h) he hv hdg hp kk
theorem pf_12_86 (C : qC X D b l R cc RX12 nL) (he : h a = some (.inr (12, fs))) (hn : narrow .int v = v) (hfit : fits .int v = true) (hlen : 1 < fs.length) (hdg : decode cc pc = .ok (.putfield 86, 3)) (hp : pc + 3 = pc') (kk : ∀ h1 : qH, h1 a = some (.inr (12, fs.set 1 v)) → (∀ q, q ≠ a → h1 q = h q) → qG X k n z h1 pc' L st) : qG X k n z h pc L (v :: .ref a :: st) := g_put (ref := "EarlyGaugeModel") C hin_12 tyX12 tyX12_ok nmX12 (Cn := RX12) (T := TX12) (N := 36) rfl 1 (by decide) (AW_m 698 (by decide +kernel) rfl) (fun _ _ _ _ h => h) rfl (ty := .int) (by decide +kernel) he hn hfit hlen hdg hp kk
theorem gf_12_89 (C : qC X D b l R cc RX12 nL) (he : h a = some (.inr (12, fs))) (hv : fs[5]? = some v) (hdg : decode cc pc = .ok (.getfield 89, 3)) (hp : pc + 3 = pc') (kk : qG X k n z h pc' L (v :: st)) : qG X k n z h pc L (.ref a :: st) := g_get (ref := "EarlyGaugeModel") C hin_12 (Cn := RX12) (T := TX12) (N := 36) rfl 5 (by decide) (AW_m 702 (by decide +kernel) rfl) (fun _ _ _ _ h => h) he hv hdg hp kk
theorem pf_12_89 (C : qC X D b l R cc RX12 nL) (he : h a = some (.inr (12, fs))) (hn : narrow .int v = v) (hfit : fits .int v = true) (hlen : 5 < fs.length) (hdg : decode cc pc = .ok (.putfield 89, 3)) (hp : pc + 3 = pc') (kk : ∀ h1 : qH, h1 a = some (.inr (12, fs.set 5 v)) → (∀ q, q ≠ a → h1 q = h q) → qG X k n z h1 pc' L st) : qG X k n z h pc L (v :: .ref a :: st) := g_put (ref := "EarlyGaugeModel") C hin_12 tyX12 tyX12_ok nmX12 (Cn := RX12) (T := TX12) (N := 36) rfl 5 (by decide) (AW_m 702 (by decide +kernel) rfl) (fun _ _ _ _ h => h) rfl (ty := .int) (by decide +kernel) he hn hfit hlen hdg hp kk
theorem gf_12_92 (C : qC X D b l R cc RX12 nL) (he : h a = some (.inr (12, fs))) (hv : fs[6]? = some v) (hdg : decode cc pc = .ok (.getfield 92, 3)) (hp : pc + 3 = pc') (kk : qG X k n z h pc' L (v :: st)) : qG X k n z h pc L (.ref a :: st) := g_get (ref := "EarlyGaugeModel") C hin_12 (Cn := RX12) (T := TX12) (N := 36) rfl 6 (by decide) (AW_m 703 (by decide +kernel) rfl) (fun _ _ _ _ h => h) he hv hdg hp kk
theorem pf_12_92 (C : qC X D b l R cc RX12 nL) (he : h a = some (.inr (12, fs))) (hn : narrow .int v = v) (hfit : fits .int v = true) (hlen : 6 < fs.length) (hdg : decode cc pc = .ok (.putfield 92, 3)) (hp : pc + 3 = pc') (kk : ∀ h1 : qH, h1 a = some (.inr (12, fs.set 6 v)) → (∀ q, q ≠ a → h1 q = h q) → qG X k n z h1 pc' L st) : qG X k n z h pc L (v :: .ref a :: st) := g_put (ref := "EarlyGaugeModel") C hin_12 tyX12 tyX12_ok nmX12 (Cn := RX12) (T := TX12) (N := 36) rfl 6 (by decide) (AW_m 703 (by decide +kernel) rfl) (fun _ _ _ _ h => h) rfl (ty := .int) (by decide +kernel) he hn hfit hlen hdg hp kk
theorem gf_12_95 (C : qC X D b l R cc RX12 nL) (he : h a = some (.inr (12, fs))) (hv : fs[8]? = some v) (hdg : decode cc pc = .ok (.getfield 95, 3)) (hp : pc + 3 = pc') (kk : qG X k n z h pc' L (v :: st)) : qG X k n z h pc L (.ref a :: st) := g_get (ref := "EarlyGaugeModel") C hin_12 (Cn := RX12) (T := TX12) (N := 36) rfl 8 (by decide) (AW_m 705 (by decide +kernel) rfl) (fun _ _ _ _ h => h) he hv hdg hp kk
theorem pf_12_95 (C : qC X D b l R cc RX12 nL) (he : h a = some (.inr (12, fs))) (hn : narrow .int v = v) (hfit : fits .int v = true) (hlen : 8 < fs.length) (hdg : decode cc pc = .ok (.putfield 95, 3)) (hp : pc + 3 = pc') (kk : ∀ h1 : qH, h1 a = some (.inr (12, fs.set 8 v)) → (∀ q, q ≠ a → h1 q = h q) → qG X k n z h1 pc' L st) : qG X k n z h pc L (v :: .ref a :: st) := g_put (ref := "EarlyGaugeModel") C hin_12 tyX12 tyX12_ok nmX12 (Cn := RX12) (T := TX12) (N := 36) rfl 8 (by decide) (AW_m 705 (by decide +kernel) rfl) (fun _ _ _ _ h => h) rfl (ty := .int) (by decide +kernel) he hn hfit hlen hdg hp kk
theorem gf_12_98 (C : qC X D b l R cc RX12 nL) (he : h a = some (.inr (12, fs))) (hv : fs[13]? = some v) (hdg : decode cc pc = .ok (.getfield 98, 3)) (hp : pc + 3 = pc') (kk : qG X k n z h pc' L (v :: st)) : qG X k n z h pc L (.ref a :: st) := g_get (ref := "EarlyGaugeModel") C hin_12 (Cn := RX12) (T := TX12) (N := 36) rfl 13 (by decide) (AW_m 710 (by decide +kernel) rfl) (fun _ _ _ _ h => h) he hv hdg hp kk
theorem pf_12_98 (C : qC X D b l R cc RX12 nL) (he : h a = some (.inr (12, fs))) (hn : narrow .int v = v) (hfit : fits .int v = true) (hlen : 13 < fs.length) (hdg : decode cc pc = .ok (.putfield 98, 3)) (hp : pc + 3 = pc') (kk : ∀ h1 : qH, h1 a = some (.inr (12, fs.set 13 v)) → (∀ q, q ≠ a → h1 q = h q) → qG X k n z h1 pc' L st) : qG X k n z h pc L (v :: .ref a :: st) := g_put (ref := "EarlyGaugeModel") C hin_12 tyX12 tyX12_ok nmX12 (Cn := RX12) (T := TX12) (N := 36) rfl 13 (by decide) (AW_m 710 (by decide +kernel) rfl) (fun _ _ _ _ h => h) rfl (ty := .int) (by decide +kernel) he hn hfit hlen hdg hp kk
theorem hw_12_101 : qWS RX12 101 yX12_isWeather cX12_isWeather 1 (some .boolean) 1 := ⟨⟨(AW_m 842 (by decide +kernel) rfl), (AW_m 843 (by decide +kernel) rfl), (AW_m 49 (by decide +kernel) rfl), cw_X12_isWeather⟩, by decide +kernel⟩
theorem hw_12_104 : qWS RX12 104 yX12_weatherIn cX12_weatherIn 4 (some .int) 2 := ⟨⟨(AW_m 853 (by decide +kernel) rfl), (AW_m 854 (by decide +kernel) rfl), (AW_m 49 (by decide +kernel) rfl), cw_X12_weatherIn⟩, by decide +kernel⟩
theorem hw_12_108 : qWV RX12 108 RX12 yX12_tells cX12_tells 3 (some .int) 2 := ⟨⟨(AW_m 860 (by decide +kernel) rfl), (AW_m 862 (by decide +kernel) rfl), (AW_m 20 (by decide +kernel) rfl), (AW_m 49 (by decide +kernel) rfl), cw_X12_tells⟩, by decide +kernel⟩
theorem hw_12_111 : qWV RX12 111 RX12 yX12_oddsOf cX12_oddsOf 7 (some .long) 1 := ⟨⟨(AW_m 856 (by decide +kernel) rfl), (AW_m 858 (by decide +kernel) rfl), (AW_m 19 (by decide +kernel) rfl), (AW_m 49 (by decide +kernel) rfl), cw_X12_oddsOf⟩, by decide +kernel⟩
theorem hw_12_115 : qWV RX12 115 RX12 yX12_weightOf cX12_weightOf 6 (some .long) 2 := ⟨⟨(AW_m 849 (by decide +kernel) rfl), (AW_m 851 (by decide +kernel) rfl), (AW_m 18 (by decide +kernel) rfl), (AW_m 49 (by decide +kernel) rfl), cw_X12_weightOf⟩, by decide +kernel⟩
theorem hw_12_119 : qWV RX12 119 RX12 yX12_toldMany cX12_toldMany 3 (some .int) 0 := ⟨⟨(AW_m 864 (by decide +kernel) rfl), (AW_m 866 (by decide +kernel) rfl), (AW_m 21 (by decide +kernel) rfl), (AW_m 49 (by decide +kernel) rfl), cw_X12_toldMany⟩, by decide +kernel⟩
theorem hw_12_122 : qWV RX12 122 RX12 yX12_covers cX12_covers 3 (some .boolean) 1 := ⟨⟨(AW_m 880 (by decide +kernel) rfl), (AW_m 882 (by decide +kernel) rfl), (AW_m 23 (by decide +kernel) rfl), (AW_m 49 (by decide +kernel) rfl), cw_X12_covers⟩, by decide +kernel⟩
theorem hw_12_125 : qWV RX12 125 RX12 yX12_goDay cX12_goDay 6 (some .int) 2 := ⟨⟨(AW_m 876 (by decide +kernel) rfl), (AW_m 878 (by decide +kernel) rfl), (AW_m 22 (by decide +kernel) rfl), (AW_m 49 (by decide +kernel) rfl), cw_X12_goDay⟩, by decide +kernel⟩
theorem hw_12_129 : qWV RX12 129 RX12 yX12_isPerson cX12_isPerson 2 (some .boolean) 1 := ⟨⟨(AW_m 892 (by decide +kernel) rfl), (AW_m 894 (by decide +kernel) rfl), (AW_m 24 (by decide +kernel) rfl), (AW_m 49 (by decide +kernel) rfl), cw_X12_isPerson⟩, by decide +kernel⟩
theorem hw_12_132 : qWV RX12 132 RX12 yX12_personNow cX12_personNow 3 (some .int) 2 := ⟨⟨(AW_m 896 (by decide +kernel) rfl), (AW_m 898 (by decide +kernel) rfl), (AW_m 25 (by decide +kernel) rfl), (AW_m 49 (by decide +kernel) rfl), cw_X12_personNow⟩, by decide +kernel⟩
theorem hw_12_135 : qWS RX12 135 yX12_lowest cX12_lowest 11 (some .long) 3 := ⟨⟨(AW_m 914 (by decide +kernel) rfl), (AW_m 915 (by decide +kernel) rfl), (AW_m 49 (by decide +kernel) rfl), cw_X12_lowest⟩, by decide +kernel⟩
theorem kl_12_139 : Cond.constantLong RX12 139 (-101) ∈ AW := (AW_m 908 (by decide +kernel) rfl)
theorem kl_12_141 : Cond.constantLong RX12 141 (-102) ∈ AW := (AW_m 909 (by decide +kernel) rfl)
theorem hw_12_143 : qWV RX12 143 RX12 yX12_likelyNow cX12_likelyNow 4 (some .long) 3 := ⟨⟨(AW_m 910 (by decide +kernel) rfl), (AW_m 912 (by decide +kernel) rfl), (AW_m 26 (by decide +kernel) rfl), (AW_m 49 (by decide +kernel) rfl), cw_X12_likelyNow⟩, by decide +kernel⟩
theorem kl_12_147 : Cond.constantLong RX12 147 (-103) ∈ AW := (AW_m 917 (by decide +kernel) rfl)
theorem kl_12_149 : Cond.constantLong RX12 149 (-1) ∈ AW := (AW_m 926 (by decide +kernel) rfl)
theorem hw_12_151 : qWV RX12 151 RX12 yX12_likeliestNow cX12_likeliestNow 7 (some .int) 0 := ⟨⟨(AW_m 922 (by decide +kernel) rfl), (AW_m 924 (by decide +kernel) rfl), (AW_m 27 (by decide +kernel) rfl), (AW_m 49 (by decide +kernel) rfl), cw_X12_likeliestNow⟩, by decide +kernel⟩
theorem hw_12_154 : qWV RX12 154 RX12 yX12_waysNow cX12_waysNow 3 (some .int) 0 := ⟨⟨(AW_m 931 (by decide +kernel) rfl), (AW_m 933 (by decide +kernel) rfl), (AW_m 28 (by decide +kernel) rfl), (AW_m 49 (by decide +kernel) rfl), cw_X12_waysNow⟩, by decide +kernel⟩
theorem hw_12_157 : qWV RX12 157 RX12 yX12_sureNow cX12_sureNow 6 (some .int) 1 := ⟨⟨(AW_m 939 (by decide +kernel) rfl), (AW_m 941 (by decide +kernel) rfl), (AW_m 29 (by decide +kernel) rfl), (AW_m 49 (by decide +kernel) rfl), cw_X12_sureNow⟩, by decide +kernel⟩
theorem kl_12_160 : Cond.constantLong RX12 160 (10) ∈ AW := (AW_m 951 (by decide +kernel) rfl)
theorem hw_12_162 : qWS RX12 162 yX12_less cX12_less 4 (some .long) 2 := ⟨⟨(AW_m 952 (by decide +kernel) rfl), (AW_m 953 (by decide +kernel) rfl), (AW_m 49 (by decide +kernel) rfl), cw_X12_less⟩, by decide +kernel⟩
theorem hw_12_166 : qWV RX12 166 RX12 yX12_lookNow cX12_lookNow 14 (some .long) 3 := ⟨⟨(AW_m 947 (by decide +kernel) rfl), (AW_m 949 (by decide +kernel) rfl), (AW_m 30 (by decide +kernel) rfl), (AW_m 49 (by decide +kernel) rfl), cw_X12_lookNow⟩, by decide +kernel⟩
theorem hw_12_169 : qWV RX12 169 RX12 yX12_lookedAt cX12_lookedAt 6 (some .int) 2 := ⟨⟨(AW_m 967 (by decide +kernel) rfl), (AW_m 969 (by decide +kernel) rfl), (AW_m 31 (by decide +kernel) rfl), (AW_m 49 (by decide +kernel) rfl), cw_X12_lookedAt⟩, by decide +kernel⟩
theorem hw_12_172 : qWV RX12 172 RX12 yX12_earliestNow cX12_earliestNow 6 (some .int) 0 := ⟨⟨(AW_m 975 (by decide +kernel) rfl), (AW_m 977 (by decide +kernel) rfl), (AW_m 32 (by decide +kernel) rfl), (AW_m 49 (by decide +kernel) rfl), cw_X12_earliestNow⟩, by decide +kernel⟩
theorem kl_12_175 : Cond.constantLong RX12 175 (1103515245) ∈ AW := (AW_m 999 (by decide +kernel) rfl)
theorem gf_12_177 (C : qC X D b l R cc RX12 nL) (he : h a = some (.inr (12, fs))) (hv : fs[18]? = some v) (hdg : decode cc pc = .ok (.getfield 177, 3)) (hp : pc + 3 = pc') (kk : qG X k n z h pc' L (v :: st)) : qG X k n z h pc L (.ref a :: st) := g_get (ref := "EarlyGaugeModel") C hin_12 (Cn := RX12) (T := TX12) (N := 36) rfl 18 (by decide) (AW_m 715 (by decide +kernel) rfl) (fun _ _ _ _ h => h) he hv hdg hp kk
theorem pf_12_177 (C : qC X D b l R cc RX12 nL) (he : h a = some (.inr (12, fs))) (hn : narrow .long v = v) (hfit : fits .long v = true) (hlen : 18 < fs.length) (hdg : decode cc pc = .ok (.putfield 177, 3)) (hp : pc + 3 = pc') (kk : ∀ h1 : qH, h1 a = some (.inr (12, fs.set 18 v)) → (∀ q, q ≠ a → h1 q = h q) → qG X k n z h1 pc' L st) : qG X k n z h pc L (v :: .ref a :: st) := g_put (ref := "EarlyGaugeModel") C hin_12 tyX12 tyX12_ok nmX12 (Cn := RX12) (T := TX12) (N := 36) rfl 18 (by decide) (AW_m 715 (by decide +kernel) rfl) (fun _ _ _ _ h => h) rfl (ty := .long) (by decide +kernel) he hn hfit hlen hdg hp kk
theorem kl_12_181 : Cond.constantLong RX12 181 (12345) ∈ AW := (AW_m 1000 (by decide +kernel) rfl)
theorem kl_12_183 : Cond.constantLong RX12 183 (2147483647) ∈ AW := (AW_m 1001 (by decide +kernel) rfl)
theorem kl_12_185 : Cond.constantLong RX12 185 (65536) ∈ AW := (AW_m 1002 (by decide +kernel) rfl)
theorem gf_12_187 (C : qC X D b l R cc RX12 nL) (he : h a = some (.inr (12, fs))) (hv : fs[23]? = some v) (hdg : decode cc pc = .ok (.getfield 187, 3)) (hp : pc + 3 = pc') (kk : qG X k n z h pc' L (v :: st)) : qG X k n z h pc L (.ref a :: st) := g_get (ref := "EarlyGaugeModel") C hin_12 (Cn := RX12) (T := TX12) (N := 36) rfl 23 (by decide) (AW_m 720 (by decide +kernel) rfl) (fun _ _ _ _ h => h) he hv hdg hp kk
theorem pf_12_187 (C : qC X D b l R cc RX12 nL) (he : h a = some (.inr (12, fs))) (hn : narrow .int v = v) (hfit : fits .int v = true) (hlen : 23 < fs.length) (hdg : decode cc pc = .ok (.putfield 187, 3)) (hp : pc + 3 = pc') (kk : ∀ h1 : qH, h1 a = some (.inr (12, fs.set 23 v)) → (∀ q, q ≠ a → h1 q = h q) → qG X k n z h1 pc' L st) : qG X k n z h pc L (v :: .ref a :: st) := g_put (ref := "EarlyGaugeModel") C hin_12 tyX12 tyX12_ok nmX12 (Cn := RX12) (T := TX12) (N := 36) rfl 23 (by decide) (AW_m 720 (by decide +kernel) rfl) (fun _ _ _ _ h => h) rfl (ty := .int) (by decide +kernel) he hn hfit hlen hdg hp kk
theorem hw_12_190 : qWV RX12 190 RX12 yX12_draw cX12_draw 2 (some .int) 1 := ⟨⟨(AW_m 995 (by decide +kernel) rfl), (AW_m 997 (by decide +kernel) rfl), (AW_m 36 (by decide +kernel) rfl), (AW_m 49 (by decide +kernel) rfl), cw_X12_draw⟩, by decide +kernel⟩
theorem hw_12_193 : qWV RX12 193 RX12 yX12_drawDays cX12_drawDays 4 none 0 := ⟨⟨(AW_m 991 (by decide +kernel) rfl), (AW_m 993 (by decide +kernel) rfl), (AW_m 35 (by decide +kernel) rfl), (AW_m 49 (by decide +kernel) rfl), cw_X12_drawDays⟩, by decide +kernel⟩
theorem gf_12_196 (C : qC X D b l R cc RX12 nL) (he : h a = some (.inr (12, fs))) (hv : fs[24]? = some v) (hdg : decode cc pc = .ok (.getfield 196, 3)) (hp : pc + 3 = pc') (kk : qG X k n z h pc' L (v :: st)) : qG X k n z h pc L (.ref a :: st) := g_get (ref := "EarlyGaugeModel") C hin_12 (Cn := RX12) (T := TX12) (N := 36) rfl 24 (by decide) (AW_m 721 (by decide +kernel) rfl) (fun _ _ _ _ h => h) he hv hdg hp kk
theorem pf_12_196 (C : qC X D b l R cc RX12 nL) (he : h a = some (.inr (12, fs))) (hn : narrow .int v = v) (hfit : fits .int v = true) (hlen : 24 < fs.length) (hdg : decode cc pc = .ok (.putfield 196, 3)) (hp : pc + 3 = pc') (kk : ∀ h1 : qH, h1 a = some (.inr (12, fs.set 24 v)) → (∀ q, q ≠ a → h1 q = h q) → qG X k n z h1 pc' L st) : qG X k n z h pc L (v :: .ref a :: st) := g_put (ref := "EarlyGaugeModel") C hin_12 tyX12 tyX12_ok nmX12 (Cn := RX12) (T := TX12) (N := 36) rfl 24 (by decide) (AW_m 721 (by decide +kernel) rfl) (fun _ _ _ _ h => h) rfl (ty := .int) (by decide +kernel) he hn hfit hlen hdg hp kk
theorem gf_12_199 (C : qC X D b l R cc RX12 nL) (he : h a = some (.inr (12, fs))) (hv : fs[19]? = some v) (hdg : decode cc pc = .ok (.getfield 199, 3)) (hp : pc + 3 = pc') (kk : qG X k n z h pc' L (v :: st)) : qG X k n z h pc L (.ref a :: st) := g_get (ref := "EarlyGaugeModel") C hin_12 (Cn := RX12) (T := TX12) (N := 36) rfl 19 (by decide) (AW_m 716 (by decide +kernel) rfl) (fun _ _ _ _ h => h) he hv hdg hp kk
theorem pf_12_199 (C : qC X D b l R cc RX12 nL) (he : h a = some (.inr (12, fs))) (hn : narrow .int v = v) (hfit : fits .int v = true) (hlen : 19 < fs.length) (hdg : decode cc pc = .ok (.putfield 199, 3)) (hp : pc + 3 = pc') (kk : ∀ h1 : qH, h1 a = some (.inr (12, fs.set 19 v)) → (∀ q, q ≠ a → h1 q = h q) → qG X k n z h1 pc' L st) : qG X k n z h pc L (v :: .ref a :: st) := g_put (ref := "EarlyGaugeModel") C hin_12 tyX12 tyX12_ok nmX12 (Cn := RX12) (T := TX12) (N := 36) rfl 19 (by decide) (AW_m 716 (by decide +kernel) rfl) (fun _ _ _ _ h => h) rfl (ty := .int) (by decide +kernel) he hn hfit hlen hdg hp kk
theorem gf_12_202 (C : qC X D b l R cc RX12 nL) (he : h a = some (.inr (12, fs))) (hv : fs[20]? = some v) (hdg : decode cc pc = .ok (.getfield 202, 3)) (hp : pc + 3 = pc') (kk : qG X k n z h pc' L (v :: st)) : qG X k n z h pc L (.ref a :: st) := g_get (ref := "EarlyGaugeModel") C hin_12 (Cn := RX12) (T := TX12) (N := 36) rfl 20 (by decide) (AW_m 717 (by decide +kernel) rfl) (fun _ _ _ _ h => h) he hv hdg hp kk
theorem pf_12_202 (C : qC X D b l R cc RX12 nL) (he : h a = some (.inr (12, fs))) (hn : narrow .int v = v) (hfit : fits .int v = true) (hlen : 20 < fs.length) (hdg : decode cc pc = .ok (.putfield 202, 3)) (hp : pc + 3 = pc') (kk : ∀ h1 : qH, h1 a = some (.inr (12, fs.set 20 v)) → (∀ q, q ≠ a → h1 q = h q) → qG X k n z h1 pc' L st) : qG X k n z h pc L (v :: .ref a :: st) := g_put (ref := "EarlyGaugeModel") C hin_12 tyX12 tyX12_ok nmX12 (Cn := RX12) (T := TX12) (N := 36) rfl 20 (by decide) (AW_m 717 (by decide +kernel) rfl) (fun _ _ _ _ h => h) rfl (ty := .int) (by decide +kernel) he hn hfit hlen hdg hp kk
theorem hw_12_205 : qWV RX12 205 RX12 yX12_goSeeded cX12_goSeeded 5 (some .int) 0 := ⟨⟨(AW_m 987 (by decide +kernel) rfl), (AW_m 989 (by decide +kernel) rfl), (AW_m 34 (by decide +kernel) rfl), (AW_m 49 (by decide +kernel) rfl), cw_X12_goSeeded⟩, by decide +kernel⟩
theorem hw_12_208 : qWV RX12 208 RX12 yX12_daysNow cX12_daysNow 7 (some .int) 3 := ⟨⟨(AW_m 983 (by decide +kernel) rfl), (AW_m 985 (by decide +kernel) rfl), (AW_m 33 (by decide +kernel) rfl), (AW_m 49 (by decide +kernel) rfl), cw_X12_daysNow⟩, by decide +kernel⟩
theorem gf_12_212 (C : qC X D b l R cc RX12 nL) (he : h a = some (.inr (12, fs))) (hv : fs[25]? = some v) (hdg : decode cc pc = .ok (.getfield 212, 3)) (hp : pc + 3 = pc') (kk : qG X k n z h pc' L (v :: st)) : qG X k n z h pc L (.ref a :: st) := g_get (ref := "EarlyGaugeModel") C hin_12 (Cn := RX12) (T := TX12) (N := 36) rfl 25 (by decide) (AW_m 722 (by decide +kernel) rfl) (fun _ _ _ _ h => h) he hv hdg hp kk
theorem pf_12_212 (C : qC X D b l R cc RX12 nL) (he : h a = some (.inr (12, fs))) (hn : narrow .boolean v = v) (hfit : fits .boolean v = true) (hlen : 25 < fs.length) (hdg : decode cc pc = .ok (.putfield 212, 3)) (hp : pc + 3 = pc') (kk : ∀ h1 : qH, h1 a = some (.inr (12, fs.set 25 v)) → (∀ q, q ≠ a → h1 q = h q) → qG X k n z h1 pc' L st) : qG X k n z h pc L (v :: .ref a :: st) := g_put (ref := "EarlyGaugeModel") C hin_12 tyX12 tyX12_ok nmX12 (Cn := RX12) (T := TX12) (N := 36) rfl 25 (by decide) (AW_m 722 (by decide +kernel) rfl) (fun _ _ _ _ h => h) rfl (ty := .boolean) (by decide +kernel) he hn hfit hlen hdg hp kk
theorem gf_12_215 (C : qC X D b l R cc RX12 nL) (he : h a = some (.inr (12, fs))) (hv : fs[26]? = some v) (hdg : decode cc pc = .ok (.getfield 215, 3)) (hp : pc + 3 = pc') (kk : qG X k n z h pc' L (v :: st)) : qG X k n z h pc L (.ref a :: st) := g_get (ref := "EarlyGaugeModel") C hin_12 (Cn := RX12) (T := TX12) (N := 36) rfl 26 (by decide) (AW_m 723 (by decide +kernel) rfl) (fun _ _ _ _ h => h) he hv hdg hp kk
theorem pf_12_215 (C : qC X D b l R cc RX12 nL) (he : h a = some (.inr (12, fs))) (hn : narrow .int v = v) (hfit : fits .int v = true) (hlen : 26 < fs.length) (hdg : decode cc pc = .ok (.putfield 215, 3)) (hp : pc + 3 = pc') (kk : ∀ h1 : qH, h1 a = some (.inr (12, fs.set 26 v)) → (∀ q, q ≠ a → h1 q = h q) → qG X k n z h1 pc' L st) : qG X k n z h pc L (v :: .ref a :: st) := g_put (ref := "EarlyGaugeModel") C hin_12 tyX12 tyX12_ok nmX12 (Cn := RX12) (T := TX12) (N := 36) rfl 26 (by decide) (AW_m 723 (by decide +kernel) rfl) (fun _ _ _ _ h => h) rfl (ty := .int) (by decide +kernel) he hn hfit hlen hdg hp kk
theorem gf_12_218 (C : qC X D b l R cc RX12 nL) (he : h a = some (.inr (12, fs))) (hv : fs[27]? = some v) (hdg : decode cc pc = .ok (.getfield 218, 3)) (hp : pc + 3 = pc') (kk : qG X k n z h pc' L (v :: st)) : qG X k n z h pc L (.ref a :: st) := g_get (ref := "EarlyGaugeModel") C hin_12 (Cn := RX12) (T := TX12) (N := 36) rfl 27 (by decide) (AW_m 724 (by decide +kernel) rfl) (fun _ _ _ _ h => h) he hv hdg hp kk
theorem pf_12_218 (C : qC X D b l R cc RX12 nL) (he : h a = some (.inr (12, fs))) (hn : narrow .int v = v) (hfit : fits .int v = true) (hlen : 27 < fs.length) (hdg : decode cc pc = .ok (.putfield 218, 3)) (hp : pc + 3 = pc') (kk : ∀ h1 : qH, h1 a = some (.inr (12, fs.set 27 v)) → (∀ q, q ≠ a → h1 q = h q) → qG X k n z h1 pc' L st) : qG X k n z h pc L (v :: .ref a :: st) := g_put (ref := "EarlyGaugeModel") C hin_12 tyX12 tyX12_ok nmX12 (Cn := RX12) (T := TX12) (N := 36) rfl 27 (by decide) (AW_m 724 (by decide +kernel) rfl) (fun _ _ _ _ h => h) rfl (ty := .int) (by decide +kernel) he hn hfit hlen hdg hp kk
theorem gf_12_221 (C : qC X D b l R cc RX12 nL) (he : h a = some (.inr (12, fs))) (hv : fs[28]? = some v) (hdg : decode cc pc = .ok (.getfield 221, 3)) (hp : pc + 3 = pc') (kk : qG X k n z h pc' L (v :: st)) : qG X k n z h pc L (.ref a :: st) := g_get (ref := "EarlyGaugeModel") C hin_12 (Cn := RX12) (T := TX12) (N := 36) rfl 28 (by decide) (AW_m 725 (by decide +kernel) rfl) (fun _ _ _ _ h => h) he hv hdg hp kk
theorem pf_12_221 (C : qC X D b l R cc RX12 nL) (he : h a = some (.inr (12, fs))) (hn : narrow .int v = v) (hfit : fits .int v = true) (hlen : 28 < fs.length) (hdg : decode cc pc = .ok (.putfield 221, 3)) (hp : pc + 3 = pc') (kk : ∀ h1 : qH, h1 a = some (.inr (12, fs.set 28 v)) → (∀ q, q ≠ a → h1 q = h q) → qG X k n z h1 pc' L st) : qG X k n z h pc L (v :: .ref a :: st) := g_put (ref := "EarlyGaugeModel") C hin_12 tyX12 tyX12_ok nmX12 (Cn := RX12) (T := TX12) (N := 36) rfl 28 (by decide) (AW_m 725 (by decide +kernel) rfl) (fun _ _ _ _ h => h) rfl (ty := .int) (by decide +kernel) he hn hfit hlen hdg hp kk
theorem gf_12_224 (C : qC X D b l R cc RX12 nL) (he : h a = some (.inr (12, fs))) (hv : fs[29]? = some v) (hdg : decode cc pc = .ok (.getfield 224, 3)) (hp : pc + 3 = pc') (kk : qG X k n z h pc' L (v :: st)) : qG X k n z h pc L (.ref a :: st) := g_get (ref := "EarlyGaugeModel") C hin_12 (Cn := RX12) (T := TX12) (N := 36) rfl 29 (by decide) (AW_m 726 (by decide +kernel) rfl) (fun _ _ _ _ h => h) he hv hdg hp kk
theorem pf_12_224 (C : qC X D b l R cc RX12 nL) (he : h a = some (.inr (12, fs))) (hn : narrow .int v = v) (hfit : fits .int v = true) (hlen : 29 < fs.length) (hdg : decode cc pc = .ok (.putfield 224, 3)) (hp : pc + 3 = pc') (kk : ∀ h1 : qH, h1 a = some (.inr (12, fs.set 29 v)) → (∀ q, q ≠ a → h1 q = h q) → qG X k n z h1 pc' L st) : qG X k n z h pc L (v :: .ref a :: st) := g_put (ref := "EarlyGaugeModel") C hin_12 tyX12 tyX12_ok nmX12 (Cn := RX12) (T := TX12) (N := 36) rfl 29 (by decide) (AW_m 726 (by decide +kernel) rfl) (fun _ _ _ _ h => h) rfl (ty := .int) (by decide +kernel) he hn hfit hlen hdg hp kk
theorem gf_12_227 (C : qC X D b l R cc RX12 nL) (he : h a = some (.inr (12, fs))) (hv : fs[30]? = some v) (hdg : decode cc pc = .ok (.getfield 227, 3)) (hp : pc + 3 = pc') (kk : qG X k n z h pc' L (v :: st)) : qG X k n z h pc L (.ref a :: st) := g_get (ref := "EarlyGaugeModel") C hin_12 (Cn := RX12) (T := TX12) (N := 36) rfl 30 (by decide) (AW_m 727 (by decide +kernel) rfl) (fun _ _ _ _ h => h) he hv hdg hp kk
theorem pf_12_227 (C : qC X D b l R cc RX12 nL) (he : h a = some (.inr (12, fs))) (hn : narrow .int v = v) (hfit : fits .int v = true) (hlen : 30 < fs.length) (hdg : decode cc pc = .ok (.putfield 227, 3)) (hp : pc + 3 = pc') (kk : ∀ h1 : qH, h1 a = some (.inr (12, fs.set 30 v)) → (∀ q, q ≠ a → h1 q = h q) → qG X k n z h1 pc' L st) : qG X k n z h pc L (v :: .ref a :: st) := g_put (ref := "EarlyGaugeModel") C hin_12 tyX12 tyX12_ok nmX12 (Cn := RX12) (T := TX12) (N := 36) rfl 30 (by decide) (AW_m 727 (by decide +kernel) rfl) (fun _ _ _ _ h => h) rfl (ty := .int) (by decide +kernel) he hn hfit hlen hdg hp kk
theorem hw_12_230 : qWV RX12 230 RX12 yX12_paidAll cX12_paidAll 3 (some .int) 0 := ⟨⟨(AW_m 1019 (by decide +kernel) rfl), (AW_m 1021 (by decide +kernel) rfl), (AW_m 38 (by decide +kernel) rfl), (AW_m 49 (by decide +kernel) rfl), cw_X12_paidAll⟩, by decide +kernel⟩
theorem hw_12_233 : qWV RX12 233 RX12 yX12_howMany cX12_howMany 2 (some .int) 1 := ⟨⟨(AW_m 1015 (by decide +kernel) rfl), (AW_m 1017 (by decide +kernel) rfl), (AW_m 37 (by decide +kernel) rfl), (AW_m 49 (by decide +kernel) rfl), cw_X12_howMany⟩, by decide +kernel⟩
theorem kl_12_236 : Cond.constantLong RX12 236 (31) ∈ AW := (AW_m 1032 (by decide +kernel) rfl)
theorem gf_12_238 (C : qC X D b l R cc RX12 nL) (he : h a = some (.inr (12, fs))) (hv : fs[35]? = some v) (hdg : decode cc pc = .ok (.getfield 238, 3)) (hp : pc + 3 = pc') (kk : qG X k n z h pc' L (v :: st)) : qG X k n z h pc L (.ref a :: st) := g_get (ref := "EarlyGaugeModel") C hin_12 (Cn := RX12) (T := TX12) (N := 36) rfl 35 (by decide) (AW_m 732 (by decide +kernel) rfl) (fun _ _ _ _ h => h) he hv hdg hp kk
theorem pf_12_238 (C : qC X D b l R cc RX12 nL) (he : h a = some (.inr (12, fs))) (hn : narrow .long v = v) (hfit : fits .long v = true) (hlen : 35 < fs.length) (hdg : decode cc pc = .ok (.putfield 238, 3)) (hp : pc + 3 = pc') (kk : ∀ h1 : qH, h1 a = some (.inr (12, fs.set 35 v)) → (∀ q, q ≠ a → h1 q = h q) → qG X k n z h1 pc' L st) : qG X k n z h pc L (v :: .ref a :: st) := g_put (ref := "EarlyGaugeModel") C hin_12 tyX12 tyX12_ok nmX12 (Cn := RX12) (T := TX12) (N := 36) rfl 35 (by decide) (AW_m 732 (by decide +kernel) rfl) (fun _ _ _ _ h => h) rfl (ty := .long) (by decide +kernel) he hn hfit hlen hdg hp kk
theorem hw_12_241 : qWV RX12 241 RX12 yX12_mix cX12_mix 3 none 1 := ⟨⟨(AW_m 1028 (by decide +kernel) rfl), (AW_m 1030 (by decide +kernel) rfl), (AW_m 39 (by decide +kernel) rfl), (AW_m 49 (by decide +kernel) rfl), cw_X12_mix⟩, by decide +kernel⟩
theorem kl_12_245 : Cond.constantLong RX12 245 (821) ∈ AW := (AW_m 1027 (by decide +kernel) rfl)
theorem hw_12_247 : qWV RX12 247 RX12 yX12_mixLikely cX12_mixLikely 3 none 1 := ⟨⟨(AW_m 1033 (by decide +kernel) rfl), (AW_m 1035 (by decide +kernel) rfl), (AW_m 40 (by decide +kernel) rfl), (AW_m 49 (by decide +kernel) rfl), cw_X12_mixLikely⟩, by decide +kernel⟩
end WORDS
end
section
/-! Rows over the heaplet kit, with indices told as naturals; what the cells of the program's objects are. -/
section R7
variable {X : qX} {D : va_G} {b : Nat} {l : Launch} {R : Room} {cc : ByteArray} {own : String} {nL : Nat} {k n z : Nat} {h : qH} {pc pc' : Nat} {L L' : List (Nat × Value)} {st : List Value}
theorem g_topi {x y : Int32} (e : x = y) (kk : qG X k n z h pc L (.int y :: st)) : qG X k n z h pc L (.int x :: st) := by subst e; exact kk
theorem g_topl {x y : Int64} (e : x = y) (kk : qG X k n z h pc L (.long y :: st)) : qG X k n z h pc L (.long x :: st) := by subst e; exact kk
theorem q_lsub (ks : List Nat) (hL : lv_pick L ks = L') (kk : qG X k n z h pc L' st) : qG X k n z h pc L st := by
  obtain ⟨D0, b0, p, l0, e, R0, s, m, args, below, meth, c, nL0, Q⟩ := X
  intro H locs ls hP hS hl
  exact kk H locs ls hP hS (lv_sub hl ks hL)
theorem g_iald' (C : qC X D b l R cc own nL) {a N j : Nat} {f : Nat → Int32} {i : Int32} (he : h a = some (cI D N f)) (hi : i = nI j) (hj : j < N) (hN : N < 2 ^ 31) (hdg : decode cc pc = .ok (.iaload, 1)) (hp : pc + 1 = pc') (kk : qG X k n z h pc' L (.int (f j) :: st)) : qG X k n z h pc L (.int i :: .ref a :: st) := by
  subst hi
  exact g_iald C he (vp_in_nI hj hN) hdg hp (by rw [nI_clamp (by omega)]; exact kk)
theorem g_bald' (C : qC X D b l R cc own nL) {a N j : Nat} {f : Nat → Int32} {i : Int32} (he : h a = some (cB D N f)) (hi : i = nI j) (hj : j < N) (hN : N < 2 ^ 31) (hdg : decode cc pc = .ok (.baload, 1)) (hp : pc + 1 = pc') (kk : qG X k n z h pc' L (.int (f j) :: st)) : qG X k n z h pc L (.int i :: .ref a :: st) := by
  subst hi
  exact g_bald C he (vp_in_nI hj hN) hdg hp (by rw [nI_clamp (by omega)]; exact kk)
theorem g_lald' (C : qC X D b l R cc own nL) {a N j : Nat} {f : Nat → Int64} {i : Int32} (he : h a = some (cJ D N f)) (hi : i = nI j) (hj : j < N) (hN : N < 2 ^ 31) (hdg : decode cc pc = .ok (.laload, 1)) (hp : pc + 1 = pc') (kk : qG X k n z h pc' L (.long (f j) :: st)) : qG X k n z h pc L (.int i :: .ref a :: st) := by
  subst hi
  exact g_lald C he (vp_in_nI hj hN) hdg hp (by rw [nI_clamp (by omega)]; exact kk)
theorem g_aaldQ (C : qC X D b l R cc own nL) {a N j q : Nat} {f : Nat → Option Nat} {i : Int32} (he : h a = some (cQ D N f)) (hi : i = nI j) (hj : j < N) (hN : N < 2 ^ 31) (hf : f j = some q) (hdg : decode cc pc = .ok (.aaload, 1)) (hp : pc + 1 = pc') (kk : qG X k n z h pc' L (.ref q :: st)) : qG X k n z h pc L (.int i :: .ref a :: st) := by
  subst hi
  exact g_aald C he (vp_in_nI hj hN) hdg hp (by rw [nI_clamp (by omega), hf]; exact kk)
theorem g_aaldQN (C : qC X D b l R cc own nL) {a N j : Nat} {f : Nat → Option Nat} {i : Int32} (he : h a = some (cQ D N f)) (hi : i = nI j) (hj : j < N) (hN : N < 2 ^ 31) (hf : f j = none) (hdg : decode cc pc = .ok (.aaload, 1)) (hp : pc + 1 = pc') (kk : qG X k n z h pc' L (.null :: st)) : qG X k n z h pc L (.int i :: .ref a :: st) := by
  subst hi
  exact g_aald C he (vp_in_nI hj hN) hdg hp (by rw [nI_clamp (by omega), hf]; exact kk)
theorem g_aaldII (C : qC X D b l R cc own nL) {a N j q : Nat} {f : Nat → Option Nat} {i : Int32} (he : h a = some (cII D N f)) (hi : i = nI j) (hj : j < N) (hN : N < 2 ^ 31) (hf : f j = some q) (hdg : decode cc pc = .ok (.aaload, 1)) (hp : pc + 1 = pc') (kk : qG X k n z h pc' L (.ref q :: st)) : qG X k n z h pc L (.int i :: .ref a :: st) := by
  subst hi
  exact g_aaldI C he (vp_in_nI hj hN) hdg hp (by rw [nI_clamp (by omega), hf]; exact kk)
theorem g_aaldJJ (C : qC X D b l R cc own nL) {a N j q : Nat} {f : Nat → Option Nat} {i : Int32} (he : h a = some (cJJ D N f)) (hi : i = nI j) (hj : j < N) (hN : N < 2 ^ 31) (hf : f j = some q) (hdg : decode cc pc = .ok (.aaload, 1)) (hp : pc + 1 = pc') (kk : qG X k n z h pc' L (.ref q :: st)) : qG X k n z h pc L (.int i :: .ref a :: st) := by
  subst hi
  exact g_aaldJ C he (vp_in_nI hj hN) hdg hp (by rw [nI_clamp (by omega), hf]; exact kk)
theorem g_iast' (C : qC X D b l R cc own nL) {a N j : Nat} {f : Nat → Int32} {i x : Int32} (he : h a = some (cI D N f)) (hi : i = nI j) (hj : j < N) (hN : N < 2 ^ 31) (hdg : decode cc pc = .ok (.iastore, 1)) (hp : pc + 1 = pc') (kk : ∀ h1 : qH, h1 a = some (cI D N (upd f j x)) → (∀ q, q ≠ a → h1 q = h q) → qG X k n z h1 pc' L st) : qG X k n z h pc L (.int x :: .int i :: .ref a :: st) := by
  subst hi
  refine g_iast C he (vp_in_nI hj hN) hdg hp (fun h1 e1 o1 => ?_)
  rw [nI_clamp (by omega)] at e1
  exact kk h1 e1 o1
theorem g_bast' (C : qC X D b l R cc own nL) {a N j : Nat} {f : Nat → Int32} {i x : Int32} (he : h a = some (cB D N f)) (hi : i = nI j) (hj : j < N) (hN : N < 2 ^ 31) (hdg : decode cc pc = .ok (.bastore, 1)) (hp : pc + 1 = pc') (kk : ∀ h1 : qH, h1 a = some (cB D N (upd f j (vp_nar .byte x))) → (∀ q, q ≠ a → h1 q = h q) → qG X k n z h1 pc' L st) : qG X k n z h pc L (.int x :: .int i :: .ref a :: st) := by
  subst hi
  refine g_bast C he (vp_in_nI hj hN) hdg hp (fun h1 e1 o1 => ?_)
  rw [nI_clamp (by omega)] at e1
  exact kk h1 e1 o1
theorem g_last' (C : qC X D b l R cc own nL) {a N j : Nat} {f : Nat → Int64} {i : Int32} {x : Int64} (he : h a = some (cJ D N f)) (hi : i = nI j) (hj : j < N) (hN : N < 2 ^ 31) (hdg : decode cc pc = .ok (.lastore, 1)) (hp : pc + 1 = pc') (kk : ∀ h1 : qH, h1 a = some (cJ D N (vp_updL f j x)) → (∀ q, q ≠ a → h1 q = h q) → qG X k n z h1 pc' L st) : qG X k n z h pc L (.long x :: .int i :: .ref a :: st) := by
  subst hi
  refine g_last C he (vp_in_nI hj hN) hdg hp (fun h1 e1 o1 => ?_)
  rw [nI_clamp (by omega)] at e1
  exact kk h1 e1 o1
end R7
theorem nI_dec (i : Nat) : nI (i + 1) + Int32.ofInt (-1) = nI i := pk_m1 i
theorem ite10_t {P : Prop} {inst : Decidable P} (h : ¬ (if P then (1 : Int32) else 0) = 0) : P := by
  by_cases p : P
  · exact p
  · rw [if_neg p] at h; exact absurd rfl h
theorem ite10_f {P : Prop} {inst : Decidable P} (h : (if P then (1 : Int32) else 0) = 0) : ¬ P := by
  by_cases p : P
  · rw [if_pos p] at h; exact absurd h (by decide)
  · exact p
theorem nar01 {P : Prop} {inst : Decidable P} : narrow .boolean (.int (if P then (1 : Int32) else 0)) = .int (if P then (1 : Int32) else 0) := by
  by_cases p : P
  · rw [if_pos p]; rfl
  · rw [if_neg p]; rfl
theorem i32_of_toInt {x : Int32} {i : Int} (h : x.toInt = i) : x = Int32.ofInt i := by rw [← h]; exact (Int32.ofInt_toInt x).symm
theorem swo_0_2 {x : Int32} (h0 : ¬ x = 0) (h1 : ¬ x = 1) (h2 : ¬ x = 2) : x.toInt < 0 ∨ 2 < x.toInt := by
  rcases Int.lt_or_le x.toInt 0 with g | g
  · exact Or.inl g
  · rcases Int.lt_or_le 2 x.toInt with g2 | g2
    · exact Or.inr g2
    · exfalso
      rcases (show x.toInt = 0 ∨ x.toInt = 1 ∨ x.toInt = 2 by omega) with e | e | e
      · exact h0 (i32_of_toInt e)
      · exact h1 (i32_of_toInt e)
      · exact h2 (i32_of_toInt e)
theorem swo_0_3 {x : Int32} (h0 : ¬ x = 0) (h1 : ¬ x = 1) (h2 : ¬ x = 2) (h3 : ¬ x = 3) : x.toInt < 0 ∨ 3 < x.toInt := by
  rcases swo_0_2 h0 h1 h2 with g | g
  · exact Or.inl g
  · rcases Int.lt_or_le 3 x.toInt with g2 | g2
    · exact Or.inr g2
    · exact absurd (i32_of_toInt (show x.toInt = 3 by omega)) h3
theorem swo_0_4 {x : Int32} (h0 : ¬ x = 0) (h1 : ¬ x = 1) (h2 : ¬ x = 2) (h3 : ¬ x = 3) (h4 : ¬ x = 4) : x.toInt < 0 ∨ 4 < x.toInt := by
  rcases swo_0_3 h0 h1 h2 h3 with g | g
  · exact Or.inl g
  · rcases Int.lt_or_le 4 x.toInt with g2 | g2
    · exact Or.inr g2
    · exact absurd (i32_of_toInt (show x.toInt = 4 by omega)) h4
theorem swo_0_9 {x : Int32} (h0 : ¬ x = 0) (h1 : ¬ x = 1) (h2 : ¬ x = 2) (h3 : ¬ x = 3) (h4 : ¬ x = 4) (h5 : ¬ x = 5) (h6 : ¬ x = 6) (h7 : ¬ x = 7) (h8 : ¬ x = 8) (h9 : ¬ x = 9) : x.toInt < 0 ∨ 9 < x.toInt := by
  rcases swo_0_4 h0 h1 h2 h3 h4 with g | g
  · exact Or.inl g
  · rcases Int.lt_or_le 9 x.toInt with g2 | g2
    · exact Or.inr g2
    · exfalso
      rcases (show x.toInt = 5 ∨ x.toInt = 6 ∨ x.toInt = 7 ∨ x.toInt = 8 ∨ x.toInt = 9 by omega) with e | e | e | e | e
      · exact h5 (i32_of_toInt e)
      · exact h6 (i32_of_toInt e)
      · exact h7 (i32_of_toInt e)
      · exact h8 (i32_of_toInt e)
      · exact h9 (i32_of_toInt e)
theorem swo_1_4 {x : Int32} (h1 : ¬ x = 1) (h2 : ¬ x = 2) (h3 : ¬ x = 3) (h4 : ¬ x = 4) : x.toInt < 1 ∨ 4 < x.toInt := by
  rcases Int.lt_or_le x.toInt 1 with g | g
  · exact Or.inl g
  · rcases Int.lt_or_le 4 x.toInt with g2 | g2
    · exact Or.inr g2
    · exfalso
      rcases (show x.toInt = 1 ∨ x.toInt = 2 ∨ x.toInt = 3 ∨ x.toInt = 4 by omega) with e | e | e | e
      · exact h1 (i32_of_toInt e)
      · exact h2 (i32_of_toInt e)
      · exact h3 (i32_of_toInt e)
      · exact h4 (i32_of_toInt e)
theorem swo_1_3 {x : Int32} (h1 : ¬ x = 1) (h2 : ¬ x = 2) (h3 : ¬ x = 3) : x.toInt < 1 ∨ 3 < x.toInt := by
  rcases Int.lt_or_le x.toInt 1 with g | g
  · exact Or.inl g
  · rcases Int.lt_or_le 3 x.toInt with g2 | g2
    · exact Or.inr g2
    · exfalso
      rcases (show x.toInt = 1 ∨ x.toInt = 2 ∨ x.toInt = 3 by omega) with e | e | e
      · exact h1 (i32_of_toInt e)
      · exact h2 (i32_of_toInt e)
      · exact h3 (i32_of_toInt e)
def mx64 (x y : Int64) : Int64 := if y < x then x else y
def mn64 (x y : Int64) : Int64 := if y < x then y else x
/-! ### what the cells are -/
def PgAt (D : va_G) (h : qH) (a : Nat) (cs : Nat → Int32) (n : Int32) : Prop := h a = some (.inr (8, [.ref (a + 1), .int n])) ∧ h (a + 1) = some (cI D 16 cs)
def StAt (D : va_G) (h : qH) (a : Nat) (tn : Nat → Int32) (e sl : Int32) : Prop := h a = some (.inr (9, [.ref (a + 1), .int e, .int sl])) ∧ h (a + 1) = some (cI D 9 tn)
def BkAt (D : va_G) (h : qH) (a : Nat) (ws rs : Nat → Int32) (n : Int32) : Prop := h a = some (.inr (0, [.ref (a + 1), .ref (a + 2), .int n])) ∧ h (a + 1) = some (cI D 12 ws) ∧ h (a + 2) = some (cI D 12 rs)
def gridF (a : Nat) : Nat → Option Nat := fun i => if i < 7 then some (a + 1 + i) else none
theorem gridF_at {a i : Nat} (h : i < 7) : gridF a i = some (a + 1 + i) := if_pos h
def GrJ (D : va_G) (h : qH) (a : Nat) (U : Nat → Nat → Int64) : Prop := h a = some (cJJ D 7 (gridF a)) ∧ ∀ i, i < 7 → h (a + 1 + i) = some (cJ D 3 (U i))
def GrI (D : va_G) (h : qH) (a : Nat) (U : Nat → Nat → Int32) : Prop := h a = some (cII D 7 (gridF a)) ∧ ∀ i, i < 7 → h (a + 1 + i) = some (cI D 3 (U i))
theorem GrJ.put {D : va_G} {h h1 : qH} {a i : Nat} {U : Nat → Nat → Int64} {g : Nat → Int64} (H : GrJ D h a U) (hi : i < 7) (e1 : h1 (a + 1 + i) = some (cJ D 3 g)) (o1 : ∀ q, q ≠ a + 1 + i → h1 q = h q) : GrJ D h1 a (va_up U i g) := by
  refine ⟨(o1 _ (by omega)).trans H.1, fun j hj => ?_⟩
  by_cases e : j = i
  · subst e; simp only [va_up, if_true]; exact e1
  · simp only [va_up, if_neg e]; exact (o1 _ (by omega)).trans (H.2 j hj)
theorem GrI.put {D : va_G} {h h1 : qH} {a i : Nat} {U : Nat → Nat → Int32} {g : Nat → Int32} (H : GrI D h a U) (hi : i < 7) (e1 : h1 (a + 1 + i) = some (cI D 3 g)) (o1 : ∀ q, q ≠ a + 1 + i → h1 q = h q) : GrI D h1 a (va_up U i g) := by
  refine ⟨(o1 _ (by omega)).trans H.1, fun j hj => ?_⟩
  by_cases e : j = i
  · subst e; simp only [va_up, if_true]; exact e1
  · simp only [va_up, if_neg e]; exact (o1 _ (by omega)).trans (H.2 j hj)
def OlAt (D : va_G) (h : qH) (a s : Nat) (rd : Nat → Int32) (dn w : Int32) : Prop := h a = some (.inr (7, [.ref s, .ref (a + 1), .int dn, .int w, .ref (a + 2), .ref (a + 10), .ref (a + 18), .ref (a + 26)])) ∧ h (a + 1) = some (cI D 5 rd)
def TrAt (D : va_G) (h : qH) (a s : Nat) (dr : Nat → Int32) (da : Int32) (sd : Int64) (wt pd sp : Int32) : Prop := h a = some (.inr (10, [.ref s, .ref (a + 1), .ref (a + 35), .int da, .long sd, .int wt, .int pd, .int sp])) ∧ h (a + 35) = some (cI D 5 dr)
def ImAt (D : va_G) (h : qH) (a : Nat) (pd : Nat → Int32) (pp kp : Int32) : Prop := h a = some (.inr (3, [.ref (a + 1), .ref (a + 35), .ref (a + 38), .int pp, .int kp])) ∧ h (a + 38) = some (cI D 4 pd)
def KpAt (h : qH) (a ci : Nat) (cost loss paid : Int32) : Prop := h a = some (.inr (ci, [.int cost, .int loss, .int paid]))
def GaAt (h : qH) (a : Nat) (n : Int32) : Prop := h a = some (.inr (11, [.ref (a + 3), .ref (a + 1), .ref (a + 5), .ref (a + 39), .ref (a + 40), .ref (a + 43), .ref (a + 79), .int n]))
theorem fr_of {h h1 : qH} {a : Nat} {P : Nat → Prop} (o : ∀ q, q ≠ a → h1 q = h q) (hP : ∀ q, P q → q ≠ a) : ∀ q, P q → h1 q = h q := fun q hq => o q (hP q hq)
end
section
/-! statics of EarlyGauge, the page, the station, the book: leaves -/
theorem vpi {k : Int32} {N : Nat} (hN : N < 2 ^ 31) (h0 : ¬ k < 0) (h1 : ¬ nI N ≤ k) : vp_in k N := by
  obtain ⟨j, hj, rfl⟩ := nI_of h0
  exact vp_in_nI (by rw [nI_leI hN hj] at h1; omega) hN
theorem nI_sub' {a b : Nat} (h : b ≤ a) : nI a - nI b = nI (a - b) := pk_sub h
theorem rem_nI {a d : Nat} (ha : a < 2 ^ 31) (h0 : 0 < d) (hd : d < 2 ^ 31) : nI a - nI a / nI d * nI d = nI (a % d) := pk_rem ha h0 hd
def F_isWeather (x : Int32) : Int32 := (if (x) < 0 then (0) else (if 3 ≤ (x) then (0) else (1)))
set_option maxHeartbeats 4000000 in
set_option maxRecDepth 100000 in
theorem k_X11_isWeather (l : Launch) (D : va_G) (b z : Nat) (h : qH) (x : Int32) : qMi l D b yX11_isWeather cX11_isWeather 1 .boolean 0 0 [.int (x)] h z (fun r h' => r = F_isWeather x ∧ h' = h) := by
  refine q_i (L := [(0, .int (x))]) (own := RX11) (by decide) rfl (Nat.le_of_ble_eq_true rfl) rfl ?_
  intro X C ret
  refine g_iload_n C 0 dX11_isWeather_0 rfl rfl rfl ?_
  refine g_if_lt C dX11_isWeather_1 (tgt := 13) (by decide) (pc' := 4) rfl ?_ ?_
  · intro c1
    refine g_iconst C (v := 0) dX11_isWeather_13 (by decide) rfl ?_
    exact ret _ _ _ _ dX11_isWeather_14 rfl (⟨by simp only [F_isWeather, if_pos c1], rfl⟩)
  · intro c1
    refine g_iload_n C 0 dX11_isWeather_4 rfl rfl rfl ?_
    refine g_iconst C (v := 3) dX11_isWeather_5 (by decide) rfl ?_
    refine g_icmp_ge C dX11_isWeather_6 (tgt := 13) (by decide) (pc' := 9) rfl ?_ ?_
    · intro c6
      refine g_iconst C (v := 0) dX11_isWeather_13 (by decide) rfl ?_
      exact ret _ _ _ _ dX11_isWeather_14 rfl (⟨by simp only [F_isWeather, if_neg c1, if_pos c6], rfl⟩)
    · intro c6
      refine g_iconst C (v := 1) dX11_isWeather_9 (by decide) rfl ?_
      refine g_goto C dX11_isWeather_10 (tgt := 14) (by decide) ?_
      exact ret _ _ _ _ dX11_isWeather_14 rfl (⟨by simp only [F_isWeather, if_neg c1, if_neg c6], rfl⟩)
def F_isAhead (x : Int32) : Int32 := (if (x) < 1 then (0) else (if 6 < (x) then (0) else (1)))
set_option maxHeartbeats 4000000 in
set_option maxRecDepth 100000 in
theorem k_X11_isAhead (l : Launch) (D : va_G) (b z : Nat) (h : qH) (x : Int32) : qMi l D b yX11_isAhead cX11_isAhead 1 .boolean 0 0 [.int (x)] h z (fun r h' => r = F_isAhead x ∧ h' = h) := by
  refine q_i (L := [(0, .int (x))]) (own := RX11) (by decide) rfl (Nat.le_of_ble_eq_true rfl) rfl ?_
  intro X C ret
  refine g_iload_n C 0 dX11_isAhead_0 rfl rfl rfl ?_
  refine g_iconst C (v := 1) dX11_isAhead_1 (by decide) rfl ?_
  refine g_icmp_lt C dX11_isAhead_2 (tgt := 15) (by decide) (pc' := 5) rfl ?_ ?_
  · intro c2
    refine g_iconst C (v := 0) dX11_isAhead_15 (by decide) rfl ?_
    exact ret _ _ _ _ dX11_isAhead_16 rfl (⟨by simp only [F_isAhead, if_pos c2], rfl⟩)
  · intro c2
    refine g_iload_n C 0 dX11_isAhead_5 rfl rfl rfl ?_
    refine g_bipush C (v := 6) dX11_isAhead_6 (by decide) rfl ?_
    refine g_icmp_gt C dX11_isAhead_8 (tgt := 15) (by decide) (pc' := 11) rfl ?_ ?_
    · intro c8
      refine g_iconst C (v := 0) dX11_isAhead_15 (by decide) rfl ?_
      exact ret _ _ _ _ dX11_isAhead_16 rfl (⟨by simp only [F_isAhead, if_neg c2, if_pos c8], rfl⟩)
    · intro c8
      refine g_iconst C (v := 1) dX11_isAhead_11 (by decide) rfl ?_
      refine g_goto C dX11_isAhead_12 (tgt := 16) (by decide) ?_
      exact ret _ _ _ _ dX11_isAhead_16 rfl (⟨by simp only [F_isAhead, if_neg c2, if_neg c8], rfl⟩)
def F_isPart (x : Int32) : Int32 := (if (x) = 0 then (1) else (if (x) = 1 then (1) else (0)))
set_option maxHeartbeats 4000000 in
set_option maxRecDepth 100000 in
theorem k_X11_isPart (l : Launch) (D : va_G) (b z : Nat) (h : qH) (x : Int32) : qMi l D b yX11_isPart cX11_isPart 1 .boolean 0 0 [.int (x)] h z (fun r h' => r = F_isPart x ∧ h' = h) := by
  refine q_i (L := [(0, .int (x))]) (own := RX11) (by decide) rfl (Nat.le_of_ble_eq_true rfl) rfl ?_
  intro X C ret
  refine g_iload_n C 0 dX11_isPart_0 rfl rfl rfl ?_
  refine g_if_eq C dX11_isPart_1 (tgt := 9) (by decide) (pc' := 4) rfl ?_ ?_
  · intro c1
    refine g_iconst C (v := 1) dX11_isPart_9 (by decide) rfl ?_
    refine g_goto C dX11_isPart_10 (tgt := 14) (by decide) ?_
    exact ret _ _ _ _ dX11_isPart_14 rfl (⟨by simp only [F_isPart, if_pos c1], rfl⟩)
  · intro c1
    refine g_iload_n C 0 dX11_isPart_4 rfl rfl rfl ?_
    refine g_iconst C (v := 1) dX11_isPart_5 (by decide) rfl ?_
    refine g_icmp_ne C dX11_isPart_6 (tgt := 13) (by decide) (pc' := 9) rfl ?_ ?_
    · intro c6
      refine g_iconst C (v := 0) dX11_isPart_13 (by decide) rfl ?_
      exact ret _ _ _ _ dX11_isPart_14 rfl (⟨by simp only [F_isPart, if_neg c1, if_neg c6], rfl⟩)
    · intro c6
      refine g_iconst C (v := 1) dX11_isPart_9 (by decide) rfl ?_
      refine g_goto C dX11_isPart_10 (tgt := 14) (by decide) ?_
      exact ret _ _ _ _ dX11_isPart_14 rfl (⟨by simp only [F_isPart, if_neg c1, if_pos c6], rfl⟩)
def F_isPrice (x : Int32) : Int32 := (if (x) < 1 then (0) else (if 9 < (x) then (0) else (1)))
set_option maxHeartbeats 4000000 in
set_option maxRecDepth 100000 in
theorem k_X11_isPrice (l : Launch) (D : va_G) (b z : Nat) (h : qH) (x : Int32) : qMi l D b yX11_isPrice cX11_isPrice 1 .boolean 0 0 [.int (x)] h z (fun r h' => r = F_isPrice x ∧ h' = h) := by
  refine q_i (L := [(0, .int (x))]) (own := RX11) (by decide) rfl (Nat.le_of_ble_eq_true rfl) rfl ?_
  intro X C ret
  refine g_iload_n C 0 dX11_isPrice_0 rfl rfl rfl ?_
  refine g_iconst C (v := 1) dX11_isPrice_1 (by decide) rfl ?_
  refine g_icmp_lt C dX11_isPrice_2 (tgt := 15) (by decide) (pc' := 5) rfl ?_ ?_
  · intro c2
    refine g_iconst C (v := 0) dX11_isPrice_15 (by decide) rfl ?_
    exact ret _ _ _ _ dX11_isPrice_16 rfl (⟨by simp only [F_isPrice, if_pos c2], rfl⟩)
  · intro c2
    refine g_iload_n C 0 dX11_isPrice_5 rfl rfl rfl ?_
    refine g_bipush C (v := 9) dX11_isPrice_6 (by decide) rfl ?_
    refine g_icmp_gt C dX11_isPrice_8 (tgt := 15) (by decide) (pc' := 11) rfl ?_ ?_
    · intro c8
      refine g_iconst C (v := 0) dX11_isPrice_15 (by decide) rfl ?_
      exact ret _ _ _ _ dX11_isPrice_16 rfl (⟨by simp only [F_isPrice, if_neg c2, if_pos c8], rfl⟩)
    · intro c8
      refine g_iconst C (v := 1) dX11_isPrice_11 (by decide) rfl ?_
      refine g_goto C dX11_isPrice_12 (tgt := 16) (by decide) ?_
      exact ret _ _ _ _ dX11_isPrice_16 rfl (⟨by simp only [F_isPrice, if_neg c2, if_neg c8], rfl⟩)
set_option maxHeartbeats 4000000 in
set_option maxRecDepth 100000 in
theorem k_X8_codeAt (l : Launch) (D : va_G) (b z : Nat) {h : qH} {a : Nat} {cs : Nat → Int32} {n : Nat} (hn : n ≤ 16) (hPg : PgAt D h a cs (nI n)) {k : Nat} (hk : k < n) : qMi l D b yX8_codeAt cX8_codeAt 2 .int 0 0 [.ref (a), .int (nI (k))] h z (fun r h' => r = cs k ∧ h' = h) := by
  refine q_i (L := [(0, .ref (a)), (1, .int (nI (k)))]) (own := RX8) (by decide) rfl (Nat.le_of_ble_eq_true rfl) rfl ?_
  intro X C ret
  refine g_iload_n C 1 dX8_codeAt_0 rfl rfl rfl ?_
  refine g_if_lt C dX8_codeAt_1 (tgt := 27) (by decide) (pc' := 4) rfl ?_ ?_
  · intro c1
    replace c1 := (nI_ltI (a := k) (b := 0) (by omega) (by omega)).mp c1
    omega
  · intro c1
    replace c1 := (not_congr (nI_ltI (a := k) (b := 0) (by omega) (by omega))).mp c1
    refine g_iload_n C 1 dX8_codeAt_4 rfl rfl rfl ?_
    refine g_aload_n C 0 dX8_codeAt_5 rfl rfl rfl ?_
    refine gf_8_15 C (hPg.1) (v := .int (nI (n))) rfl dX8_codeAt_6 rfl ?_
    refine g_icmp_ge C dX8_codeAt_9 (tgt := 27) (by decide) (pc' := 12) rfl ?_ ?_
    · intro c9
      replace c9 := (nI_leI (a := n) (b := k) (by omega) (by omega)).mp c9
      omega
    · intro c9
      replace c9 := (not_congr (nI_leI (a := n) (b := k) (by omega) (by omega))).mp c9
      refine g_iload_n C 1 dX8_codeAt_12 rfl rfl rfl ?_
      refine g_bipush C (v := 16) dX8_codeAt_13 (by decide) rfl ?_
      refine g_icmp_ge C dX8_codeAt_15 (tgt := 27) (by decide) (pc' := 18) rfl ?_ ?_
      · intro c15
        replace c15 := (nI_leI (a := 16) (b := k) (by omega) (by omega)).mp c15
        omega
      · intro c15
        replace c15 := (not_congr (nI_leI (a := 16) (b := k) (by omega) (by omega))).mp c15
        refine g_aload_n C 0 dX8_codeAt_18 rfl rfl rfl ?_
        refine gf_8_11 C (hPg.1) (v := .ref (a + 1)) rfl dX8_codeAt_19 rfl ?_
        refine g_iload_n C 1 dX8_codeAt_22 rfl rfl rfl ?_
        refine g_iald' C (hPg.2) (j := k) rfl (by omega) (by decide) dX8_codeAt_23 rfl ?_
        refine g_goto C dX8_codeAt_24 (tgt := 28) (by decide) ?_
        exact ret _ _ _ _ dX8_codeAt_28 rfl (⟨rfl, rfl⟩)
def F_dg (c : Int32) : Int32 := if c < 48 then -1 else (if 57 < c then -1 else c - 48)
set_option maxHeartbeats 4000000 in
set_option maxRecDepth 100000 in
theorem k_X8_digitAt (l : Launch) (D : va_G) (b z : Nat) {h : qH} {a : Nat} {cs : Nat → Int32} {n : Nat} (hn : n ≤ 16) (hPg : PgAt D h a cs (nI n)) {k : Nat} (hk : k < n) : qMi l D b yX8_digitAt cX8_digitAt 3 .int 1 21 [.ref (a), .int (nI (k))] h z (fun r h' => r = F_dg (cs k) ∧ h' = h) := by
  refine q_i (L := [(0, .ref (a)), (1, .int (nI (k)))]) (own := RX8) (by decide) rfl (Nat.le_of_ble_eq_true rfl) rfl ?_
  intro X C ret
  refine g_aload_n C 0 dX8_digitAt_0 rfl rfl rfl ?_
  refine g_iload_n C 1 dX8_digitAt_1 rfl rfl rfl ?_
  refine g_callVi C (As := [.int (nI (k))]) (q := (RX8, TX8, 2)) (k_X8_codeAt l D b z hn hPg (k := k) (by omega)) hw_8_19 (hPg.1) rfl (by decide) rfl rfl (Nat.le_of_ble_eq_true rfl) ⟨Nat.zero_le _, Nat.zero_le _⟩ dX8_digitAt_2 (pc' := 5) rfl ?_
  rintro r1 h9 ⟨er, e9⟩
  subst h9; subst er
  refine g_istore_n C ([(2, .int (cs (k))), (0, .ref (a)), (1, .int (nI (k)))]) dX8_digitAt_5 rfl (by decide) rfl rfl ?_
  refine g_iload_n C 0 dX8_digitAt_6 rfl rfl rfl ?_
  refine g_bipush C (v := 48) dX8_digitAt_7 (by decide) rfl ?_
  refine g_icmp_lt C dX8_digitAt_9 (tgt := 25) (by decide) (pc' := 12) rfl ?_ ?_
  · intro c9
    refine g_iconst C (v := -1) dX8_digitAt_25 (by decide) rfl ?_
    exact ret _ _ _ _ dX8_digitAt_26 rfl (⟨by simp only [F_dg, if_pos c9], rfl⟩)
  · intro c9
    refine g_iload_n C 0 dX8_digitAt_12 rfl rfl rfl ?_
    refine g_bipush C (v := 57) dX8_digitAt_13 (by decide) rfl ?_
    refine g_icmp_gt C dX8_digitAt_15 (tgt := 25) (by decide) (pc' := 18) rfl ?_ ?_
    · intro c15
      refine g_iconst C (v := -1) dX8_digitAt_25 (by decide) rfl ?_
      exact ret _ _ _ _ dX8_digitAt_26 rfl (⟨by simp only [F_dg, if_neg c9, if_pos c15], rfl⟩)
    · intro c15
      refine g_iload_n C 0 dX8_digitAt_18 rfl rfl rfl ?_
      refine g_bipush C (v := 48) dX8_digitAt_19 (by decide) rfl ?_
      refine g_isub C dX8_digitAt_21 rfl ?_
      refine g_goto C dX8_digitAt_22 (tgt := 26) (by decide) ?_
      exact ret _ _ _ _ dX8_digitAt_26 rfl (⟨by simp only [F_dg, if_neg c9, if_neg c15], rfl⟩)
def tsum (cs : Nat → Int32) (q : Nat) : Nat → Int32
  | 0 => 0
  | j + 1 => tsum cs q j + F_dg (cs (q + j))
def gtP (cs : Nat → Int32) (q m : Nat) : Prop := (∀ j, j ≤ m → ¬ F_dg (cs (q + j)) = -1) ∧ (if m = 2 then tsum cs q (m + 1) = 10 else ¬ 10 < tsum cs q (m + 1))
set_option maxHeartbeats 4000000 in
set_option maxRecDepth 100000 in
theorem k_X8_isGoodTenths (l : Launch) (D : va_G) (b z : Nat) {h : qH} {a : Nat} {cs : Nat → Int32} {n : Nat} (hn : n ≤ 16) (hPg : PgAt D h a cs (nI n)) {q m : Nat} (hq : q % 4 = 0) (hm : m ≤ 2) (hk : q + m < n) : qMi l D b yX8_isGoodTenths cX8_isGoodTenths 4 .boolean 2 43 [.ref (a), .int (nI (q + m))] h z (fun r h' => ((r = 1 ∧ gtP cs q m) ∨ (r = 0 ∧ ¬ gtP cs q m)) ∧ h' = h) := by
  refine q_i (L := [(0, .ref (a)), (1, .int (nI (q + m)))]) (own := RX8) (by decide) rfl (Nat.le_of_ble_eq_true rfl) rfl ?_
  intro X C ret
  refine g_iconst C (v := 0) dX8_isGoodTenths_0 (by decide) rfl ?_
  refine g_istore_n C ([(2, .int (0)), (0, .ref (a)), (1, .int (nI (q + m)))]) dX8_isGoodTenths_1 rfl (by decide) rfl rfl ?_
  refine g_iload_n C 2 dX8_isGoodTenths_2 rfl rfl rfl ?_
  refine g_iload_n C 2 dX8_isGoodTenths_3 rfl rfl rfl ?_
  refine g_iconst C (v := 4) dX8_isGoodTenths_4 (by decide) rfl ?_
  refine g_irem C dX8_isGoodTenths_5 (by decide) rfl ?_
  refine g_topi (y := nI m) ((rem_nI (d := 4) (by omega) (by decide) (by decide)).trans (congrArg nI (by omega))) ?_
  refine g_isub C dX8_isGoodTenths_6 rfl ?_
  refine g_topi (y := nI q) ((nI_sub' (by omega)).trans (congrArg nI (by omega))) ?_
  refine g_istore_n C ([(3, .int (nI q)), (2, .int (0)), (0, .ref (a)), (1, .int (nI (q + m)))]) dX8_isGoodTenths_7 rfl (by decide) rfl rfl ?_
  have loop8 : ∀ (N : Nat) (j : Nat), m + 1 - j < N → (j ≤ m + 1) → (∀ t, t < j → ¬ F_dg (cs (q + t)) = -1) → qG X 0 0 z h 8 [(3, .int (nI (q + j))), (2, .int (tsum cs q j)), (0, .ref (a)), (1, .int (nI (q + m)))] [] := by
    intro N
    induction N with
    | zero => intro j hm; exact absurd hm (Nat.not_lt_zero _)
    | succ N ih8 =>
      intro j hm hj hall
      refine g_iload_n C 0 dX8_isGoodTenths_8 rfl rfl rfl ?_
      refine g_iload_n C 3 dX8_isGoodTenths_9 rfl rfl rfl ?_
      refine g_icmp_gt C dX8_isGoodTenths_10 (tgt := 38) (by decide) (pc' := 13) rfl ?_ ?_
      · intro c10
        replace c10 := (nI_ltI (a := q + m) (b := q + j) (by omega) (by omega)).mp c10
        refine g_iload_n C 3 dX8_isGoodTenths_38 rfl rfl rfl ?_
        refine g_iconst C (v := 4) dX8_isGoodTenths_39 (by decide) rfl ?_
        refine g_irem C dX8_isGoodTenths_40 (by decide) rfl ?_
        refine g_topi (y := nI m) ((rem_nI (d := 4) (by omega) (by decide) (by decide)).trans (congrArg nI (by omega))) ?_
        refine g_iconst C (v := 2) dX8_isGoodTenths_41 (by decide) rfl ?_
        refine g_icmp_ne C dX8_isGoodTenths_42 (tgt := 59) (by decide) (pc' := 45) rfl ?_ ?_
        · intro c42
          replace c42 := (not_congr (nI_eq (a := m) (b := 2) (by omega) (by omega))).mp c42
          refine g_iload_n C 1 dX8_isGoodTenths_59 rfl rfl rfl ?_
          refine g_bipush C (v := 10) dX8_isGoodTenths_60 (by decide) rfl ?_
          refine g_icmp_gt C dX8_isGoodTenths_62 (tgt := 69) (by decide) (pc' := 65) rfl ?_ ?_
          · intro c62
            refine g_iconst C (v := 0) dX8_isGoodTenths_69 (by decide) rfl ?_
            exact ret _ _ _ _ dX8_isGoodTenths_70 rfl (⟨Or.inr ⟨rfl, fun hg => by have h2 := hg.2; rw [if_neg c42, ← (by omega : j = m + 1)] at h2; exact h2 c62⟩, rfl⟩)
          · intro c62
            refine g_iconst C (v := 1) dX8_isGoodTenths_65 (by decide) rfl ?_
            refine g_goto C dX8_isGoodTenths_66 (tgt := 70) (by decide) ?_
            exact ret _ _ _ _ dX8_isGoodTenths_70 rfl (⟨Or.inl ⟨rfl, fun t ht => hall t (by omega), by rw [if_neg c42, ← (by omega : j = m + 1)]; exact c62⟩, rfl⟩)
        · intro c42
          replace c42 := (nI_eq (a := m) (b := 2) (by omega) (by omega)).mp c42
          refine g_iload_n C 1 dX8_isGoodTenths_45 rfl rfl rfl ?_
          refine g_bipush C (v := 10) dX8_isGoodTenths_46 (by decide) rfl ?_
          refine g_icmp_ne C dX8_isGoodTenths_48 (tgt := 55) (by decide) (pc' := 51) rfl ?_ ?_
          · intro c48
            refine g_iconst C (v := 0) dX8_isGoodTenths_55 (by decide) rfl ?_
            refine g_goto C dX8_isGoodTenths_56 (tgt := 70) (by decide) ?_
            exact ret _ _ _ _ dX8_isGoodTenths_70 rfl (⟨Or.inr ⟨rfl, fun hg => by have h2 := hg.2; rw [if_pos c42, ← (by omega : j = m + 1)] at h2; exact c48 h2⟩, rfl⟩)
          · intro c48
            refine g_iconst C (v := 1) dX8_isGoodTenths_51 (by decide) rfl ?_
            refine g_goto C dX8_isGoodTenths_52 (tgt := 70) (by decide) ?_
            exact ret _ _ _ _ dX8_isGoodTenths_70 rfl (⟨Or.inl ⟨rfl, fun t ht => hall t (by omega), by rw [if_pos c42, ← (by omega : j = m + 1)]; exact c48⟩, rfl⟩)
      · intro c10
        replace c10 := (not_congr (nI_ltI (a := q + m) (b := q + j) (by omega) (by omega))).mp c10
        refine g_aload_n C 2 dX8_isGoodTenths_13 rfl rfl rfl ?_
        refine g_iload_n C 0 dX8_isGoodTenths_14 rfl rfl rfl ?_
        refine g_callVi C (As := [.int (nI (q + j))]) (q := (RX8, TX8, 2)) (k_X8_digitAt l D b z hn hPg (k := q + j) (by omega)) hw_8_31 (hPg.1) rfl (by decide) rfl rfl (Nat.le_of_ble_eq_true rfl) ⟨Nat.zero_le _, Nat.zero_le _⟩ dX8_isGoodTenths_15 (pc' := 18) rfl ?_
        rintro r1 h9 ⟨er, e9⟩
        subst h9; subst er
        refine g_iconst C (v := -1) dX8_isGoodTenths_18 (by decide) rfl ?_
        refine g_icmp_ne C dX8_isGoodTenths_19 (tgt := 24) (by decide) (pc' := 22) rfl ?_ ?_
        · intro c19
          refine g_iload_n C 1 dX8_isGoodTenths_24 rfl rfl rfl ?_
          refine g_aload_n C 2 dX8_isGoodTenths_25 rfl rfl rfl ?_
          refine g_iload_n C 0 dX8_isGoodTenths_26 rfl rfl rfl ?_
          refine g_callVi C (As := [.int (nI (q + j))]) (q := (RX8, TX8, 2)) (k_X8_digitAt l D b z hn hPg (k := q + j) (by omega)) hw_8_31 (hPg.1) rfl (by decide) rfl rfl (Nat.le_of_ble_eq_true rfl) ⟨Nat.zero_le _, Nat.zero_le _⟩ dX8_isGoodTenths_27 (pc' := 30) rfl ?_
          rintro r2 h9 ⟨er, e9⟩
          subst h9; subst er
          refine g_iadd C dX8_isGoodTenths_30 rfl ?_
          refine g_istore_n C ([(2, .int ((tsum cs q j) + (F_dg (cs (q + j))))), (3, .int (nI (q + j))), (0, .ref (a)), (1, .int (nI (q + m)))]) dX8_isGoodTenths_31 rfl (by decide) rfl rfl ?_
          refine g_iinc C (v := nI (q + j + 1)) 1 ([(3, .int (nI (q + j + 1))), (2, .int ((tsum cs q j) + (F_dg (cs (q + j))))), (0, .ref (a)), (1, .int (nI (q + m)))]) dX8_isGoodTenths_32 rfl (nI_1 _) (by decide) rfl rfl ?_
          refine g_goto C dX8_isGoodTenths_35 (tgt := 8) (by decide) ?_
          exact ih8 (j + 1) (by omega) (by omega) (fun t ht => by rcases Nat.lt_succ_iff_lt_or_eq.mp ht with g | g; exact hall t g; subst g; exact c19)
        · intro c19
          refine g_iconst C (v := 0) dX8_isGoodTenths_22 (by decide) rfl ?_
          exact ret _ _ _ _ dX8_isGoodTenths_23 rfl (⟨Or.inr ⟨rfl, fun hg => hg.1 j (by omega) c19⟩, rfl⟩)
  exact loop8 _ (0) (Nat.lt_succ_self _) (Nat.zero_le _) (fun t ht => absurd ht (Nat.not_lt_zero _))
def pgG (cs : Nat → Int32) (p : Nat) : Prop := if 13 < p then False else if p = 13 then ¬ F_dg (cs p) = -1 else if p = 12 then ¬ F_dg (cs p) < 1 ∧ ¬ 4 < F_dg (cs p) else if p = 11 then cs p = 59 else if p % 4 = 3 then cs p = 47 else gtP cs (p - p % 4) (p % 4)
set_option maxHeartbeats 4000000 in
set_option maxRecDepth 100000 in
theorem k_X8_isGoodAt (l : Launch) (D : va_G) (b z : Nat) {h : qH} {a : Nat} {cs : Nat → Int32} {n : Nat} (hn : n ≤ 16) (hPg : PgAt D h a cs (nI n)) {p : Nat} (hk : p < n) : qMi l D b yX8_isGoodAt cX8_isGoodAt 2 .boolean 3 66 [.ref (a), .int (nI (p))] h z (fun r h' => ((r = 1 ∧ pgG cs p) ∨ (r = 0 ∧ ¬ pgG cs p)) ∧ h' = h) := by
  refine q_i (L := [(0, .ref (a)), (1, .int (nI (p)))]) (own := RX8) (by decide) rfl (Nat.le_of_ble_eq_true rfl) rfl ?_
  intro X C ret
  refine g_iload_n C 1 dX8_isGoodAt_0 rfl rfl rfl ?_
  refine g_bipush C (v := 13) dX8_isGoodAt_1 (by decide) rfl ?_
  refine g_icmp_le C dX8_isGoodAt_3 (tgt := 8) (by decide) (pc' := 6) rfl ?_ ?_
  · intro c3
    replace c3 := (nI_leI (a := p) (b := 13) (by omega) (by omega)).mp c3
    refine g_iload_n C 1 dX8_isGoodAt_8 rfl rfl rfl ?_
    refine g_bipush C (v := 13) dX8_isGoodAt_9 (by decide) rfl ?_
    refine g_icmp_ne C dX8_isGoodAt_11 (tgt := 29) (by decide) (pc' := 14) rfl ?_ ?_
    · intro c11
      replace c11 := (not_congr (nI_eq (a := p) (b := 13) (by omega) (by omega))).mp c11
      refine g_iload_n C 1 dX8_isGoodAt_29 rfl rfl rfl ?_
      refine g_bipush C (v := 12) dX8_isGoodAt_30 (by decide) rfl ?_
      refine g_icmp_ne C dX8_isGoodAt_32 (tgt := 59) (by decide) (pc' := 35) rfl ?_ ?_
      · intro c32
        replace c32 := (not_congr (nI_eq (a := p) (b := 12) (by omega) (by omega))).mp c32
        refine g_iload_n C 1 dX8_isGoodAt_59 rfl rfl rfl ?_
        refine g_bipush C (v := 11) dX8_isGoodAt_60 (by decide) rfl ?_
        refine g_icmp_ne C dX8_isGoodAt_62 (tgt := 81) (by decide) (pc' := 65) rfl ?_ ?_
        · intro c62
          replace c62 := (not_congr (nI_eq (a := p) (b := 11) (by omega) (by omega))).mp c62
          refine g_iload_n C 1 dX8_isGoodAt_81 rfl rfl rfl ?_
          refine g_iconst C (v := 4) dX8_isGoodAt_82 (by decide) rfl ?_
          refine g_irem C dX8_isGoodAt_83 (by decide) rfl ?_
          refine g_topi (y := nI (p % 4)) (rem_nI (d := 4) (by omega) (by decide) (by decide)) ?_
          refine g_iconst C (v := 3) dX8_isGoodAt_84 (by decide) rfl ?_
          refine g_icmp_ne C dX8_isGoodAt_85 (tgt := 106) (by decide) (pc' := 88) rfl ?_ ?_
          · intro c85
            replace c85 := (not_congr (nI_eq (a := p % 4) (b := 3) (by omega) (by omega))).mp c85
            refine g_aload_n C 0 dX8_isGoodAt_106 rfl rfl rfl ?_
            refine g_iload_n C 1 dX8_isGoodAt_107 rfl rfl rfl ?_
            refine g_callVi C (As := [.int (nI (p))]) (q := (RX8, TX8, 2)) ((show p - p % 4 + p % 4 = p by omega) ▸ k_X8_isGoodTenths l D b z hn hPg (q := p - p % 4) (m := p % 4) (by omega) (by omega) (by omega)) hw_8_34 (hPg.1) rfl (by decide) rfl rfl (Nat.le_of_ble_eq_true rfl) ⟨Nat.zero_le _, Nat.zero_le _⟩ dX8_isGoodAt_108 (pc' := 111) rfl ?_
            rintro r1 h9 ⟨⟨er, hp108⟩ | ⟨er, hp108⟩, e9⟩
            · subst h9; subst er
              exact ret _ _ _ _ dX8_isGoodAt_111 rfl ((by unfold pgG; first | exact ⟨Or.inl ⟨rfl, by simp_all⟩, rfl⟩ | exact ⟨Or.inr ⟨rfl, by simp_all⟩, rfl⟩ | (refine ⟨?_, rfl⟩; simp_all)))
            · subst h9; subst er
              exact ret _ _ _ _ dX8_isGoodAt_111 rfl ((by unfold pgG; first | exact ⟨Or.inl ⟨rfl, by simp_all⟩, rfl⟩ | exact ⟨Or.inr ⟨rfl, by simp_all⟩, rfl⟩ | (refine ⟨?_, rfl⟩; simp_all)))
          · intro c85
            replace c85 := (nI_eq (a := p % 4) (b := 3) (by omega) (by omega)).mp c85
            refine g_aload_n C 0 dX8_isGoodAt_88 rfl rfl rfl ?_
            refine g_iload_n C 1 dX8_isGoodAt_89 rfl rfl rfl ?_
            refine g_callVi C (As := [.int (nI (p))]) (q := (RX8, TX8, 2)) (k_X8_codeAt l D b z hn hPg (k := p) (by omega)) hw_8_19 (hPg.1) rfl (by decide) rfl rfl (Nat.le_of_ble_eq_true rfl) ⟨Nat.zero_le _, Nat.zero_le _⟩ dX8_isGoodAt_90 (pc' := 93) rfl ?_
            rintro r2 h9 ⟨er, e9⟩
            subst h9; subst er
            refine g_bipush C (v := 47) dX8_isGoodAt_93 (by decide) rfl ?_
            refine g_icmp_ne C dX8_isGoodAt_95 (tgt := 102) (by decide) (pc' := 98) rfl ?_ ?_
            · intro c95
              refine g_iconst C (v := 0) dX8_isGoodAt_102 (by decide) rfl ?_
              refine g_goto C dX8_isGoodAt_103 (tgt := 111) (by decide) ?_
              exact ret _ _ _ _ dX8_isGoodAt_111 rfl ((by unfold pgG; first | exact ⟨Or.inl ⟨rfl, by simp_all⟩, rfl⟩ | exact ⟨Or.inr ⟨rfl, by simp_all⟩, rfl⟩ | (refine ⟨?_, rfl⟩; simp_all)))
            · intro c95
              refine g_iconst C (v := 1) dX8_isGoodAt_98 (by decide) rfl ?_
              refine g_goto C dX8_isGoodAt_99 (tgt := 111) (by decide) ?_
              exact ret _ _ _ _ dX8_isGoodAt_111 rfl ((by unfold pgG; first | exact ⟨Or.inl ⟨rfl, by simp_all⟩, rfl⟩ | exact ⟨Or.inr ⟨rfl, by simp_all⟩, rfl⟩ | (refine ⟨?_, rfl⟩; simp_all)))
        · intro c62
          replace c62 := (nI_eq (a := p) (b := 11) (by omega) (by omega)).mp c62
          refine g_aload_n C 0 dX8_isGoodAt_65 rfl rfl rfl ?_
          refine g_iload_n C 1 dX8_isGoodAt_66 rfl rfl rfl ?_
          refine g_callVi C (As := [.int (nI (p))]) (q := (RX8, TX8, 2)) (k_X8_codeAt l D b z hn hPg (k := p) (by omega)) hw_8_19 (hPg.1) rfl (by decide) rfl rfl (Nat.le_of_ble_eq_true rfl) ⟨Nat.zero_le _, Nat.zero_le _⟩ dX8_isGoodAt_67 (pc' := 70) rfl ?_
          rintro r3 h9 ⟨er, e9⟩
          subst h9; subst er
          refine g_bipush C (v := 59) dX8_isGoodAt_70 (by decide) rfl ?_
          refine g_icmp_ne C dX8_isGoodAt_72 (tgt := 79) (by decide) (pc' := 75) rfl ?_ ?_
          · intro c72
            refine g_iconst C (v := 0) dX8_isGoodAt_79 (by decide) rfl ?_
            exact ret _ _ _ _ dX8_isGoodAt_80 rfl ((by unfold pgG; first | exact ⟨Or.inl ⟨rfl, by simp_all⟩, rfl⟩ | exact ⟨Or.inr ⟨rfl, by simp_all⟩, rfl⟩ | (refine ⟨?_, rfl⟩; simp_all)))
          · intro c72
            refine g_iconst C (v := 1) dX8_isGoodAt_75 (by decide) rfl ?_
            refine g_goto C dX8_isGoodAt_76 (tgt := 80) (by decide) ?_
            exact ret _ _ _ _ dX8_isGoodAt_80 rfl ((by unfold pgG; first | exact ⟨Or.inl ⟨rfl, by simp_all⟩, rfl⟩ | exact ⟨Or.inr ⟨rfl, by simp_all⟩, rfl⟩ | (refine ⟨?_, rfl⟩; simp_all)))
      · intro c32
        replace c32 := (nI_eq (a := p) (b := 12) (by omega) (by omega)).mp c32
        refine g_aload_n C 0 dX8_isGoodAt_35 rfl rfl rfl ?_
        refine g_iload_n C 1 dX8_isGoodAt_36 rfl rfl rfl ?_
        refine g_callVi C (As := [.int (nI (p))]) (q := (RX8, TX8, 2)) (k_X8_digitAt l D b z hn hPg (k := p) (by omega)) hw_8_31 (hPg.1) rfl (by decide) rfl rfl (Nat.le_of_ble_eq_true rfl) ⟨Nat.zero_le _, Nat.zero_le _⟩ dX8_isGoodAt_37 (pc' := 40) rfl ?_
        rintro r4 h9 ⟨er, e9⟩
        subst h9; subst er
        refine g_iconst C (v := 1) dX8_isGoodAt_40 (by decide) rfl ?_
        refine g_icmp_lt C dX8_isGoodAt_41 (tgt := 57) (by decide) (pc' := 44) rfl ?_ ?_
        · intro c41
          refine g_iconst C (v := 0) dX8_isGoodAt_57 (by decide) rfl ?_
          exact ret _ _ _ _ dX8_isGoodAt_58 rfl ((by unfold pgG; first | exact ⟨Or.inl ⟨rfl, by simp_all⟩, rfl⟩ | exact ⟨Or.inr ⟨rfl, by simp_all⟩, rfl⟩ | (refine ⟨?_, rfl⟩; simp_all)))
        · intro c41
          refine g_aload_n C 0 dX8_isGoodAt_44 rfl rfl rfl ?_
          refine g_iload_n C 1 dX8_isGoodAt_45 rfl rfl rfl ?_
          refine g_callVi C (As := [.int (nI (p))]) (q := (RX8, TX8, 2)) (k_X8_digitAt l D b z hn hPg (k := p) (by omega)) hw_8_31 (hPg.1) rfl (by decide) rfl rfl (Nat.le_of_ble_eq_true rfl) ⟨Nat.zero_le _, Nat.zero_le _⟩ dX8_isGoodAt_46 (pc' := 49) rfl ?_
          rintro r5 h9 ⟨er, e9⟩
          subst h9; subst er
          refine g_iconst C (v := 4) dX8_isGoodAt_49 (by decide) rfl ?_
          refine g_icmp_gt C dX8_isGoodAt_50 (tgt := 57) (by decide) (pc' := 53) rfl ?_ ?_
          · intro c50
            refine g_iconst C (v := 0) dX8_isGoodAt_57 (by decide) rfl ?_
            exact ret _ _ _ _ dX8_isGoodAt_58 rfl ((by unfold pgG; first | exact ⟨Or.inl ⟨rfl, by simp_all⟩, rfl⟩ | exact ⟨Or.inr ⟨rfl, by simp_all⟩, rfl⟩ | (refine ⟨?_, rfl⟩; simp_all)))
          · intro c50
            refine g_iconst C (v := 1) dX8_isGoodAt_53 (by decide) rfl ?_
            refine g_goto C dX8_isGoodAt_54 (tgt := 58) (by decide) ?_
            exact ret _ _ _ _ dX8_isGoodAt_58 rfl ((by unfold pgG; first | exact ⟨Or.inl ⟨rfl, by simp_all⟩, rfl⟩ | exact ⟨Or.inr ⟨rfl, by simp_all⟩, rfl⟩ | (refine ⟨?_, rfl⟩; simp_all)))
    · intro c11
      replace c11 := (nI_eq (a := p) (b := 13) (by omega) (by omega)).mp c11
      refine g_aload_n C 0 dX8_isGoodAt_14 rfl rfl rfl ?_
      refine g_iload_n C 1 dX8_isGoodAt_15 rfl rfl rfl ?_
      refine g_callVi C (As := [.int (nI (p))]) (q := (RX8, TX8, 2)) (k_X8_digitAt l D b z hn hPg (k := p) (by omega)) hw_8_31 (hPg.1) rfl (by decide) rfl rfl (Nat.le_of_ble_eq_true rfl) ⟨Nat.zero_le _, Nat.zero_le _⟩ dX8_isGoodAt_16 (pc' := 19) rfl ?_
      rintro r6 h9 ⟨er, e9⟩
      subst h9; subst er
      refine g_iconst C (v := -1) dX8_isGoodAt_19 (by decide) rfl ?_
      refine g_icmp_eq C dX8_isGoodAt_20 (tgt := 27) (by decide) (pc' := 23) rfl ?_ ?_
      · intro c20
        refine g_iconst C (v := 0) dX8_isGoodAt_27 (by decide) rfl ?_
        exact ret _ _ _ _ dX8_isGoodAt_28 rfl ((by unfold pgG; first | exact ⟨Or.inl ⟨rfl, by simp_all⟩, rfl⟩ | exact ⟨Or.inr ⟨rfl, by simp_all⟩, rfl⟩ | (refine ⟨?_, rfl⟩; simp_all)))
      · intro c20
        refine g_iconst C (v := 1) dX8_isGoodAt_23 (by decide) rfl ?_
        refine g_goto C dX8_isGoodAt_24 (tgt := 28) (by decide) ?_
        exact ret _ _ _ _ dX8_isGoodAt_28 rfl ((by unfold pgG; first | exact ⟨Or.inl ⟨rfl, by simp_all⟩, rfl⟩ | exact ⟨Or.inr ⟨rfl, by simp_all⟩, rfl⟩ | (refine ⟨?_, rfl⟩; simp_all)))
  · intro c3
    replace c3 := (not_congr (nI_leI (a := p) (b := 13) (by omega) (by omega))).mp c3
    refine g_iconst C (v := 0) dX8_isGoodAt_6 (by decide) rfl ?_
    exact ret _ _ _ _ dX8_isGoodAt_7 rfl ((by unfold pgG; first | exact ⟨Or.inl ⟨rfl, by simp_all⟩, rfl⟩ | exact ⟨Or.inr ⟨rfl, by simp_all⟩, rfl⟩ | (refine ⟨?_, rfl⟩; simp_all)))
def ffP (G : Nat → Prop) (n k : Nat) : Prop := k ≤ n ∧ (∀ j, j < k → G j) ∧ (k < n → ¬ G k)
set_option maxHeartbeats 4000000 in
set_option maxRecDepth 100000 in
theorem k_X8_firstFault (l : Launch) (D : va_G) (b z : Nat) {h : qH} {a : Nat} {cs : Nat → Int32} {n : Nat} (hn : n ≤ 16) (hPg : PgAt D h a cs (nI n)) : qMi l D b yX8_firstFault cX8_firstFault 2 .int 4 87 [.ref (a)] h z (fun r h' => (∃ k, r = nI k ∧ ffP (pgG cs) n k) ∧ h' = h) := by
  refine q_i (L := [(0, .ref (a))]) (own := RX8) (by decide) rfl (Nat.le_of_ble_eq_true rfl) rfl ?_
  intro X C ret
  refine g_iconst C (v := 0) dX8_firstFault_0 (by decide) rfl ?_
  refine g_istore_n C ([(1, .int (0)), (0, .ref (a))]) dX8_firstFault_1 rfl (by decide) rfl rfl ?_
  have loop2 : ∀ (N : Nat) (i : Nat), n - i < N → (i ≤ n) → (∀ t, t < i → pgG cs t) → qG X 0 0 z h 2 [(1, .int (nI (i))), (0, .ref (a))] [] := by
    intro N
    induction N with
    | zero => intro i hm; exact absurd hm (Nat.not_lt_zero _)
    | succ N ih2 =>
      intro i hm hi hall
      refine g_iload_n C 0 dX8_firstFault_2 rfl rfl rfl ?_
      refine g_aload_n C 1 dX8_firstFault_3 rfl rfl rfl ?_
      refine gf_8_15 C (hPg.1) (v := .int (nI (n))) rfl dX8_firstFault_4 rfl ?_
      refine g_icmp_ge C dX8_firstFault_7 (tgt := 26) (by decide) (pc' := 10) rfl ?_ ?_
      · intro c7
        replace c7 := (nI_leI (a := n) (b := i) (by omega) (by omega)).mp c7
        refine g_aload_n C 1 dX8_firstFault_26 rfl rfl rfl ?_
        refine gf_8_15 C (hPg.1) (v := .int (nI (n))) rfl dX8_firstFault_27 rfl ?_
        exact ret _ _ _ _ dX8_firstFault_30 rfl (⟨⟨n, rfl, Nat.le_refl _, fun t ht => hall t (by omega), fun g => absurd g (Nat.lt_irrefl _)⟩, rfl⟩)
      · intro c7
        replace c7 := (not_congr (nI_leI (a := n) (b := i) (by omega) (by omega))).mp c7
        refine g_aload_n C 1 dX8_firstFault_10 rfl rfl rfl ?_
        refine g_iload_n C 0 dX8_firstFault_11 rfl rfl rfl ?_
        refine g_callVi C (As := [.int (nI (i))]) (q := (RX8, TX8, 2)) (k_X8_isGoodAt l D b z hn hPg (p := i) (by omega)) hw_8_27 (hPg.1) rfl (by decide) rfl rfl (Nat.le_of_ble_eq_true rfl) ⟨Nat.zero_le _, Nat.zero_le _⟩ dX8_firstFault_12 (pc' := 15) rfl ?_
        rintro r1 h9 ⟨⟨er, hp12⟩ | ⟨er, hp12⟩, e9⟩
        · subst h9; subst er
          refine g_if_ne C dX8_firstFault_15 (tgt := 20) (by decide) (pc' := 18) rfl (fun _ => ?_) (fun c15 => absurd c15 (by decide))
          refine g_iinc C (v := nI (i + 1)) 0 ([(1, .int (nI (i + 1))), (0, .ref (a))]) dX8_firstFault_20 rfl (nI_1 _) (by decide) rfl rfl ?_
          refine g_goto C dX8_firstFault_23 (tgt := 2) (by decide) ?_
          exact ih2 (i + 1) (by omega) (by omega) (fun t ht => by rcases Nat.lt_succ_iff_lt_or_eq.mp ht with g | g; exact hall t g; subst g; exact hp12)
        · subst h9; subst er
          refine g_if_ne C dX8_firstFault_15 (tgt := 20) (by decide) (pc' := 18) rfl (fun c15 => absurd (by decide) c15) (fun _ => ?_)
          refine g_iload_n C 0 dX8_firstFault_18 rfl rfl rfl ?_
          exact ret _ _ _ _ dX8_firstFault_19 rfl (⟨⟨i, rfl, hi, hall, fun _ => hp12⟩, rfl⟩)
  exact loop2 _ (0) (Nat.lt_succ_self _) (Nat.zero_le _) (fun t ht => absurd ht (Nat.not_lt_zero _))
set_option maxHeartbeats 4000000 in
set_option maxRecDepth 100000 in
theorem k_X8_isStation (l : Launch) (D : va_G) (b z : Nat) {h : qH} {a : Nat} {cs : Nat → Int32} {n : Nat} (hn : n ≤ 16) (hPg : PgAt D h a cs (nI n)) : qMi l D b yX8_isStation cX8_isStation 1 .boolean 5 108 [.ref (a)] h z (fun r h' => ((r = 1 ∧ (n = 14 ∧ ∀ j, j < 14 → pgG cs j)) ∨ (r = 0 ∧ ¬ (n = 14 ∧ ∀ j, j < 14 → pgG cs j))) ∧ h' = h) := by
  refine q_i (L := [(0, .ref (a))]) (own := RX8) (by decide) rfl (Nat.le_of_ble_eq_true rfl) rfl ?_
  intro X C ret
  refine g_aload_n C 0 dX8_isStation_0 rfl rfl rfl ?_
  refine gf_8_15 C (hPg.1) (v := .int (nI (n))) rfl dX8_isStation_1 rfl ?_
  refine g_bipush C (v := 14) dX8_isStation_4 (by decide) rfl ?_
  refine g_icmp_ne C dX8_isStation_6 (tgt := 22) (by decide) (pc' := 9) rfl ?_ ?_
  · intro c6
    replace c6 := (not_congr (nI_eq (a := n) (b := 14) (by omega) (by omega))).mp c6
    refine g_iconst C (v := 0) dX8_isStation_22 (by decide) rfl ?_
    exact ret _ _ _ _ dX8_isStation_23 rfl (⟨Or.inr ⟨rfl, fun g => c6 g.1⟩, rfl⟩)
  · intro c6
    replace c6 := (nI_eq (a := n) (b := 14) (by omega) (by omega)).mp c6
    refine g_aload_n C 0 dX8_isStation_9 rfl rfl rfl ?_
    refine g_callVi C (As := []) (q := (RX8, TX8, 2)) (k_X8_firstFault l D b z hn hPg) hw_8_23 (hPg.1) rfl (by decide) rfl rfl (Nat.le_of_ble_eq_true rfl) ⟨Nat.zero_le _, Nat.zero_le _⟩ dX8_isStation_10 (pc' := 13) rfl ?_
    rintro _ h9 ⟨⟨k, rfl, hk, hall, hbad⟩, e9⟩
    subst h9
    refine g_bipush C (v := 14) dX8_isStation_13 (by decide) rfl ?_
    refine g_icmp_ne C dX8_isStation_15 (tgt := 22) (by decide) (pc' := 18) rfl ?_ ?_
    · intro c15
      replace c15 := (not_congr (nI_eq (a := k) (b := 14) (by omega) (by omega))).mp c15
      refine g_iconst C (v := 0) dX8_isStation_22 (by decide) rfl ?_
      exact ret _ _ _ _ dX8_isStation_23 rfl (⟨Or.inr ⟨rfl, fun g => hbad (by omega) (g.2 k (by omega))⟩, rfl⟩)
    · intro c15
      replace c15 := (nI_eq (a := k) (b := 14) (by omega) (by omega)).mp c15
      refine g_iconst C (v := 1) dX8_isStation_18 (by decide) rfl ?_
      refine g_goto C dX8_isStation_19 (tgt := 23) (by decide) ?_
      exact ret _ _ _ _ dX8_isStation_23 rfl (⟨Or.inl ⟨rfl, c6, fun j hj => hall j (by omega)⟩, rfl⟩)
set_option maxHeartbeats 4000000 in
set_option maxRecDepth 100000 in
theorem k_X8_append (l : Launch) (D : va_G) (b z : Nat) {h : qH} {a : Nat} {cs : Nat → Int32} {n : Nat} (hn : n ≤ 16) (hPg : PgAt D h a cs (nI n)) (x : Int32) : qMi l D b yX8_append cX8_append 2 .boolean 0 0 [.ref (a), .int (x)] h z (fun r h' => (n < 16 ∧ r = 1 ∧ PgAt D h' a (upd cs n x) (nI (n + 1)) ∧ (∀ q, (q < a ∨ a + 2 ≤ q) → h' q = h q)) ∨ (n = 16 ∧ r = 0 ∧ h' = h)) := by
  refine q_i (L := [(0, .ref (a)), (1, .int (x))]) (own := RX8) (by decide) rfl (Nat.le_of_ble_eq_true rfl) rfl ?_
  intro X C ret
  have hO : ∀ q, (q < a ∨ a + 2 ≤ q) → h q = h q := fun _ _ => rfl
  refine g_aload_n C 0 dX8_append_0 rfl rfl rfl ?_
  refine gf_8_15 C (hPg.1) (v := .int (nI (n))) rfl dX8_append_1 rfl ?_
  refine g_if_lt C dX8_append_4 (tgt := 16) (by decide) (pc' := 7) rfl ?_ ?_
  · intro c4
    replace c4 := (nI_ltI (a := n) (b := 0) (by omega) (by omega)).mp c4
    omega
  · intro c4
    replace c4 := (not_congr (nI_ltI (a := n) (b := 0) (by omega) (by omega))).mp c4
    refine g_aload_n C 0 dX8_append_7 rfl rfl rfl ?_
    refine gf_8_15 C (hPg.1) (v := .int (nI (n))) rfl dX8_append_8 rfl ?_
    refine g_bipush C (v := 16) dX8_append_11 (by decide) rfl ?_
    refine g_icmp_lt C dX8_append_13 (tgt := 18) (by decide) (pc' := 16) rfl ?_ ?_
    · intro c13
      replace c13 := (nI_ltI (a := n) (b := 16) (by omega) (by omega)).mp c13
      refine g_aload_n C 0 dX8_append_18 rfl rfl rfl ?_
      refine gf_8_11 C (hPg.1) (v := .ref (a + 1)) rfl dX8_append_19 rfl ?_
      refine g_aload_n C 0 dX8_append_22 rfl rfl rfl ?_
      refine gf_8_15 C (hPg.1) (v := .int (nI (n))) rfl dX8_append_23 rfl ?_
      refine g_iload_n C 1 dX8_append_26 rfl rfl rfl ?_
      refine g_iast' C (hPg.2) (j := n) rfl (by omega) (by decide) dX8_append_27 (pc' := 28) rfl (fun h1 e2 o3 => ?_)
      have hPg : PgAt D h1 (a) (upd (cs) (n) (x)) (nI (n)) := ⟨(o3 _ (by omega)).trans hPg.1, e2⟩
      have hO : ∀ q, (q < a ∨ a + 2 ≤ q) → h1 q = h q := fun q hq => (o3 q (by omega)).trans (hO q hq)
      refine g_aload_n C 0 dX8_append_28 rfl rfl rfl ?_
      refine g_dup C rfl dX8_append_29 rfl ?_
      refine gf_8_15 C (hPg.1) (v := .int (nI (n))) rfl dX8_append_30 rfl ?_
      refine g_iconst C (v := 1) dX8_append_33 (by decide) rfl ?_
      refine g_iadd C dX8_append_34 rfl ?_
      refine g_topi (y := nI (n + 1)) (nI_add _ _) ?_
      refine pf_8_15 C (hPg.1) (v := .int (nI ((n + 1)))) rfl rfl (Nat.le_of_ble_eq_true rfl) dX8_append_35 (pc' := 38) rfl (fun h4 e5 o6 => ?_)
      have hPg : PgAt D h4 (a) (upd (cs) (n) (x)) (nI ((n + 1))) := ⟨e5, (o6 _ (by omega)).trans hPg.2⟩
      have hO : ∀ q, (q < a ∨ a + 2 ≤ q) → h4 q = h q := fun q hq => (o6 q (by omega)).trans (hO q hq)
      refine g_iconst C (v := 1) dX8_append_38 (by decide) rfl ?_
      exact ret _ _ _ _ dX8_append_39 rfl (Or.inl ⟨by omega, rfl, hPg, hO⟩)
    · intro c13
      replace c13 := (not_congr (nI_ltI (a := n) (b := 16) (by omega) (by omega))).mp c13
      refine g_iconst C (v := 0) dX8_append_16 (by decide) rfl ?_
      exact ret _ _ _ _ dX8_append_17 rfl (Or.inr ⟨by omega, rfl, rfl⟩)
set_option maxHeartbeats 4000000 in
set_option maxRecDepth 100000 in
theorem k_X9_isRead (l : Launch) (D : va_G) (b z : Nat) {h : qH} {a : Nat} {tn : Nat → Int32} {e : Nat} {sl : Int32} (he : e < 10) (hSt : StAt D h a tn (nI e) sl) : qMi l D b yX9_isRead cX9_isRead 1 .boolean 0 0 [.ref (a)] h z (fun r h' => ((r = 1 ∧ 0 < e) ∨ (r = 0 ∧ ¬ 0 < e)) ∧ h' = h) := by
  refine q_i (L := [(0, .ref (a))]) (own := RX9) (by decide) rfl (Nat.le_of_ble_eq_true rfl) rfl ?_
  intro X C ret
  refine g_aload_n C 0 dX9_isRead_0 rfl rfl rfl ?_
  refine gf_9_15 C (hSt.1) (v := .int (nI (e))) rfl dX9_isRead_1 rfl ?_
  refine g_if_le C dX9_isRead_4 (tgt := 11) (by decide) (pc' := 7) rfl ?_ ?_
  · intro c4
    replace c4 := (nI_leI (a := e) (b := 0) (by omega) (by omega)).mp c4
    refine g_iconst C (v := 0) dX9_isRead_11 (by decide) rfl ?_
    exact ret _ _ _ _ dX9_isRead_12 rfl (⟨Or.inr ⟨rfl, by omega⟩, rfl⟩)
  · intro c4
    replace c4 := (not_congr (nI_leI (a := e) (b := 0) (by omega) (by omega))).mp c4
    refine g_iconst C (v := 1) dX9_isRead_7 (by decide) rfl ?_
    refine g_goto C dX9_isRead_8 (tgt := 12) (by decide) ?_
    exact ret _ _ _ _ dX9_isRead_12 rfl (⟨Or.inl ⟨rfl, by omega⟩, rfl⟩)
set_option maxHeartbeats 4000000 in
set_option maxRecDepth 100000 in
theorem k_X9_tenthsFrom (l : Launch) (D : va_G) (b z : Nat) {h : qH} {a : Nat} {tn : Nat → Int32} {e : Nat} {sl : Int32} (he : e < 10) (hSt : StAt D h a tn (nI e) sl) {v w : Nat} (hv : v < 3) (hw : w < 3) : qMi l D b yX9_tenthsFrom cX9_tenthsFrom 4 .int 0 0 [.ref (a), .int (nI (v)), .int (nI (w))] h z (fun r h' => r = tn (v * 3 + w) ∧ h' = h) := by
  refine q_i (L := [(0, .ref (a)), (1, .int (nI (v))), (2, .int (nI (w)))]) (own := RX9) (by decide) rfl (Nat.le_of_ble_eq_true rfl) rfl ?_
  intro X C ret
  refine g_iload_n C 1 dX9_tenthsFrom_0 rfl rfl rfl ?_
  refine g_if_lt C dX9_tenthsFrom_1 (tgt := 22) (by decide) (pc' := 4) rfl ?_ ?_
  · intro c1
    replace c1 := (nI_ltI (a := v) (b := 0) (by omega) (by omega)).mp c1
    omega
  · intro c1
    replace c1 := (not_congr (nI_ltI (a := v) (b := 0) (by omega) (by omega))).mp c1
    refine g_iload_n C 1 dX9_tenthsFrom_4 rfl rfl rfl ?_
    refine g_iconst C (v := 3) dX9_tenthsFrom_5 (by decide) rfl ?_
    refine g_icmp_ge C dX9_tenthsFrom_6 (tgt := 22) (by decide) (pc' := 9) rfl ?_ ?_
    · intro c6
      replace c6 := (nI_leI (a := 3) (b := v) (by omega) (by omega)).mp c6
      omega
    · intro c6
      replace c6 := (not_congr (nI_leI (a := 3) (b := v) (by omega) (by omega))).mp c6
      refine g_iload_n C 2 dX9_tenthsFrom_9 rfl rfl rfl ?_
      refine g_if_lt C dX9_tenthsFrom_10 (tgt := 22) (by decide) (pc' := 13) rfl ?_ ?_
      · intro c10
        replace c10 := (nI_ltI (a := w) (b := 0) (by omega) (by omega)).mp c10
        omega
      · intro c10
        replace c10 := (not_congr (nI_ltI (a := w) (b := 0) (by omega) (by omega))).mp c10
        refine g_iload_n C 2 dX9_tenthsFrom_13 rfl rfl rfl ?_
        refine g_iconst C (v := 3) dX9_tenthsFrom_14 (by decide) rfl ?_
        refine g_icmp_ge C dX9_tenthsFrom_15 (tgt := 22) (by decide) (pc' := 18) rfl ?_ ?_
        · intro c15
          replace c15 := (nI_leI (a := 3) (b := w) (by omega) (by omega)).mp c15
          omega
        · intro c15
          replace c15 := (not_congr (nI_leI (a := 3) (b := w) (by omega) (by omega))).mp c15
          refine g_iconst C (v := 1) dX9_tenthsFrom_18 (by decide) rfl ?_
          refine g_goto C dX9_tenthsFrom_19 (tgt := 23) (by decide) ?_
          refine g_istore_n C ([(3, .int (1)), (0, .ref (a)), (1, .int (nI (v))), (2, .int (nI (w)))]) dX9_tenthsFrom_23 rfl (by decide) rfl rfl ?_
          refine g_iload_n C 0 dX9_tenthsFrom_24 rfl rfl rfl ?_
          refine g_if_eq C dX9_tenthsFrom_25 (tgt := 41) (by decide) (pc' := 28) rfl (fun c25 => absurd c25 (by decide)) (fun _ => ?_)
          refine g_aload_n C 1 dX9_tenthsFrom_28 rfl rfl rfl ?_
          refine gf_9_9 C (hSt.1) (v := .ref (a + 1)) rfl dX9_tenthsFrom_29 rfl ?_
          refine g_iload_n C 2 dX9_tenthsFrom_32 rfl rfl rfl ?_
          refine g_iconst C (v := 3) dX9_tenthsFrom_33 (by decide) rfl ?_
          refine g_imul C dX9_tenthsFrom_34 rfl ?_
          refine g_topi (y := nI (v * 3)) (pk_mul _ _) ?_
          refine g_iload_n C 3 dX9_tenthsFrom_35 rfl rfl rfl ?_
          refine g_iadd C dX9_tenthsFrom_36 rfl ?_
          refine g_topi (y := nI ((v * 3) + w)) (nI_add _ _) ?_
          refine g_iald' C (hSt.2) (j := ((v * 3) + w)) rfl (by omega) (by decide) dX9_tenthsFrom_37 rfl ?_
          refine g_goto C dX9_tenthsFrom_38 (tgt := 42) (by decide) ?_
          exact ret _ _ _ _ dX9_tenthsFrom_42 rfl (⟨rfl, rfl⟩)
def F_fit (sl r : Int32) (w : Nat) : Int32 := if r = -1 then 1 else (if r = nI w then 10 - sl else (if r = nI ((w + 1) % 3) then sl else 0))
set_option maxHeartbeats 4000000 in
set_option maxRecDepth 100000 in
theorem k_X9_fit (l : Launch) (D : va_G) (b z : Nat) {h : qH} {a : Nat} {tn : Nat → Int32} {e : Nat} {sl : Int32} (he : e < 10) (hSt : StAt D h a tn (nI e) sl) (r : Int32) {w : Nat} (hw : w < 3) : qMi l D b yX9_fit cX9_fit 3 .int 0 0 [.ref (a), .int (r), .int (nI (w))] h z (fun r' h' => r' = F_fit sl r w ∧ h' = h) := by
  refine q_i (L := [(0, .ref (a)), (1, .int (r)), (2, .int (nI (w)))]) (own := RX9) (by decide) rfl (Nat.le_of_ble_eq_true rfl) rfl ?_
  intro X C ret
  refine g_iload_n C 1 dX9_fit_0 rfl rfl rfl ?_
  refine g_iconst C (v := -1) dX9_fit_1 (by decide) rfl ?_
  refine g_icmp_ne C dX9_fit_2 (tgt := 7) (by decide) (pc' := 5) rfl ?_ ?_
  · intro c2
    refine g_iload_n C 1 dX9_fit_7 rfl rfl rfl ?_
    refine g_iload_n C 2 dX9_fit_8 rfl rfl rfl ?_
    refine g_icmp_ne C dX9_fit_9 (tgt := 20) (by decide) (pc' := 12) rfl ?_ ?_
    · intro c9
      refine g_iload_n C 1 dX9_fit_20 rfl rfl rfl ?_
      refine g_iload_n C 2 dX9_fit_21 rfl rfl rfl ?_
      refine g_iconst C (v := 1) dX9_fit_22 (by decide) rfl ?_
      refine g_iadd C dX9_fit_23 rfl ?_
      refine g_topi (y := nI (w + 1)) (nI_add _ _) ?_
      refine g_iconst C (v := 3) dX9_fit_24 (by decide) rfl ?_
      refine g_irem C dX9_fit_25 (by decide) rfl ?_
      refine g_topi (y := nI ((w + 1) % 3)) (rem_nI (d := 3) (by omega) (by decide) (by decide)) ?_
      refine g_icmp_ne C dX9_fit_26 (tgt := 36) (by decide) (pc' := 29) rfl ?_ ?_
      · intro c26
        refine g_iconst C (v := 0) dX9_fit_36 (by decide) rfl ?_
        exact ret _ _ _ _ dX9_fit_37 rfl (⟨by simp only [F_fit, if_neg c2, if_neg c9, if_neg c26], rfl⟩)
      · intro c26
        refine g_aload_n C 0 dX9_fit_29 rfl rfl rfl ?_
        refine gf_9_25 C (hSt.1) (v := .int (sl)) rfl dX9_fit_30 rfl ?_
        refine g_goto C dX9_fit_33 (tgt := 37) (by decide) ?_
        exact ret _ _ _ _ dX9_fit_37 rfl (⟨by simp only [F_fit, if_neg c2, if_neg c9, if_pos c26], rfl⟩)
    · intro c9
      refine g_bipush C (v := 10) dX9_fit_12 (by decide) rfl ?_
      refine g_aload_n C 0 dX9_fit_14 rfl rfl rfl ?_
      refine gf_9_25 C (hSt.1) (v := .int (sl)) rfl dX9_fit_15 rfl ?_
      refine g_isub C dX9_fit_18 rfl ?_
      exact ret _ _ _ _ dX9_fit_19 rfl (⟨by simp only [F_fit, if_neg c2, if_pos c9], rfl⟩)
  · intro c2
    refine g_iconst C (v := 1) dX9_fit_5 (by decide) rfl ?_
    exact ret _ _ _ _ dX9_fit_6 rfl (⟨by simp only [F_fit, if_pos c2], rfl⟩)
set_option maxHeartbeats 4000000 in
set_option maxRecDepth 100000 in
theorem k_X9_read (l : Launch) (D : va_G) (b z : Nat) {h : qH} {a : Nat} {tn : Nat → Int32} {e : Nat} {sl : Int32} (he : e < 10) (hSt : StAt D h a tn (nI e) sl) {pg : Nat} {cs : Nat → Int32} {n : Nat} (hn : n ≤ 16) (hn4 : 14 ≤ n) (hPg : PgAt D h pg cs (nI n)) (hdis : pg + 2 ≤ a ∨ a + 2 ≤ pg) : qMv l D b yX9_read cX9_read 4 2 43 [.ref (a), .ref (pg)] h z (fun h' => (∃ tn', StAt D h' a tn' (F_dg (cs 12)) (F_dg (cs 13)) ∧ ∀ i j, i < 3 → j < 3 → tn' (i * 3 + j) = F_dg (cs (i * 4 + j))) ∧ (∀ q, (q < a ∨ a + 2 ≤ q) → h' q = h q)) := by
  refine q_v (L := [(0, .ref (a)), (1, .ref (pg))]) (own := RX9) (by decide) rfl (Nat.le_of_ble_eq_true rfl) rfl ?_
  intro X C ret
  have hO : ∀ q, (q < a ∨ a + 2 ≤ q) → h q = h q := fun _ _ => rfl
  refine g_iconst C (v := 0) dX9_read_0 (by decide) rfl ?_
  refine g_istore_n C ([(2, .int (0)), (0, .ref (a)), (1, .ref (pg))]) dX9_read_1 rfl (by decide) rfl rfl ?_
  have loop2 : ∀ (N : Nat) (v : Nat) (h1 : qH) (tn1 : Nat → Int32), 3 - v < N → (v ≤ 3) → (StAt D h1 a tn1 (nI e) sl) → (PgAt D h1 pg cs (nI n)) → (∀ q, (q < a ∨ a + 2 ≤ q) → h1 q = h q) → (∀ i j, j < 3 → i < v → tn1 (i * 3 + j) = F_dg (cs (i * 4 + j))) → qG X 0 0 z h1 2 [(2, .int (nI (v))), (0, .ref (a)), (1, .ref (pg))] [] := by
    intro N
    induction N with
    | zero => intro v h1 tn1 hm; exact absurd hm (Nat.not_lt_zero _)
    | succ N ih2 =>
      intro v h1 tn1 hm hv hSt hPg hO hT
      refine g_iload_n C 0 dX9_read_2 rfl rfl rfl ?_
      refine g_iconst C (v := 3) dX9_read_3 (by decide) rfl ?_
      refine g_icmp_ge C dX9_read_4 (tgt := 45) (by decide) (pc' := 7) rfl ?_ ?_
      · intro c4
        replace c4 := (nI_leI (a := 3) (b := v) (by omega) (by omega)).mp c4
        refine g_aload_n C 1 dX9_read_45 rfl rfl rfl ?_
        refine g_aload_n C 2 dX9_read_46 rfl rfl rfl ?_
        refine g_bipush C (v := 12) dX9_read_47 (by decide) rfl ?_
        refine g_callVi C (As := [.int (12)]) (q := (RX8, TX8, 2)) (k_X8_digitAt l D b z hn hPg (k := 12) (by omega)) hw_9_21 (hPg.1) rfl (by decide) rfl rfl (Nat.le_of_ble_eq_true rfl) ⟨Nat.zero_le _, Nat.zero_le _⟩ dX9_read_49 (pc' := 52) rfl ?_
        rintro r1 h9 ⟨er, e9⟩
        subst h9; subst er
        refine pf_9_15 C (hSt.1) (v := .int (F_dg (cs (12)))) rfl rfl (Nat.le_of_ble_eq_true rfl) dX9_read_52 (pc' := 55) rfl (fun h2 e3 o4 => ?_)
        have hSt : StAt D h2 (a) (tn1) (F_dg (cs (12))) (sl) := ⟨e3, (o4 _ (by omega)).trans hSt.2⟩
        have hPg : PgAt D h2 (pg) (cs) (nI (n)) := ⟨(o4 _ (by omega)).trans hPg.1, (o4 _ (by omega)).trans hPg.2⟩
        have hO : ∀ q, (q < a ∨ a + 2 ≤ q) → h2 q = h q := fun q hq => (o4 q (by omega)).trans (hO q hq)
        refine g_aload_n C 1 dX9_read_55 rfl rfl rfl ?_
        refine g_aload_n C 2 dX9_read_56 rfl rfl rfl ?_
        refine g_bipush C (v := 13) dX9_read_57 (by decide) rfl ?_
        refine g_callVi C (As := [.int (13)]) (q := (RX8, TX8, 2)) (k_X8_digitAt l D b z hn hPg (k := 13) (by omega)) hw_9_21 (hPg.1) rfl (by decide) rfl rfl (Nat.le_of_ble_eq_true rfl) ⟨Nat.zero_le _, Nat.zero_le _⟩ dX9_read_59 (pc' := 62) rfl ?_
        rintro r5 h9 ⟨er, e9⟩
        subst h9; subst er
        refine pf_9_25 C (hSt.1) (v := .int (F_dg (cs (13)))) rfl rfl (Nat.le_of_ble_eq_true rfl) dX9_read_62 (pc' := 65) rfl (fun h6 e7 o8 => ?_)
        have hSt : StAt D h6 (a) (tn1) (F_dg (cs (12))) (F_dg (cs (13))) := ⟨e7, (o8 _ (by omega)).trans hSt.2⟩
        have hPg : PgAt D h6 (pg) (cs) (nI (n)) := ⟨(o8 _ (by omega)).trans hPg.1, (o8 _ (by omega)).trans hPg.2⟩
        have hO : ∀ q, (q < a ∨ a + 2 ≤ q) → h6 q = h q := fun q hq => (o8 q (by omega)).trans (hO q hq)
        exact ret _ _ _ dX9_read_65 (⟨⟨_, hSt, fun i j hi hj => hT i j hj (by omega)⟩, hO⟩)
      · intro c4
        replace c4 := (not_congr (nI_leI (a := 3) (b := v) (by omega) (by omega))).mp c4
        refine g_iconst C (v := 0) dX9_read_7 (by decide) rfl ?_
        refine g_istore_n C ([(3, .int (0)), (2, .int (nI (v))), (0, .ref (a)), (1, .ref (pg))]) dX9_read_8 rfl (by decide) rfl rfl ?_
        have loop9 : ∀ (N : Nat) (w : Nat) (h2 : qH) (tn2 : Nat → Int32), 3 - w < N → (w ≤ 3) → (StAt D h2 a tn2 (nI e) sl) → (PgAt D h2 pg cs (nI n)) → (∀ q, (q < a ∨ a + 2 ≤ q) → h2 q = h q) → (∀ i j, j < 3 → (i < v ∨ (i = v ∧ j < w)) → tn2 (i * 3 + j) = F_dg (cs (i * 4 + j))) → qG X 0 0 z h2 9 [(3, .int (nI (w))), (2, .int (nI (v))), (0, .ref (a)), (1, .ref (pg))] [] := by
          intro N
          induction N with
          | zero => intro w h2 tn2 hm; exact absurd hm (Nat.not_lt_zero _)
          | succ N ih9 =>
            intro w h2 tn2 hm hw hSt hPg hO hT
            refine g_iload_n C 0 dX9_read_9 rfl rfl rfl ?_
            refine g_iconst C (v := 3) dX9_read_10 (by decide) rfl ?_
            refine g_icmp_ge C dX9_read_11 (tgt := 39) (by decide) (pc' := 14) rfl ?_ ?_
            · intro c11
              replace c11 := (nI_leI (a := 3) (b := w) (by omega) (by omega)).mp c11
              refine g_iinc C (v := nI (v + 1)) 1 ([(2, .int (nI (v + 1))), (3, .int (nI (w))), (0, .ref (a)), (1, .ref (pg))]) dX9_read_39 rfl (nI_1 _) (by decide) rfl rfl ?_
              refine g_goto C dX9_read_42 (tgt := 2) (by decide) ?_
              refine q_lsub [0, 2, 3] (L' := [(2, .int (nI (v + 1))), (0, .ref (a)), (1, .ref (pg))]) rfl ?_
              exact ih2 (v + 1) (h2) (tn2) (by omega) (by omega) (hSt) (hPg) (hO) (fun i j hj g => hT i j hj (by omega))
            · intro c11
              replace c11 := (not_congr (nI_leI (a := 3) (b := w) (by omega) (by omega))).mp c11
              refine g_aload_n C 2 dX9_read_14 rfl rfl rfl ?_
              refine gf_9_9 C (hSt.1) (v := .ref (a + 1)) rfl dX9_read_15 rfl ?_
              refine g_iload_n C 1 dX9_read_18 rfl rfl rfl ?_
              refine g_iconst C (v := 3) dX9_read_19 (by decide) rfl ?_
              refine g_imul C dX9_read_20 rfl ?_
              refine g_topi (y := nI (v * 3)) (pk_mul _ _) ?_
              refine g_iload_n C 0 dX9_read_21 rfl rfl rfl ?_
              refine g_iadd C dX9_read_22 rfl ?_
              refine g_topi (y := nI ((v * 3) + w)) (nI_add _ _) ?_
              refine g_aload_n C 3 dX9_read_23 rfl rfl rfl ?_
              refine g_iload_n C 1 dX9_read_24 rfl rfl rfl ?_
              refine g_iconst C (v := 4) dX9_read_25 (by decide) rfl ?_
              refine g_imul C dX9_read_26 rfl ?_
              refine g_topi (y := nI (v * 4)) (pk_mul _ _) ?_
              refine g_iload_n C 0 dX9_read_27 rfl rfl rfl ?_
              refine g_iadd C dX9_read_28 rfl ?_
              refine g_topi (y := nI ((v * 4) + w)) (nI_add _ _) ?_
              refine g_callVi C (As := [.int (nI (((v * 4) + w)))]) (q := (RX8, TX8, 2)) (k_X8_digitAt l D b z hn hPg (k := ((v * 4) + w)) (by omega)) hw_9_21 (hPg.1) rfl (by decide) rfl rfl (Nat.le_of_ble_eq_true rfl) ⟨Nat.zero_le _, Nat.zero_le _⟩ dX9_read_29 (pc' := 32) rfl ?_
              rintro r9 h9 ⟨er, e9⟩
              subst h9; subst er
              refine g_iast' C (hSt.2) (j := ((v * 3) + w)) rfl (by omega) (by decide) dX9_read_32 (pc' := 33) rfl (fun h10 e11 o12 => ?_)
              have hSt : StAt D h10 (a) (upd (tn2) (((v * 3) + w)) (F_dg (cs (((v * 4) + w))))) (nI (e)) (sl) := ⟨(o12 _ (by omega)).trans hSt.1, e11⟩
              have hPg : PgAt D h10 (pg) (cs) (nI (n)) := ⟨(o12 _ (by omega)).trans hPg.1, (o12 _ (by omega)).trans hPg.2⟩
              have hO : ∀ q, (q < a ∨ a + 2 ≤ q) → h10 q = h q := fun q hq => (o12 q (by omega)).trans (hO q hq)
              refine g_iinc C (v := nI (w + 1)) 0 ([(3, .int (nI (w + 1))), (2, .int (nI (v))), (0, .ref (a)), (1, .ref (pg))]) dX9_read_33 rfl (nI_1 _) (by decide) rfl rfl ?_
              refine g_goto C dX9_read_36 (tgt := 9) (by decide) ?_
              exact ih9 (w + 1) (h10) (upd (tn2) (((v * 3) + w)) (F_dg (cs (((v * 4) + w))))) (by omega) (by omega) (hSt) (hPg) (hO) (fun i j hj g => by by_cases e1 : i = v ∧ j = w; (obtain ⟨rfl, rfl⟩ := e1; exact pk_us); exact (pk_un (by omega)).trans (hT i j hj (by omega)))
        exact loop9 _ (0) (h1) (tn1) (Nat.lt_succ_self _) (by omega) (hSt) (hPg) (hO) (fun i j hj g => hT i j hj (by omega))
  exact loop2 _ (0) (h) (tn) (Nat.lt_succ_self _) (by omega) (hSt) (hPg) (hO) (fun i j hj g => absurd g (Nat.not_lt_zero _))
set_option maxHeartbeats 4000000 in
set_option maxRecDepth 100000 in
theorem k_X0_append (l : Launch) (D : va_G) (b z : Nat) {h : qH} {a : Nat} {ws rs : Nat → Int32} {n : Nat} (hn : n ≤ 12) (hBk : BkAt D h a ws rs (nI n)) (x y : Int32) : qMi l D b yX0_append cX0_append 3 .boolean 0 0 [.ref (a), .int (x), .int (y)] h z (fun r h' => (n < 12 ∧ r = 1 ∧ BkAt D h' a (upd ws n x) (upd rs n y) (nI (n + 1)) ∧ (∀ q, (q < a ∨ a + 3 ≤ q) → h' q = h q)) ∨ (n = 12 ∧ r = 0 ∧ h' = h)) := by
  refine q_i (L := [(0, .ref (a)), (1, .int (x)), (2, .int (y))]) (own := RX0) (by decide) rfl (Nat.le_of_ble_eq_true rfl) rfl ?_
  intro X C ret
  have hO : ∀ q, (q < a ∨ a + 3 ≤ q) → h q = h q := fun _ _ => rfl
  refine g_aload_n C 0 dX0_append_0 rfl rfl rfl ?_
  refine gf_0_18 C (hBk.1) (v := .int (nI (n))) rfl dX0_append_1 rfl ?_
  refine g_if_lt C dX0_append_4 (tgt := 16) (by decide) (pc' := 7) rfl ?_ ?_
  · intro c4
    replace c4 := (nI_ltI (a := n) (b := 0) (by omega) (by omega)).mp c4
    omega
  · intro c4
    replace c4 := (not_congr (nI_ltI (a := n) (b := 0) (by omega) (by omega))).mp c4
    refine g_aload_n C 0 dX0_append_7 rfl rfl rfl ?_
    refine gf_0_18 C (hBk.1) (v := .int (nI (n))) rfl dX0_append_8 rfl ?_
    refine g_bipush C (v := 12) dX0_append_11 (by decide) rfl ?_
    refine g_icmp_lt C dX0_append_13 (tgt := 18) (by decide) (pc' := 16) rfl ?_ ?_
    · intro c13
      replace c13 := (nI_ltI (a := n) (b := 12) (by omega) (by omega)).mp c13
      refine g_aload_n C 0 dX0_append_18 rfl rfl rfl ?_
      refine gf_0_11 C (hBk.1) (v := .ref (a + 1)) rfl dX0_append_19 rfl ?_
      refine g_aload_n C 0 dX0_append_22 rfl rfl rfl ?_
      refine gf_0_18 C (hBk.1) (v := .int (nI (n))) rfl dX0_append_23 rfl ?_
      refine g_iload_n C 1 dX0_append_26 rfl rfl rfl ?_
      refine g_iast' C (hBk.2.1) (j := n) rfl (by omega) (by decide) dX0_append_27 (pc' := 28) rfl (fun h1 e2 o3 => ?_)
      have hBk : BkAt D h1 (a) (upd (ws) (n) (x)) (rs) (nI (n)) := ⟨(o3 _ (by omega)).trans hBk.1, e2, (o3 _ (by omega)).trans hBk.2.2⟩
      have hO : ∀ q, (q < a ∨ a + 3 ≤ q) → h1 q = h q := fun q hq => (o3 q (by omega)).trans (hO q hq)
      refine g_aload_n C 0 dX0_append_28 rfl rfl rfl ?_
      refine gf_0_15 C (hBk.1) (v := .ref (a + 2)) rfl dX0_append_29 rfl ?_
      refine g_aload_n C 0 dX0_append_32 rfl rfl rfl ?_
      refine gf_0_18 C (hBk.1) (v := .int (nI (n))) rfl dX0_append_33 rfl ?_
      refine g_iload_n C 2 dX0_append_36 rfl rfl rfl ?_
      refine g_iast' C (hBk.2.2) (j := n) rfl (by omega) (by decide) dX0_append_37 (pc' := 38) rfl (fun h4 e5 o6 => ?_)
      have hBk : BkAt D h4 (a) (upd (ws) (n) (x)) (upd (rs) (n) (y)) (nI (n)) := ⟨(o6 _ (by omega)).trans hBk.1, (o6 _ (by omega)).trans hBk.2.1, e5⟩
      have hO : ∀ q, (q < a ∨ a + 3 ≤ q) → h4 q = h q := fun q hq => (o6 q (by omega)).trans (hO q hq)
      refine g_aload_n C 0 dX0_append_38 rfl rfl rfl ?_
      refine g_dup C rfl dX0_append_39 rfl ?_
      refine gf_0_18 C (hBk.1) (v := .int (nI (n))) rfl dX0_append_40 rfl ?_
      refine g_iconst C (v := 1) dX0_append_43 (by decide) rfl ?_
      refine g_iadd C dX0_append_44 rfl ?_
      refine g_topi (y := nI (n + 1)) (nI_add _ _) ?_
      refine pf_0_18 C (hBk.1) (v := .int (nI ((n + 1)))) rfl rfl (Nat.le_of_ble_eq_true rfl) dX0_append_45 (pc' := 48) rfl (fun h7 e8 o9 => ?_)
      have hBk : BkAt D h7 (a) (upd (ws) (n) (x)) (upd (rs) (n) (y)) (nI ((n + 1))) := ⟨e8, (o9 _ (by omega)).trans hBk.2.1, (o9 _ (by omega)).trans hBk.2.2⟩
      have hO : ∀ q, (q < a ∨ a + 3 ≤ q) → h7 q = h q := fun q hq => (o9 q (by omega)).trans (hO q hq)
      refine g_iconst C (v := 1) dX0_append_48 (by decide) rfl ?_
      exact ret _ _ _ _ dX0_append_49 rfl (Or.inl ⟨by omega, rfl, hBk, hO⟩)
    · intro c13
      replace c13 := (not_congr (nI_ltI (a := n) (b := 12) (by omega) (by omega))).mp c13
      refine g_iconst C (v := 0) dX0_append_16 (by decide) rfl ?_
      exact ret _ _ _ _ dX0_append_17 rfl (Or.inr ⟨by omega, rfl, rfl⟩)
set_option maxHeartbeats 4000000 in
set_option maxRecDepth 100000 in
theorem k_X0_isSeen (l : Launch) (D : va_G) (b z : Nat) {h : qH} {a : Nat} {ws rs : Nat → Int32} {n : Nat} (hn : n ≤ 12) (hBk : BkAt D h a ws rs (nI n)) {i y : Nat} (hi : i < 12) (hy : y ≤ 4) : qMi l D b yX0_isSeen cX0_isSeen 3 .boolean 0 0 [.ref (a), .int (nI (i)), .int (nI (y))] h z (fun r h' => ((r = 1 ∧ (i + y < n ∧ ¬ rs i = -1)) ∨ (r = 0 ∧ ¬ (i + y < n ∧ ¬ rs i = -1))) ∧ h' = h) := by
  refine q_i (L := [(0, .ref (a)), (1, .int (nI (i))), (2, .int (nI (y)))]) (own := RX0) (by decide) rfl (Nat.le_of_ble_eq_true rfl) rfl ?_
  intro X C ret
  refine g_iload_n C 1 dX0_isSeen_0 rfl rfl rfl ?_
  refine g_if_lt C dX0_isSeen_1 (tgt := 34) (by decide) (pc' := 4) rfl ?_ ?_
  · intro c1
    replace c1 := (nI_ltI (a := i) (b := 0) (by omega) (by omega)).mp c1
    omega
  · intro c1
    replace c1 := (not_congr (nI_ltI (a := i) (b := 0) (by omega) (by omega))).mp c1
    refine g_iload_n C 1 dX0_isSeen_4 rfl rfl rfl ?_
    refine g_bipush C (v := 12) dX0_isSeen_5 (by decide) rfl ?_
    refine g_icmp_ge C dX0_isSeen_7 (tgt := 34) (by decide) (pc' := 10) rfl ?_ ?_
    · intro c7
      replace c7 := (nI_leI (a := 12) (b := i) (by omega) (by omega)).mp c7
      refine g_iconst C (v := 0) dX0_isSeen_34 (by decide) rfl ?_
      exact ret _ _ _ _ dX0_isSeen_35 rfl ((by first | exact ⟨Or.inl ⟨rfl, by omega, by assumption⟩, rfl⟩ | exact ⟨Or.inr ⟨rfl, fun g => absurd g.1 (by omega)⟩, rfl⟩ | exact ⟨Or.inr ⟨rfl, fun g => g.2 (by assumption)⟩, rfl⟩))
    · intro c7
      replace c7 := (not_congr (nI_leI (a := 12) (b := i) (by omega) (by omega))).mp c7
      refine g_iload_n C 1 dX0_isSeen_10 rfl rfl rfl ?_
      refine g_iload_n C 2 dX0_isSeen_11 rfl rfl rfl ?_
      refine g_iadd C dX0_isSeen_12 rfl ?_
      refine g_topi (y := nI (i + y)) (nI_add _ _) ?_
      refine g_aload_n C 0 dX0_isSeen_13 rfl rfl rfl ?_
      refine gf_0_18 C (hBk.1) (v := .int (nI (n))) rfl dX0_isSeen_14 rfl ?_
      refine g_icmp_ge C dX0_isSeen_17 (tgt := 34) (by decide) (pc' := 20) rfl ?_ ?_
      · intro c17
        replace c17 := (nI_leI (a := n) (b := (i + y)) (by omega) (by omega)).mp c17
        refine g_iconst C (v := 0) dX0_isSeen_34 (by decide) rfl ?_
        exact ret _ _ _ _ dX0_isSeen_35 rfl ((by first | exact ⟨Or.inl ⟨rfl, by omega, by assumption⟩, rfl⟩ | exact ⟨Or.inr ⟨rfl, fun g => absurd g.1 (by omega)⟩, rfl⟩ | exact ⟨Or.inr ⟨rfl, fun g => g.2 (by assumption)⟩, rfl⟩))
      · intro c17
        replace c17 := (not_congr (nI_leI (a := n) (b := (i + y)) (by omega) (by omega))).mp c17
        refine g_aload_n C 0 dX0_isSeen_20 rfl rfl rfl ?_
        refine gf_0_15 C (hBk.1) (v := .ref (a + 2)) rfl dX0_isSeen_21 rfl ?_
        refine g_iload_n C 1 dX0_isSeen_24 rfl rfl rfl ?_
        refine g_iald' C (hBk.2.2) (j := i) rfl (by omega) (by decide) dX0_isSeen_25 rfl ?_
        refine g_iconst C (v := -1) dX0_isSeen_26 (by decide) rfl ?_
        refine g_icmp_eq C dX0_isSeen_27 (tgt := 34) (by decide) (pc' := 30) rfl ?_ ?_
        · intro c27
          refine g_iconst C (v := 0) dX0_isSeen_34 (by decide) rfl ?_
          exact ret _ _ _ _ dX0_isSeen_35 rfl ((by first | exact ⟨Or.inl ⟨rfl, by omega, by assumption⟩, rfl⟩ | exact ⟨Or.inr ⟨rfl, fun g => absurd g.1 (by omega)⟩, rfl⟩ | exact ⟨Or.inr ⟨rfl, fun g => g.2 (by assumption)⟩, rfl⟩))
        · intro c27
          refine g_iconst C (v := 1) dX0_isSeen_30 (by decide) rfl ?_
          refine g_goto C dX0_isSeen_31 (tgt := 35) (by decide) ?_
          exact ret _ _ _ _ dX0_isSeen_35 rfl ((by first | exact ⟨Or.inl ⟨rfl, by omega, by assumption⟩, rfl⟩ | exact ⟨Or.inr ⟨rfl, fun g => absurd g.1 (by omega)⟩, rfl⟩ | exact ⟨Or.inr ⟨rfl, fun g => g.2 (by assumption)⟩, rfl⟩))
def seenC (rs : Nat → Int32) (n y : Nat) : Nat → Nat
  | 0 => 0
  | i + 1 => seenC rs n y i + (if i + y < n ∧ ¬ rs i = -1 then 1 else 0)
def wrongC (ws rs : Nat → Int32) (n y : Nat) : Nat → Nat
  | 0 => 0
  | i + 1 => wrongC ws rs n y i + (if (i + y < n ∧ ¬ rs i = -1) ∧ ¬ rs i = ws (i + y) then 1 else 0)
theorem seenC_le (rs : Nat → Int32) (n y : Nat) : ∀ i, seenC rs n y i ≤ i
  | 0 => Nat.le_refl _
  | i + 1 => by have := seenC_le rs n y i; unfold seenC; split <;> omega
theorem wrongC_le (ws rs : Nat → Int32) (n y : Nat) : ∀ i, wrongC ws rs n y i ≤ i
  | 0 => Nat.le_refl _
  | i + 1 => by have := wrongC_le ws rs n y i; unfold wrongC; split <;> omega
set_option maxHeartbeats 4000000 in
set_option maxRecDepth 100000 in
theorem k_X0_readingsSeen (l : Launch) (D : va_G) (b z : Nat) {h : qH} {a : Nat} {ws rs : Nat → Int32} {n : Nat} (hn : n ≤ 12) (hBk : BkAt D h a ws rs (nI n)) {y : Nat} (hy : y ≤ 4) : qMi l D b yX0_readingsSeen cX0_readingsSeen 4 .int 1 22 [.ref (a), .int (nI (y))] h z (fun r h' => r = nI (seenC rs n y 12) ∧ h' = h) := by
  refine q_i (L := [(0, .ref (a)), (1, .int (nI (y)))]) (own := RX0) (by decide) rfl (Nat.le_of_ble_eq_true rfl) rfl ?_
  intro X C ret
  refine g_iconst C (v := 0) dX0_readingsSeen_0 (by decide) rfl ?_
  refine g_istore_n C ([(2, .int (0)), (0, .ref (a)), (1, .int (nI (y)))]) dX0_readingsSeen_1 rfl (by decide) rfl rfl ?_
  refine g_iconst C (v := 0) dX0_readingsSeen_2 (by decide) rfl ?_
  refine g_istore_n C ([(3, .int (0)), (2, .int (0)), (0, .ref (a)), (1, .int (nI (y)))]) dX0_readingsSeen_3 rfl (by decide) rfl rfl ?_
  have loop4 : ∀ (N : Nat) (i : Nat) (s : Int32), 12 - i < N → (i ≤ 12) → (s = nI (seenC rs n y i)) → qG X 0 0 z h 4 [(3, .int (nI (i))), (2, .int (s)), (0, .ref (a)), (1, .int (nI (y)))] [] := by
    intro N
    induction N with
    | zero => intro i s hm; exact absurd hm (Nat.not_lt_zero _)
    | succ N ih4 =>
      intro i s hm hi hs
      refine g_iload_n C 0 dX0_readingsSeen_4 rfl rfl rfl ?_
      refine g_bipush C (v := 12) dX0_readingsSeen_5 (by decide) rfl ?_
      refine g_icmp_ge C dX0_readingsSeen_7 (tgt := 33) (by decide) (pc' := 10) rfl ?_ ?_
      · intro c7
        replace c7 := (nI_leI (a := 12) (b := i) (by omega) (by omega)).mp c7
        refine g_iload_n C 1 dX0_readingsSeen_33 rfl rfl rfl ?_
        exact ret _ _ _ _ dX0_readingsSeen_34 rfl (⟨by rw [hs, (by omega : i = 12)], rfl⟩)
      · intro c7
        replace c7 := (not_congr (nI_leI (a := 12) (b := i) (by omega) (by omega))).mp c7
        refine g_iload_n C 1 dX0_readingsSeen_10 rfl rfl rfl ?_
        refine g_aload_n C 2 dX0_readingsSeen_11 rfl rfl rfl ?_
        refine g_iload_n C 0 dX0_readingsSeen_12 rfl rfl rfl ?_
        refine g_iload_n C 3 dX0_readingsSeen_13 rfl rfl rfl ?_
        refine g_callVi C (As := [.int (nI (i)), .int (nI (y))]) (q := (RX0, TX0, 3)) (k_X0_isSeen l D b z hn hBk (i := i) (y := y) (by omega) (by omega)) hw_0_22 (hBk.1) rfl (by decide) rfl rfl (Nat.le_of_ble_eq_true rfl) ⟨Nat.zero_le _, Nat.zero_le _⟩ dX0_readingsSeen_14 (pc' := 17) rfl ?_
        rintro r1 h9 ⟨⟨er, hp14⟩ | ⟨er, hp14⟩, e9⟩
        · subst h9; subst er
          refine g_if_eq C dX0_readingsSeen_17 (tgt := 24) (by decide) (pc' := 20) rfl (fun c17 => absurd c17 (by decide)) (fun _ => ?_)
          refine g_iconst C (v := 1) dX0_readingsSeen_20 (by decide) rfl ?_
          refine g_goto C dX0_readingsSeen_21 (tgt := 25) (by decide) ?_
          refine g_iadd C dX0_readingsSeen_25 rfl ?_
          refine g_istore_n C ([(2, .int ((s) + (1))), (3, .int (nI (i))), (0, .ref (a)), (1, .int (nI (y)))]) dX0_readingsSeen_26 rfl (by decide) rfl rfl ?_
          refine g_iinc C (v := nI (i + 1)) 1 ([(3, .int (nI (i + 1))), (2, .int ((s) + (1))), (0, .ref (a)), (1, .int (nI (y)))]) dX0_readingsSeen_27 rfl (nI_1 _) (by decide) rfl rfl ?_
          refine g_goto C dX0_readingsSeen_30 (tgt := 4) (by decide) ?_
          exact ih4 (i + 1) ((s) + (1)) (by omega) (by omega) (by rw [hs]; simp only [seenC, if_neg c7, if_pos hp14]; exact nI_add _ _)
        · subst h9; subst er
          refine g_if_eq C dX0_readingsSeen_17 (tgt := 24) (by decide) (pc' := 20) rfl (fun _ => ?_) (fun c17 => absurd (by decide) c17)
          refine g_iconst C (v := 0) dX0_readingsSeen_24 (by decide) rfl ?_
          refine g_iadd C dX0_readingsSeen_25 rfl ?_
          refine g_istore_n C ([(2, .int ((s) + (0))), (3, .int (nI (i))), (0, .ref (a)), (1, .int (nI (y)))]) dX0_readingsSeen_26 rfl (by decide) rfl rfl ?_
          refine g_iinc C (v := nI (i + 1)) 1 ([(3, .int (nI (i + 1))), (2, .int ((s) + (0))), (0, .ref (a)), (1, .int (nI (y)))]) dX0_readingsSeen_27 rfl (nI_1 _) (by decide) rfl rfl ?_
          refine g_goto C dX0_readingsSeen_30 (tgt := 4) (by decide) ?_
          exact ih4 (i + 1) ((s) + (0)) (by omega) (by omega) (by rw [hs]; simp only [seenC, if_neg c7, if_neg hp14]; exact nI_add _ _)
  exact loop4 _ (0) (0) (Nat.lt_succ_self _) (by omega) (rfl)
set_option maxHeartbeats 4000000 in
set_option maxRecDepth 100000 in
theorem k_X0_wrongReadings (l : Launch) (D : va_G) (b z : Nat) {h : qH} {a : Nat} {ws rs : Nat → Int32} {n : Nat} (hn : n ≤ 12) (hBk : BkAt D h a ws rs (nI n)) {y : Nat} (hy : y ≤ 4) : qMi l D b yX0_wrongReadings cX0_wrongReadings 5 .int 1 22 [.ref (a), .int (nI (y))] h z (fun r h' => r = nI (wrongC ws rs n y 12) ∧ h' = h) := by
  refine q_i (L := [(0, .ref (a)), (1, .int (nI (y)))]) (own := RX0) (by decide) rfl (Nat.le_of_ble_eq_true rfl) rfl ?_
  intro X C ret
  refine g_iconst C (v := 0) dX0_wrongReadings_0 (by decide) rfl ?_
  refine g_istore_n C ([(2, .int (0)), (0, .ref (a)), (1, .int (nI (y)))]) dX0_wrongReadings_1 rfl (by decide) rfl rfl ?_
  refine g_iconst C (v := 0) dX0_wrongReadings_2 (by decide) rfl ?_
  refine g_istore_n C ([(3, .int (0)), (2, .int (0)), (0, .ref (a)), (1, .int (nI (y)))]) dX0_wrongReadings_3 rfl (by decide) rfl rfl ?_
  have loop4 : ∀ (N : Nat) (i : Nat) (s : Int32), 12 - i < N → (i ≤ 12) → (s = nI (wrongC ws rs n y i)) → qG X 0 0 z h 4 [(3, .int (nI (i))), (2, .int (s)), (0, .ref (a)), (1, .int (nI (y)))] [] := by
    intro N
    induction N with
    | zero => intro i s hm; exact absurd hm (Nat.not_lt_zero _)
    | succ N ih4 =>
      intro i s hm hi hs
      refine g_iload_n C 0 dX0_wrongReadings_4 rfl rfl rfl ?_
      refine g_bipush C (v := 12) dX0_wrongReadings_5 (by decide) rfl ?_
      refine g_icmp_ge C dX0_wrongReadings_7 (tgt := 61) (by decide) (pc' := 10) rfl ?_ ?_
      · intro c7
        replace c7 := (nI_leI (a := 12) (b := i) (by omega) (by omega)).mp c7
        refine g_iload_n C 1 dX0_wrongReadings_61 rfl rfl rfl ?_
        exact ret _ _ _ _ dX0_wrongReadings_62 rfl (⟨by rw [hs, (by omega : i = 12)], rfl⟩)
      · intro c7
        replace c7 := (not_congr (nI_leI (a := 12) (b := i) (by omega) (by omega))).mp c7
        refine g_iload_n C 0 dX0_wrongReadings_10 rfl rfl rfl ?_
        refine g_iload_n C 3 dX0_wrongReadings_11 rfl rfl rfl ?_
        refine g_iadd C dX0_wrongReadings_12 rfl ?_
        refine g_topi (y := nI (i + y)) (nI_add _ _) ?_
        refine g_istore C ([(4, .int (nI ((i + y)))), (3, .int (nI (i))), (2, .int (s)), (0, .ref (a)), (1, .int (nI (y)))]) dX0_wrongReadings_13 (by decide) rfl rfl ?_
        refine g_aload_n C 3 dX0_wrongReadings_15 rfl rfl rfl ?_
        refine g_iload_n C 1 dX0_wrongReadings_16 rfl rfl rfl ?_
        refine g_iload_n C 4 dX0_wrongReadings_17 rfl rfl rfl ?_
        refine g_callVi C (As := [.int (nI (i)), .int (nI (y))]) (q := (RX0, TX0, 3)) (k_X0_isSeen l D b z hn hBk (i := i) (y := y) (by omega) (by omega)) hw_0_22 (hBk.1) rfl (by decide) rfl rfl (Nat.le_of_ble_eq_true rfl) ⟨Nat.zero_le _, Nat.zero_le _⟩ dX0_wrongReadings_18 (pc' := 21) rfl ?_
        rintro r1 h9 ⟨⟨er, hp18⟩ | ⟨er, hp18⟩, e9⟩
        · subst h9; subst er
          refine g_if_eq C dX0_wrongReadings_21 (tgt := 55) (by decide) (pc' := 24) rfl (fun c21 => absurd c21 (by decide)) (fun _ => ?_)
          refine g_iload C 0 dX0_wrongReadings_24 rfl rfl ?_
          refine g_if_lt C dX0_wrongReadings_26 (tgt := 55) (by decide) (pc' := 29) rfl ?_ ?_
          · intro c26
            replace c26 := (nI_ltI (a := (i + y)) (b := 0) (by omega) (by omega)).mp c26
            omega
          · intro c26
            replace c26 := (not_congr (nI_ltI (a := (i + y)) (b := 0) (by omega) (by omega))).mp c26
            refine g_iload C 0 dX0_wrongReadings_29 rfl rfl ?_
            refine g_bipush C (v := 12) dX0_wrongReadings_31 (by decide) rfl ?_
            refine g_icmp_ge C dX0_wrongReadings_33 (tgt := 55) (by decide) (pc' := 36) rfl ?_ ?_
            · intro c33
              replace c33 := (nI_leI (a := 12) (b := (i + y)) (by omega) (by omega)).mp c33
              omega
            · intro c33
              replace c33 := (not_congr (nI_leI (a := 12) (b := (i + y)) (by omega) (by omega))).mp c33
              refine g_aload_n C 3 dX0_wrongReadings_36 rfl rfl rfl ?_
              refine gf_0_15 C (hBk.1) (v := .ref (a + 2)) rfl dX0_wrongReadings_37 rfl ?_
              refine g_iload_n C 1 dX0_wrongReadings_40 rfl rfl rfl ?_
              refine g_iald' C (hBk.2.2) (j := i) rfl (by omega) (by decide) dX0_wrongReadings_41 rfl ?_
              refine g_aload_n C 3 dX0_wrongReadings_42 rfl rfl rfl ?_
              refine gf_0_11 C (hBk.1) (v := .ref (a + 1)) rfl dX0_wrongReadings_43 rfl ?_
              refine g_iload C 0 dX0_wrongReadings_46 rfl rfl ?_
              refine g_iald' C (hBk.2.1) (j := (i + y)) rfl (by omega) (by decide) dX0_wrongReadings_48 rfl ?_
              refine g_icmp_eq C dX0_wrongReadings_49 (tgt := 55) (by decide) (pc' := 52) rfl ?_ ?_
              · intro c49
                refine g_iinc C (v := nI (i + 1)) 1 ([(3, .int (nI (i + 1))), (4, .int (nI ((i + y)))), (2, .int (s)), (0, .ref (a)), (1, .int (nI (y)))]) dX0_wrongReadings_55 rfl (nI_1 _) (by decide) rfl rfl ?_
                refine g_goto C dX0_wrongReadings_58 (tgt := 4) (by decide) ?_
                refine q_lsub [0, 2, 3, 4] (L' := [(3, .int (nI (i + 1))), (2, .int (s)), (0, .ref (a)), (1, .int (nI (y)))]) rfl ?_
                exact ih4 (i + 1) (s) (by omega) (by omega) (by rw [hs]; simp only [wrongC, if_neg (show ¬ ((i + y < n ∧ ¬ rs i = -1) ∧ ¬ rs i = ws (i + y)) from fun g => g.2 c49)]; exact rfl)
              · intro c49
                refine g_iinc C (v := s + Int32.ofInt (1)) 2 ([(2, .int (s + Int32.ofInt (1))), (4, .int (nI ((i + y)))), (3, .int (nI (i))), (0, .ref (a)), (1, .int (nI (y)))]) dX0_wrongReadings_52 rfl rfl (by decide) rfl rfl ?_
                refine g_iinc C (v := nI (i + 1)) 2 ([(3, .int (nI (i + 1))), (2, .int (s + Int32.ofInt (1))), (4, .int (nI ((i + y)))), (0, .ref (a)), (1, .int (nI (y)))]) dX0_wrongReadings_55 rfl (nI_1 _) (by decide) rfl rfl ?_
                refine g_goto C dX0_wrongReadings_58 (tgt := 4) (by decide) ?_
                refine q_lsub [0, 1, 3, 4] (L' := [(3, .int (nI (i + 1))), (2, .int (s + Int32.ofInt (1))), (0, .ref (a)), (1, .int (nI (y)))]) rfl ?_
                exact ih4 (i + 1) (s + Int32.ofInt (1)) (by omega) (by omega) (by rw [hs]; simp only [wrongC, if_pos (show ((i + y < n ∧ ¬ rs i = -1) ∧ ¬ rs i = ws (i + y)) from And.intro hp18 c49)]; exact nI_1 _)
        · subst h9; subst er
          refine g_if_eq C dX0_wrongReadings_21 (tgt := 55) (by decide) (pc' := 24) rfl (fun _ => ?_) (fun c21 => absurd (by decide) c21)
          refine g_iinc C (v := nI (i + 1)) 1 ([(3, .int (nI (i + 1))), (4, .int (nI ((i + y)))), (2, .int (s)), (0, .ref (a)), (1, .int (nI (y)))]) dX0_wrongReadings_55 rfl (nI_1 _) (by decide) rfl rfl ?_
          refine g_goto C dX0_wrongReadings_58 (tgt := 4) (by decide) ?_
          refine q_lsub [0, 2, 3, 4] (L' := [(3, .int (nI (i + 1))), (2, .int (s)), (0, .ref (a)), (1, .int (nI (y)))]) rfl ?_
          exact ih4 (i + 1) (s) (by omega) (by omega) (by rw [hs]; simp only [wrongC, if_neg (show ¬ ((i + y < n ∧ ¬ rs i = -1) ∧ ¬ rs i = ws (i + y)) from fun g => hp18 g.1)]; exact rfl)
  exact loop4 _ (0) (0) (Nat.lt_succ_self _) (by omega) (rfl)
set_option maxHeartbeats 4000000 in
set_option maxRecDepth 100000 in
theorem k_X0_copyFrom (l : Launch) (D : va_G) (b z : Nat) {h : qH} {a o : Nat} {ws rs ows ors : Nat → Int32} {n m : Int32} (hBk : BkAt D h a ws rs n) (hOb : BkAt D h o ows ors m) (hdis : o + 3 ≤ a ∨ a + 3 ≤ o) : qMv l D b yX0_copyFrom cX0_copyFrom 3 0 0 [.ref (a), .ref (o)] h z (fun h' => (∃ w2 r2, BkAt D h' a w2 r2 m ∧ (∀ j, j < 12 → w2 j = ows j) ∧ (∀ j, j < 12 → r2 j = ors j)) ∧ (∀ q, (q < a ∨ a + 3 ≤ q) → h' q = h q)) := by
  refine q_v (L := [(0, .ref (a)), (1, .ref (o))]) (own := RX0) (by decide) rfl (Nat.le_of_ble_eq_true rfl) rfl ?_
  intro X C ret
  have hO : ∀ q, (q < a ∨ a + 3 ≤ q) → h q = h q := fun _ _ => rfl
  refine g_aload_n C 0 dX0_copyFrom_0 rfl rfl rfl ?_
  refine g_aload_n C 1 dX0_copyFrom_1 rfl rfl rfl ?_
  refine gf_0_18 C (hOb.1) (v := .int (m)) rfl dX0_copyFrom_2 rfl ?_
  refine pf_0_18 C (hBk.1) (v := .int (m)) rfl rfl (Nat.le_of_ble_eq_true rfl) dX0_copyFrom_5 (pc' := 8) rfl (fun h1 e2 o3 => ?_)
  have hBk : BkAt D h1 (a) (ws) (rs) (m) := ⟨e2, (o3 _ (by omega)).trans hBk.2.1, (o3 _ (by omega)).trans hBk.2.2⟩
  have hOb : BkAt D h1 (o) (ows) (ors) (m) := ⟨(o3 _ (by omega)).trans hOb.1, (o3 _ (by omega)).trans hOb.2.1, (o3 _ (by omega)).trans hOb.2.2⟩
  have hO : ∀ q, (q < a ∨ a + 3 ≤ q) → h1 q = h q := fun q hq => (o3 q (by omega)).trans (hO q hq)
  refine g_iconst C (v := 0) dX0_copyFrom_8 (by decide) rfl ?_
  refine g_istore_n C ([(2, .int (0)), (0, .ref (a)), (1, .ref (o))]) dX0_copyFrom_9 rfl (by decide) rfl rfl ?_
  have loop10 : ∀ (N : Nat) (i : Nat) (h2 : qH) (w2 : Nat → Int32) (r2 : Nat → Int32), 12 - i < N → (i ≤ 12) → (BkAt D h2 a w2 r2 m) → (BkAt D h2 o ows ors m) → (∀ q, (q < a ∨ a + 3 ≤ q) → h2 q = h q) → (∀ j, j < i → w2 j = ows j) → (∀ j, j < i → r2 j = ors j) → qG X 0 0 z h2 10 [(2, .int (nI (i))), (0, .ref (a)), (1, .ref (o))] [] := by
    intro N
    induction N with
    | zero => intro i h2 w2 r2 hm; exact absurd hm (Nat.not_lt_zero _)
    | succ N ih10 =>
      intro i h2 w2 r2 hm hi hBk hOb hO hw hr
      refine g_iload_n C 0 dX0_copyFrom_10 rfl rfl rfl ?_
      refine g_bipush C (v := 12) dX0_copyFrom_11 (by decide) rfl ?_
      refine g_icmp_ge C dX0_copyFrom_13 (tgt := 46) (by decide) (pc' := 16) rfl ?_ ?_
      · intro c13
        replace c13 := (nI_leI (a := 12) (b := i) (by omega) (by omega)).mp c13
        exact ret _ _ _ dX0_copyFrom_46 (⟨⟨_, _, hBk, fun j g => hw j (by omega), fun j g => hr j (by omega)⟩, hO⟩)
      · intro c13
        replace c13 := (not_congr (nI_leI (a := 12) (b := i) (by omega) (by omega))).mp c13
        refine g_aload_n C 1 dX0_copyFrom_16 rfl rfl rfl ?_
        refine gf_0_11 C (hBk.1) (v := .ref (a + 1)) rfl dX0_copyFrom_17 rfl ?_
        refine g_iload_n C 0 dX0_copyFrom_20 rfl rfl rfl ?_
        refine g_aload_n C 2 dX0_copyFrom_21 rfl rfl rfl ?_
        refine gf_0_11 C (hOb.1) (v := .ref (o + 1)) rfl dX0_copyFrom_22 rfl ?_
        refine g_iload_n C 0 dX0_copyFrom_25 rfl rfl rfl ?_
        refine g_iald' C (hOb.2.1) (j := i) rfl (by omega) (by decide) dX0_copyFrom_26 rfl ?_
        refine g_iast' C (hBk.2.1) (j := i) rfl (by omega) (by decide) dX0_copyFrom_27 (pc' := 28) rfl (fun h4 e5 o6 => ?_)
        have hBk : BkAt D h4 (a) (upd (w2) (i) (ows (i))) (r2) (m) := ⟨(o6 _ (by omega)).trans hBk.1, e5, (o6 _ (by omega)).trans hBk.2.2⟩
        have hOb : BkAt D h4 (o) (ows) (ors) (m) := ⟨(o6 _ (by omega)).trans hOb.1, (o6 _ (by omega)).trans hOb.2.1, (o6 _ (by omega)).trans hOb.2.2⟩
        have hO : ∀ q, (q < a ∨ a + 3 ≤ q) → h4 q = h q := fun q hq => (o6 q (by omega)).trans (hO q hq)
        refine g_aload_n C 1 dX0_copyFrom_28 rfl rfl rfl ?_
        refine gf_0_15 C (hBk.1) (v := .ref (a + 2)) rfl dX0_copyFrom_29 rfl ?_
        refine g_iload_n C 0 dX0_copyFrom_32 rfl rfl rfl ?_
        refine g_aload_n C 2 dX0_copyFrom_33 rfl rfl rfl ?_
        refine gf_0_15 C (hOb.1) (v := .ref (o + 2)) rfl dX0_copyFrom_34 rfl ?_
        refine g_iload_n C 0 dX0_copyFrom_37 rfl rfl rfl ?_
        refine g_iald' C (hOb.2.2) (j := i) rfl (by omega) (by decide) dX0_copyFrom_38 rfl ?_
        refine g_iast' C (hBk.2.2) (j := i) rfl (by omega) (by decide) dX0_copyFrom_39 (pc' := 40) rfl (fun h7 e8 o9 => ?_)
        have hBk : BkAt D h7 (a) (upd (w2) (i) (ows (i))) (upd (r2) (i) (ors (i))) (m) := ⟨(o9 _ (by omega)).trans hBk.1, (o9 _ (by omega)).trans hBk.2.1, e8⟩
        have hOb : BkAt D h7 (o) (ows) (ors) (m) := ⟨(o9 _ (by omega)).trans hOb.1, (o9 _ (by omega)).trans hOb.2.1, (o9 _ (by omega)).trans hOb.2.2⟩
        have hO : ∀ q, (q < a ∨ a + 3 ≤ q) → h7 q = h q := fun q hq => (o9 q (by omega)).trans (hO q hq)
        refine g_iinc C (v := nI (i + 1)) 0 ([(2, .int (nI (i + 1))), (0, .ref (a)), (1, .ref (o))]) dX0_copyFrom_40 rfl (nI_1 _) (by decide) rfl rfl ?_
        refine g_goto C dX0_copyFrom_43 (tgt := 10) (by decide) ?_
        exact ih10 (i + 1) (h7) (upd (w2) (i) (ows (i))) (upd (r2) (i) (ors (i))) (by omega) (by omega) (hBk) (hOb) (hO) (fun j g => by by_cases e1 : j = i; (subst e1; exact pk_us); exact (pk_un e1).trans (hw j (by omega))) (fun j g => by by_cases e1 : j = i; (subst e1; exact pk_us); exact (pk_un e1).trans (hr j (by omega)))
  exact loop10 _ (0) (h1) (ws) (rs) (Nat.lt_succ_self _) (by omega) (hBk) (hOb) (hO) (fun j g => absurd g (Nat.not_lt_zero _)) (fun j g => absurd g (Nat.not_lt_zero _))
def gcL : Nat → Int64 → Int64 → Int64
  | 0, a, _ => a
  | k + 1, a, b => if b = 0 then a else gcL k b (a - a / b * b)
set_option maxHeartbeats 4000000 in
set_option maxRecDepth 100000 in
theorem k_X11_greatestDivisor (l : Launch) (D : va_G) (b z : Nat) (h : qH) (a c : Int64) : qMl l D b yX11_greatestDivisor cX11_greatestDivisor 11 0 0 [.long (a), .long (c)] h z (fun r h' => r = gcL 1000 a c ∧ h' = h) := by
  refine q_l (L := [(0, .long (a)), (2, .long (c))]) (own := RX11) (by decide) rfl (Nat.le_of_ble_eq_true rfl) rfl ?_
  intro X C ret
  refine g_lload_n C 0 dX11_greatestDivisor_0 rfl rfl rfl ?_
  refine g_lstore C ([(4, .long (a)), (0, .long (a)), (2, .long (c))]) dX11_greatestDivisor_1 (by decide) rfl rfl ?_
  refine g_lload_n C 2 dX11_greatestDivisor_3 rfl rfl rfl ?_
  refine g_lstore C ([(6, .long (c)), (4, .long (a)), (0, .long (a)), (2, .long (c))]) dX11_greatestDivisor_4 (by decide) rfl rfl ?_
  refine g_iconst C (v := 0) dX11_greatestDivisor_6 (by decide) rfl ?_
  refine g_istore C ([(8, .int (0)), (6, .long (c)), (4, .long (a)), (0, .long (a)), (2, .long (c))]) dX11_greatestDivisor_7 (by decide) rfl rfl ?_
  have loop9 : ∀ (N : Nat) (i : Nat) (m : Nat) (x : Int64) (y : Int64), 1000 - i < N → (i + m = 1000) → (gcL m x y = gcL 1000 a c) → qG X 0 0 z h 9 [(8, .int (nI (i))), (6, .long (y)), (4, .long (x)), (0, .long (a)), (2, .long (c))] [] := by
    intro N
    induction N with
    | zero => intro i m x y hm; exact absurd hm (Nat.not_lt_zero _)
    | succ N ih9 =>
      intro i m x y hm hm hg
      refine g_iload C 0 dX11_greatestDivisor_9 rfl rfl ?_
      refine g_sipush C (v := 1000) dX11_greatestDivisor_11 (by decide) rfl ?_
      refine g_icmp_ge C dX11_greatestDivisor_14 (tgt := 45) (by decide) (pc' := 17) rfl ?_ ?_
      · intro c14
        replace c14 := (nI_leI (a := 1000) (b := i) (by omega) (by omega)).mp c14
        refine g_lload C 2 dX11_greatestDivisor_45 rfl rfl ?_
        exact ret _ _ _ _ dX11_greatestDivisor_47 (⟨by rw [← hg, (by omega : m = 0)]; rfl, rfl⟩)
      · intro c14
        replace c14 := (not_congr (nI_leI (a := 1000) (b := i) (by omega) (by omega))).mp c14
        refine g_lload C 1 dX11_greatestDivisor_17 rfl rfl ?_
        refine g_lconst C (v := 0) dX11_greatestDivisor_19 (by decide) rfl ?_
        refine g_lcmp C dX11_greatestDivisor_20 rfl ?_
        refine g_if_eq C dX11_greatestDivisor_21 (tgt := 45) (by decide) (pc' := 24) rfl ?_ ?_
        · intro c21
          replace c21 := (lg_cmp_eq _ _).mp c21
          refine g_lload C 2 dX11_greatestDivisor_45 rfl rfl ?_
          exact ret _ _ _ _ dX11_greatestDivisor_47 (⟨by rw [← hg]; cases m with | zero => rfl | succ m2 => simp only [gcL, if_pos c21], rfl⟩)
        · intro c21
          replace c21 := (not_congr (lg_cmp_eq _ _)).mp c21
          refine g_lload C 2 dX11_greatestDivisor_24 rfl rfl ?_
          refine g_lload C 1 dX11_greatestDivisor_26 rfl rfl ?_
          refine g_lrem C dX11_greatestDivisor_28 c21 rfl ?_
          refine g_lstore C ([(9, .long ((x) - (x) / (y) * (y))), (8, .int (nI (i))), (6, .long (y)), (4, .long (x)), (0, .long (a)), (2, .long (c))]) dX11_greatestDivisor_29 (by decide) rfl rfl ?_
          refine g_lload C 2 dX11_greatestDivisor_31 rfl rfl ?_
          refine g_lstore C ([(4, .long (y)), (9, .long ((x) - (x) / (y) * (y))), (8, .int (nI (i))), (6, .long (y)), (0, .long (a)), (2, .long (c))]) dX11_greatestDivisor_33 (by decide) rfl rfl ?_
          refine g_lload C 1 dX11_greatestDivisor_35 rfl rfl ?_
          refine g_lstore C ([(6, .long ((x) - (x) / (y) * (y))), (4, .long (y)), (9, .long ((x) - (x) / (y) * (y))), (8, .int (nI (i))), (0, .long (a)), (2, .long (c))]) dX11_greatestDivisor_37 (by decide) rfl rfl ?_
          refine g_iinc C (v := nI (i + 1)) 3 ([(8, .int (nI (i + 1))), (6, .long ((x) - (x) / (y) * (y))), (4, .long (y)), (9, .long ((x) - (x) / (y) * (y))), (0, .long (a)), (2, .long (c))]) dX11_greatestDivisor_39 rfl (nI_1 _) (by decide) rfl rfl ?_
          refine g_goto C dX11_greatestDivisor_42 (tgt := 9) (by decide) ?_
          refine q_lsub [0, 1, 2, 4, 5] (L' := [(8, .int (nI (i + 1))), (6, .long ((x) - (x) / (y) * (y))), (4, .long (y)), (0, .long (a)), (2, .long (c))]) rfl ?_
          exact ih9 (i + 1) (m - 1) (y) (x - x / y * y) (by omega) (by omega) (by obtain ⟨m2, rfl⟩ : ∃ m2, m = m2 + 1 := ⟨m - 1, by omega⟩; rw [← hg]; simp only [gcL, if_neg c21]; rfl)
  exact loop9 _ (0) (1000) (a) (c) (Nat.lt_succ_self _) (by omega) (rfl)
def F_low (a c : Int64) (p : Int32) : Int64 := (if (p) = 0 then (if (gcL 1000 (a) (c)) ≤ 0 then (a) else ((a) / (gcL 1000 (a) (c)))) else (if (gcL 1000 (a) (c)) ≤ 0 then (c) else ((c) / (gcL 1000 (a) (c)))))
set_option maxHeartbeats 4000000 in
set_option maxRecDepth 100000 in
theorem k_X11_lowestTerms (l : Launch) (D : va_G) (b z : Nat) (h : qH) (a c : Int64) (p : Int32) : qMl l D b yX11_lowestTerms cX11_lowestTerms 9 1 30 [.long (a), .long (c), .int (p)] h z (fun r h' => r = F_low a c p ∧ h' = h) := by
  refine q_l (L := [(0, .long (a)), (2, .long (c)), (4, .int (p))]) (own := RX11) (by decide) rfl (Nat.le_of_ble_eq_true rfl) rfl ?_
  intro X C ret
  refine g_lload_n C 0 dX11_lowestTerms_0 rfl rfl rfl ?_
  refine g_lload_n C 1 dX11_lowestTerms_1 rfl rfl rfl ?_
  refine g_callSl C (As := [.long (a), .long (c)]) (k_X11_greatestDivisor l D b z h (a) (c)) hw_11_305 (by decide) rfl rfl (Nat.le_of_ble_eq_true rfl) ⟨Nat.zero_le _, Nat.zero_le _⟩ dX11_lowestTerms_2 (pc' := 5) rfl ?_
  rintro r1 h9 ⟨er, e9⟩
  subst h9; subst er
  refine g_lstore C ([(5, .long (gcL 1000 (a) (c))), (0, .long (a)), (2, .long (c)), (4, .int (p))]) dX11_lowestTerms_5 (by decide) rfl rfl ?_
  refine g_iload C 3 dX11_lowestTerms_7 rfl rfl ?_
  refine g_if_ne C dX11_lowestTerms_9 (tgt := 16) (by decide) (pc' := 12) rfl ?_ ?_
  · intro c9
    refine g_lload_n C 2 dX11_lowestTerms_16 rfl rfl rfl ?_
    refine g_lstore C ([(7, .long (c)), (5, .long (gcL 1000 (a) (c))), (0, .long (a)), (2, .long (c)), (4, .int (p))]) dX11_lowestTerms_17 (by decide) rfl rfl ?_
    refine g_lload C 1 dX11_lowestTerms_19 rfl rfl ?_
    refine g_lconst C (v := 0) dX11_lowestTerms_21 (by decide) rfl ?_
    refine g_lcmp C dX11_lowestTerms_22 rfl ?_
    refine g_if_le C dX11_lowestTerms_23 (tgt := 34) (by decide) (pc' := 26) rfl ?_ ?_
    · intro c23
      replace c23 := (lg_cmp_le _ _).mp c23
      refine g_lload C 0 dX11_lowestTerms_34 rfl rfl ?_
      exact ret _ _ _ _ dX11_lowestTerms_36 (⟨by simp only [F_low, if_neg c9, if_pos c23], rfl⟩)
    · intro c23
      replace c23 := (not_congr (lg_cmp_le _ _)).mp c23
      refine g_lload C 0 dX11_lowestTerms_26 rfl rfl ?_
      refine g_lload C 1 dX11_lowestTerms_28 rfl rfl ?_
      refine g_ldiv C dX11_lowestTerms_30 (fun e => c23 (by rw [e]; decide)) rfl ?_
      refine g_goto C dX11_lowestTerms_31 (tgt := 36) (by decide) ?_
      exact ret _ _ _ _ dX11_lowestTerms_36 (⟨by simp only [F_low, if_neg c9, if_neg c23], rfl⟩)
  · intro c9
    refine g_lload_n C 1 dX11_lowestTerms_12 rfl rfl rfl ?_
    refine g_goto C dX11_lowestTerms_13 (tgt := 17) (by decide) ?_
    refine g_lstore C ([(7, .long (a)), (5, .long (gcL 1000 (a) (c))), (0, .long (a)), (2, .long (c)), (4, .int (p))]) dX11_lowestTerms_17 (by decide) rfl rfl ?_
    refine g_lload C 1 dX11_lowestTerms_19 rfl rfl ?_
    refine g_lconst C (v := 0) dX11_lowestTerms_21 (by decide) rfl ?_
    refine g_lcmp C dX11_lowestTerms_22 rfl ?_
    refine g_if_le C dX11_lowestTerms_23 (tgt := 34) (by decide) (pc' := 26) rfl ?_ ?_
    · intro c23
      replace c23 := (lg_cmp_le _ _).mp c23
      refine g_lload C 0 dX11_lowestTerms_34 rfl rfl ?_
      exact ret _ _ _ _ dX11_lowestTerms_36 (⟨by simp only [F_low, if_pos c9, if_pos c23], rfl⟩)
    · intro c23
      replace c23 := (not_congr (lg_cmp_le _ _)).mp c23
      refine g_lload C 0 dX11_lowestTerms_26 rfl rfl ?_
      refine g_lload C 1 dX11_lowestTerms_28 rfl rfl ?_
      refine g_ldiv C dX11_lowestTerms_30 (fun e => c23 (by rw [e]; decide)) rfl ?_
      refine g_goto C dX11_lowestTerms_31 (tgt := 36) (by decide) ?_
      exact ret _ _ _ _ dX11_lowestTerms_36 (⟨by simp only [F_low, if_pos c9, if_neg c23], rfl⟩)
end
section
/-! the outlook: odds from day to day, the four tables -/
def dnI : Nat → Int32
  | 0 => -1
  | k + 1 => nI k
theorem dnI_dec (k : Nat) : nI k + Int32.ofInt (-1) = dnI k := by
  cases k with
  | zero => decide
  | succ k => exact nI_dec k
theorem g2L_at {U : Nat → Nat → Int64} {k v : Nat} {x : Int64} : va_up U k (vp_updL (U k) v x) k v = x := by simp [va_up, vp_updL]
theorem g2L_ne {U : Nat → Nat → Int64} {k v i j : Nat} {x : Int64} (h : ¬ (i = k ∧ j = v)) : va_up U k (vp_updL (U k) v x) i j = U i j := by
  by_cases e : i = k
  · subst e; simp only [va_up, if_true, vp_updL, if_neg (show ¬ j = v from fun q => h ⟨rfl, q⟩)]
  · simp only [va_up, if_neg e]
theorem g2I_at {U : Nat → Nat → Int32} {k v : Nat} {x : Int32} : va_up U k (upd (U k) v x) k v = x := by simp [va_up, upd]
theorem g2I_ne {U : Nat → Nat → Int32} {k v i j : Nat} {x : Int32} (h : ¬ (i = k ∧ j = v)) : va_up U k (upd (U k) v x) i j = U i j := by
  by_cases e : i = k
  · subst e; simp only [va_up, if_true, upd, if_neg (show ¬ j = v from fun q => h ⟨rfl, q⟩)]
  · simp only [va_up, if_neg e]
def F_rdg (rd : Nat → Int32) (k : Nat) : Int32 := if 1 ≤ k ∧ k ≤ 4 then rd k else -1
def F_step (tn : Nat → Int32) (sl : Int32) (rd : Nat → Int32) (k v w : Nat) : Int64 := (tn (v * 3 + w)).toInt64 * (F_fit sl (F_rdg rd k) w).toInt64
def smP (f : Nat → Int64) : Nat → Int64
  | 0 => 0
  | w + 1 => smP f w + f w
def mxP (f : Nat → Int64) : Nat → Int64
  | 0 => 0
  | w + 1 => mx64 (mxP f w) (f w)
def wyP (st : Nat → Int64) (nx : Nat → Int32) : Nat → Int32
  | 0 => 0
  | w + 1 => wyP st nx w + (if st w ≤ 0 then 0 else nx w)
def bhD (stp : Nat → Nat → Nat → Int64) : Nat → Nat → Int64
  | 0, _ => 1
  | d + 1, v => smP (fun w => stp (6 - d) v w * bhD stp d w) 3
def mxD (stp : Nat → Nat → Nat → Int64) : Nat → Nat → Int64
  | 0, _ => 1
  | d + 1, v => mxP (fun w => stp (6 - d) v w * mxD stp d w) 3
def wyD (stp : Nat → Nat → Nat → Int64) : Nat → Nat → Int32
  | 0, _ => 1
  | d + 1, v => wyP (fun w => stp (6 - d) v w) (fun w => wyD stp d w) 3
def unD (stp : Nat → Nat → Nat → Int64) (w0 : Nat) : Nat → Nat → Int64
  | 0, w => if w = w0 then 1 else 0
  | k + 1, w => smP (fun v => unD stp w0 k v * stp (k + 1) v w) 3
def RowOK (stp : Nat → Nat → Nat → Int64) (B M : Nat → Nat → Int64) (P : Nat → Nat → Int32) (k v : Nat) : Prop := B k v = bhD stp (6 - k) v ∧ M k v = mxD stp (6 - k) v ∧ P k v = wyD stp (6 - k) v
theorem row_bh (stp : Nat → Nat → Nat → Int64) {k v : Nat} (hk : k < 6) : bhD stp (6 - k) v = smP (fun w => stp (k + 1) v w * bhD stp (6 - (k + 1)) w) 3 := by
  obtain ⟨d, hd⟩ : ∃ d, 6 - k = d + 1 := ⟨5 - k, by omega⟩
  rw [hd, show 6 - (k + 1) = d by omega, show k + 1 = 6 - d by omega]; rfl
theorem row_mx (stp : Nat → Nat → Nat → Int64) {k v : Nat} (hk : k < 6) : mxD stp (6 - k) v = mxP (fun w => stp (k + 1) v w * mxD stp (6 - (k + 1)) w) 3 := by
  obtain ⟨d, hd⟩ : ∃ d, 6 - k = d + 1 := ⟨5 - k, by omega⟩
  rw [hd, show 6 - (k + 1) = d by omega, show k + 1 = 6 - d by omega]; rfl
theorem row_wy (stp : Nat → Nat → Nat → Int64) {k v : Nat} (hk : k < 6) : wyD stp (6 - k) v = wyP (fun w => stp (k + 1) v w) (fun w => wyD stp (6 - (k + 1)) w) 3 := by
  obtain ⟨d, hd⟩ : ∃ d, 6 - k = d + 1 := ⟨5 - k, by omega⟩
  rw [hd, show 6 - (k + 1) = d by omega, show k + 1 = 6 - d by omega]; rfl
theorem GrJ.fr {D : va_G} {h h1 : qH} {a : Nat} {U : Nat → Nat → Int64} (H : GrJ D h a U) (o : ∀ q, a ≤ q → q < a + 8 → h1 q = h q) : GrJ D h1 a U := ⟨(o _ (by omega) (by omega)).trans H.1, fun i hi => (o _ (by omega) (by omega)).trans (H.2 i hi)⟩
theorem GrI.fr {D : va_G} {h h1 : qH} {a : Nat} {U : Nat → Nat → Int32} (H : GrI D h a U) (o : ∀ q, a ≤ q → q < a + 8 → h1 q = h q) : GrI D h1 a U := ⟨(o _ (by omega) (by omega)).trans H.1, fun i hi => (o _ (by omega) (by omega)).trans (H.2 i hi)⟩
theorem OlAt.fr {D : va_G} {h h1 : qH} {a s : Nat} {rd : Nat → Int32} {dn w : Int32} (H : OlAt D h a s rd dn w) (o : ∀ q, a ≤ q → q < a + 2 → h1 q = h q) : OlAt D h1 a s rd dn w := ⟨(o _ (by omega) (by omega)).trans H.1, (o _ (by omega) (by omega)).trans H.2⟩
theorem StAt.fr {D : va_G} {h h1 : qH} {a : Nat} {tn : Nat → Int32} {e sl : Int32} (H : StAt D h a tn e sl) (o : ∀ q, a ≤ q → q < a + 2 → h1 q = h q) : StAt D h1 a tn e sl := ⟨(o _ (by omega) (by omega)).trans H.1, (o _ (by omega) (by omega)).trans H.2⟩
theorem PgAt.fr {D : va_G} {h h1 : qH} {a : Nat} {cs : Nat → Int32} {n : Int32} (H : PgAt D h a cs n) (o : ∀ q, a ≤ q → q < a + 2 → h1 q = h q) : PgAt D h1 a cs n := ⟨(o _ (by omega) (by omega)).trans H.1, (o _ (by omega) (by omega)).trans H.2⟩
theorem BkAt.fr {D : va_G} {h h1 : qH} {a : Nat} {ws rs : Nat → Int32} {n : Int32} (H : BkAt D h a ws rs n) (o : ∀ q, a ≤ q → q < a + 3 → h1 q = h q) : BkAt D h1 a ws rs n := ⟨(o _ (by omega) (by omega)).trans H.1, (o _ (by omega) (by omega)).trans H.2.1, (o _ (by omega) (by omega)).trans H.2.2⟩
set_option maxHeartbeats 4000000 in
set_option maxRecDepth 100000 in
theorem k_X7_readingOf (l : Launch) (D : va_G) (b z : Nat) {h : qH} {a s : Nat} {rd : Nat → Int32} {dn w0 : Int32} (hOl : OlAt D h a s rd dn w0) {k : Nat} (hk : k < 7) : qMi l D b yX7_readingOf cX7_readingOf 2 .int 0 0 [.ref (a), .int (nI (k))] h z (fun r h' => r = F_rdg rd k ∧ h' = h) := by
  refine q_i (L := [(0, .ref (a)), (1, .int (nI (k)))]) (own := RX7) (by decide) rfl (Nat.le_of_ble_eq_true rfl) rfl ?_
  intro X C ret
  refine g_iload_n C 1 dX7_readingOf_0 rfl rfl rfl ?_
  refine g_iconst C (v := 1) dX7_readingOf_1 (by decide) rfl ?_
  refine g_icmp_lt C dX7_readingOf_2 (tgt := 19) (by decide) (pc' := 5) rfl ?_ ?_
  · intro c2
    replace c2 := (nI_ltI (a := k) (b := 1) (by omega) (by omega)).mp c2
    refine g_iconst C (v := -1) dX7_readingOf_19 (by decide) rfl ?_
    exact ret _ _ _ _ dX7_readingOf_20 rfl (⟨by unfold F_rdg; rw [if_neg (by omega)], rfl⟩)
  · intro c2
    replace c2 := (not_congr (nI_ltI (a := k) (b := 1) (by omega) (by omega))).mp c2
    refine g_iload_n C 1 dX7_readingOf_5 rfl rfl rfl ?_
    refine g_iconst C (v := 4) dX7_readingOf_6 (by decide) rfl ?_
    refine g_icmp_gt C dX7_readingOf_7 (tgt := 19) (by decide) (pc' := 10) rfl ?_ ?_
    · intro c7
      replace c7 := (nI_ltI (a := 4) (b := k) (by omega) (by omega)).mp c7
      refine g_iconst C (v := -1) dX7_readingOf_19 (by decide) rfl ?_
      exact ret _ _ _ _ dX7_readingOf_20 rfl (⟨by unfold F_rdg; rw [if_neg (by omega)], rfl⟩)
    · intro c7
      replace c7 := (not_congr (nI_ltI (a := 4) (b := k) (by omega) (by omega))).mp c7
      refine g_aload_n C 0 dX7_readingOf_10 rfl rfl rfl ?_
      refine gf_7_9 C (hOl.1) (v := .ref (a + 1)) rfl dX7_readingOf_11 rfl ?_
      refine g_iload_n C 1 dX7_readingOf_14 rfl rfl rfl ?_
      refine g_iald' C (hOl.2) (j := k) rfl (by omega) (by decide) dX7_readingOf_15 rfl ?_
      refine g_goto C dX7_readingOf_16 (tgt := 20) (by decide) ?_
      exact ret _ _ _ _ dX7_readingOf_20 rfl (⟨by unfold F_rdg; rw [if_pos (by omega)], rfl⟩)
set_option maxHeartbeats 4000000 in
set_option maxRecDepth 100000 in
theorem k_X7_stepOdds (l : Launch) (D : va_G) (b z : Nat) {h : qH} {a s : Nat} {rd : Nat → Int32} {dn w0 : Int32} (hOl : OlAt D h a s rd dn w0) {tn : Nat → Int32} {e : Nat} {sl : Int32} (he : e < 10) (hSt : StAt D h s tn (nI e) sl) {k v w : Nat} (hk : k < 7) (hv : v < 3) (hw : w < 3) : qMl l D b yX7_stepOdds cX7_stepOdds 4 1 23 [.ref (a), .int (nI (k)), .int (nI (v)), .int (nI (w))] h z (fun r h' => r = F_step tn sl rd k v w ∧ h' = h) := by
  refine q_l (L := [(0, .ref (a)), (1, .int (nI (k))), (2, .int (nI (v))), (3, .int (nI (w)))]) (own := RX7) (by decide) rfl (Nat.le_of_ble_eq_true rfl) rfl ?_
  intro X C ret
  refine g_aload_n C 0 dX7_stepOdds_0 rfl rfl rfl ?_
  refine gf_7_31 C (hOl.1) (v := .ref (s)) rfl dX7_stepOdds_1 rfl ?_
  refine g_iload_n C 2 dX7_stepOdds_4 rfl rfl rfl ?_
  refine g_iload_n C 3 dX7_stepOdds_5 rfl rfl rfl ?_
  refine g_callVi C (As := [.int (nI (v)), .int (nI (w))]) (q := (RX9, TX9, 3)) (k_X9_tenthsFrom l D b z he hSt (v := v) (w := w) (by omega) (by omega)) hw_7_88 (hSt.1) rfl (by decide) rfl rfl (Nat.le_of_ble_eq_true rfl) ⟨Nat.zero_le _, Nat.zero_le _⟩ dX7_stepOdds_6 (pc' := 9) rfl ?_
  rintro r1 h9 ⟨er, e9⟩
  subst h9; subst er
  refine g_i2l C dX7_stepOdds_9 rfl ?_
  refine g_aload_n C 0 dX7_stepOdds_10 rfl rfl rfl ?_
  refine gf_7_31 C (hOl.1) (v := .ref (s)) rfl dX7_stepOdds_11 rfl ?_
  refine g_aload_n C 0 dX7_stepOdds_14 rfl rfl rfl ?_
  refine g_iload_n C 1 dX7_stepOdds_15 rfl rfl rfl ?_
  refine g_callVi C (As := [.int (nI (k))]) (q := (RX7, TX7, 8)) (k_X7_readingOf l D b z hOl (k := k) (by omega)) hw_7_91 (hOl.1) rfl (by decide) rfl rfl (Nat.le_of_ble_eq_true rfl) ⟨Nat.zero_le _, Nat.zero_le _⟩ dX7_stepOdds_16 (pc' := 19) rfl ?_
  rintro r2 h9 ⟨er, e9⟩
  subst h9; subst er
  refine g_iload_n C 3 dX7_stepOdds_19 rfl rfl rfl ?_
  refine g_callVi C (As := [.int (F_rdg rd (k)), .int (nI (w))]) (q := (RX9, TX9, 3)) (k_X9_fit l D b z he hSt (F_rdg rd (k)) (w := w) (by omega)) hw_7_69 (hSt.1) rfl (by decide) rfl rfl (Nat.le_of_ble_eq_true rfl) ⟨Nat.zero_le _, Nat.zero_le _⟩ dX7_stepOdds_20 (pc' := 23) rfl ?_
  rintro r3 h9 ⟨er, e9⟩
  subst h9; subst er
  refine g_i2l C dX7_stepOdds_23 rfl ?_
  refine g_lmul C dX7_stepOdds_24 rfl ?_
  exact ret _ _ _ _ dX7_stepOdds_25 (⟨rfl, rfl⟩)
set_option maxHeartbeats 4000000 in
set_option maxRecDepth 100000 in
theorem k_X7_reckonBehind (l : Launch) (D : va_G) (b z : Nat) {h : qH} {a s : Nat} {rd : Nat → Int32} {dn w0 : Int32} (hOl : OlAt D h a s rd dn w0) {tn : Nat → Int32} {e : Nat} {sl : Int32} (he : e < 10) (hSt : StAt D h s tn (nI e) sl) {B M : Nat → Nat → Int64} {P : Nat → Nat → Int32} (hB : GrJ D h (a + 10) B) (hM : GrJ D h (a + 18) M) (hP : GrI D h (a + 26) P) (hds : s + 2 ≤ a ∨ a + 34 ≤ s) : qMv l D b yX7_reckonBehind cX7_reckonBehind 6 2 46 [.ref (a)] h z (fun h' => (∃ B' M' P', GrJ D h' (a + 10) B' ∧ GrJ D h' (a + 18) M' ∧ GrI D h' (a + 26) P' ∧ ∀ i, i ≤ 6 → ∀ j, j < 3 → RowOK (F_step tn sl rd) B' M' P' i j) ∧ ∀ q, (q < a + 10 ∨ a + 34 ≤ q) → h' q = h q) := by
  refine q_v (L := [(0, .ref (a))]) (own := RX7) (by decide) rfl (Nat.le_of_ble_eq_true rfl) rfl ?_
  intro X C ret
  have hO : ∀ q, (q < a + 10 ∨ a + 34 ≤ q) → h q = h q := fun _ _ => rfl
  refine g_iconst C (v := 0) dX7_reckonBehind_0 (by decide) rfl ?_
  refine g_istore_n C ([(1, .int (0)), (0, .ref (a))]) dX7_reckonBehind_1 rfl (by decide) rfl rfl ?_
  have loop2 : ∀ (N : Nat) (v : Nat) (h1 : qH) (B1 : Nat → Nat → Int64) (M1 : Nat → Nat → Int64) (P1 : Nat → Nat → Int32), 3 - v < N → (v ≤ 3) → (OlAt D h1 a s rd dn w0) → (StAt D h1 s tn (nI e) sl) → (GrJ D h1 (a + 10) B1) → (GrJ D h1 (a + 18) M1) → (GrI D h1 (a + 26) P1) → (∀ q, (q < a + 10 ∨ a + 34 ≤ q) → h1 q = h q) → (∀ j, j < v → B1 6 j = 1 ∧ M1 6 j = 1 ∧ P1 6 j = 1) → qG X 0 0 z h1 2 [(1, .int (nI (v))), (0, .ref (a))] [] := by
    intro N
    induction N with
    | zero => intro v h1 B1 M1 P1 hm; exact absurd hm (Nat.not_lt_zero _)
    | succ N ih2 =>
      intro v h1 B1 M1 P1 hm hv hOl hSt hB hM hP hO hr
      refine g_iload_n C 0 dX7_reckonBehind_2 rfl rfl rfl ?_
      refine g_iconst C (v := 3) dX7_reckonBehind_3 (by decide) rfl ?_
      refine g_icmp_ge C dX7_reckonBehind_4 (tgt := 43) (by decide) (pc' := 7) rfl ?_ ?_
      · intro c4
        replace c4 := (nI_leI (a := 3) (b := v) (by omega) (by omega)).mp c4
        refine g_iconst C (v := 5) dX7_reckonBehind_43 (by decide) rfl ?_
        refine g_istore_n C ([(1, .int (5)), (0, .ref (a))]) dX7_reckonBehind_44 rfl (by decide) rfl rfl ?_
        have loop45 : ∀ (N : Nat) (c : Nat) (h2 : qH) (B2 : Nat → Nat → Int64) (M2 : Nat → Nat → Int64) (P2 : Nat → Nat → Int32), c < N → (c ≤ 6) → (OlAt D h2 a s rd dn w0) → (StAt D h2 s tn (nI e) sl) → (GrJ D h2 (a + 10) B2) → (GrJ D h2 (a + 18) M2) → (GrI D h2 (a + 26) P2) → (∀ q, (q < a + 10 ∨ a + 34 ≤ q) → h2 q = h q) → (∀ i, c ≤ i → i ≤ 6 → ∀ j, j < 3 → RowOK (F_step tn sl rd) B2 M2 P2 i j) → qG X 0 0 z h2 45 [(1, .int (dnI c)), (0, .ref (a))] [] := by
          intro N
          induction N with
          | zero => intro c h2 B2 M2 P2 hm; exact absurd hm (Nat.not_lt_zero _)
          | succ N ih45 =>
            intro c h2 B2 M2 P2 hm hc hOl hSt hB hM hP hO hR
            rcases c with _ | k
            · skip
              change qG X 0 0 z h2 45 [(1, .int ((-1))), (0, .ref (a))] []
              refine g_iload_n C 0 dX7_reckonBehind_45 rfl rfl rfl ?_
              refine g_if_lt C dX7_reckonBehind_46 (tgt := 207) (by decide) (pc' := 49) rfl (fun _ => ?_) (fun c46 => absurd (by decide) c46)
              exact ret _ _ _ dX7_reckonBehind_207 (⟨⟨_, _, _, hB, hM, hP, fun i g2 j g3 => hR i (by omega) g2 j g3⟩, hO⟩)
            change qG X 0 0 z h2 45 [(1, .int (nI (k))), (0, .ref (a))] []
            refine g_iload_n C 0 dX7_reckonBehind_45 rfl rfl rfl ?_
            refine g_if_lt C dX7_reckonBehind_46 (tgt := 207) (by decide) (pc' := 49) rfl ?_ ?_
            · intro c46
              replace c46 := (nI_ltI (a := k) (b := 0) (by omega) (by omega)).mp c46
              exact ret _ _ _ dX7_reckonBehind_207 (⟨⟨_, _, _, hB, hM, hP, fun i g2 j g3 => hR i (by omega) g2 j g3⟩, hO⟩)
            · intro c46
              replace c46 := (not_congr (nI_ltI (a := k) (b := 0) (by omega) (by omega))).mp c46
              refine g_iconst C (v := 0) dX7_reckonBehind_49 (by decide) rfl ?_
              refine g_istore_n C ([(2, .int (0)), (1, .int (nI (k))), (0, .ref (a))]) dX7_reckonBehind_50 rfl (by decide) rfl rfl ?_
              have loop51 : ∀ (N : Nat) (v : Nat) (h3 : qH) (B3 : Nat → Nat → Int64) (M3 : Nat → Nat → Int64) (P3 : Nat → Nat → Int32), 3 - v < N → (v ≤ 3) → (OlAt D h3 a s rd dn w0) → (StAt D h3 s tn (nI e) sl) → (GrJ D h3 (a + 10) B3) → (GrJ D h3 (a + 18) M3) → (GrI D h3 (a + 26) P3) → (∀ q, (q < a + 10 ∨ a + 34 ≤ q) → h3 q = h q) → (∀ i, k + 1 ≤ i → i ≤ 6 → ∀ j, j < 3 → RowOK (F_step tn sl rd) B3 M3 P3 i j) → (∀ j, j < v → RowOK (F_step tn sl rd) B3 M3 P3 k j) → qG X 0 0 z h3 51 [(2, .int (nI (v))), (1, .int (nI (k))), (0, .ref (a))] [] := by
                intro N
                induction N with
                | zero => intro v h3 B3 M3 P3 hm; exact absurd hm (Nat.not_lt_zero _)
                | succ N ih51 =>
                  intro v h3 B3 M3 P3 hm hv hOl hSt hB hM hP hO hR hV
                  refine g_iload_n C 0 dX7_reckonBehind_51 rfl rfl rfl ?_
                  refine g_iconst C (v := 3) dX7_reckonBehind_52 (by decide) rfl ?_
                  refine g_icmp_ge C dX7_reckonBehind_53 (tgt := 201) (by decide) (pc' := 56) rfl ?_ ?_
                  · intro c53
                    replace c53 := (nI_leI (a := 3) (b := v) (by omega) (by omega)).mp c53
                    refine g_iinc C (v := dnI (k)) 1 ([(1, .int (dnI (k))), (2, .int (nI (v))), (0, .ref (a))]) dX7_reckonBehind_201 rfl (dnI_dec _) (by decide) rfl rfl ?_
                    refine g_goto C dX7_reckonBehind_204 (tgt := 45) (by decide) ?_
                    refine q_lsub [0, 2] (L' := [(1, .int (dnI (k))), (0, .ref (a))]) rfl ?_
                    exact ih45 (k) (h3) (B3) (M3) (P3) (by omega) (by omega) (hOl) (hSt) (hB) (hM) (hP) (hO) (fun i g1 g2 j g3 => by by_cases e1 : i = k; (subst e1; exact hV j (by omega)); exact hR i (by omega) g2 j g3)
                  · intro c53
                    replace c53 := (not_congr (nI_leI (a := 3) (b := v) (by omega) (by omega))).mp c53
                    refine g_aload_n C 2 dX7_reckonBehind_56 rfl rfl rfl ?_
                    refine gf_7_20 C (hOl.1) (v := .ref (a + 10)) rfl dX7_reckonBehind_57 rfl ?_
                    refine g_iload_n C 1 dX7_reckonBehind_60 rfl rfl rfl ?_
                    refine g_aaldJJ C (hB.1) (j := k) rfl (by omega) (by decide) (gridF_at (by omega)) dX7_reckonBehind_61 rfl ?_
                    refine g_iload_n C 0 dX7_reckonBehind_62 rfl rfl rfl ?_
                    refine g_lconst C (v := 0) dX7_reckonBehind_63 (by decide) rfl ?_
                    refine g_last' C (hB.2 (k) (by omega)) (j := v) rfl (by omega) (by decide) dX7_reckonBehind_64 (pc' := 65) rfl (fun h1 e2 o3 => ?_)
                    have hB : GrJ D h1 (a + 10) (va_up (B3) (k) (vp_updL (B3 (k)) (v) (0))) := hB.put (by omega) e2 o3
                    have hOl : OlAt D h1 (a) (s) (rd) (dn) (w0) := ⟨(o3 _ (by omega)).trans hOl.1, (o3 _ (by omega)).trans hOl.2⟩
                    have hSt : StAt D h1 (s) (tn) (nI (e)) (sl) := ⟨(o3 _ (by omega)).trans hSt.1, (o3 _ (by omega)).trans hSt.2⟩
                    have hM : GrJ D h1 (a + 18) (M3) := ⟨(o3 _ (by omega)).trans hM.1, fun i hi => (o3 _ (by omega)).trans (hM.2 i hi)⟩
                    have hP : GrI D h1 (a + 26) (P3) := ⟨(o3 _ (by omega)).trans hP.1, fun i hi => (o3 _ (by omega)).trans (hP.2 i hi)⟩
                    have hO : ∀ q, (q < a + 10 ∨ a + 34 ≤ q) → h1 q = h q := fun q hq => (o3 q (by omega)).trans (hO q hq)
                    refine g_aload_n C 2 dX7_reckonBehind_65 rfl rfl rfl ?_
                    refine gf_7_23 C (hOl.1) (v := .ref (a + 18)) rfl dX7_reckonBehind_66 rfl ?_
                    refine g_iload_n C 1 dX7_reckonBehind_69 rfl rfl rfl ?_
                    refine g_aaldJJ C (hM.1) (j := k) rfl (by omega) (by decide) (gridF_at (by omega)) dX7_reckonBehind_70 rfl ?_
                    refine g_iload_n C 0 dX7_reckonBehind_71 rfl rfl rfl ?_
                    refine g_lconst C (v := 0) dX7_reckonBehind_72 (by decide) rfl ?_
                    refine g_last' C (hM.2 (k) (by omega)) (j := v) rfl (by omega) (by decide) dX7_reckonBehind_73 (pc' := 74) rfl (fun h4 e5 o6 => ?_)
                    have hM : GrJ D h4 (a + 18) (va_up (M3) (k) (vp_updL (M3 (k)) (v) (0))) := hM.put (by omega) e5 o6
                    have hOl : OlAt D h4 (a) (s) (rd) (dn) (w0) := ⟨(o6 _ (by omega)).trans hOl.1, (o6 _ (by omega)).trans hOl.2⟩
                    have hSt : StAt D h4 (s) (tn) (nI (e)) (sl) := ⟨(o6 _ (by omega)).trans hSt.1, (o6 _ (by omega)).trans hSt.2⟩
                    have hB : GrJ D h4 (a + 10) (va_up (B3) (k) (vp_updL (B3 (k)) (v) (0))) := ⟨(o6 _ (by omega)).trans hB.1, fun i hi => (o6 _ (by omega)).trans (hB.2 i hi)⟩
                    have hP : GrI D h4 (a + 26) (P3) := ⟨(o6 _ (by omega)).trans hP.1, fun i hi => (o6 _ (by omega)).trans (hP.2 i hi)⟩
                    have hO : ∀ q, (q < a + 10 ∨ a + 34 ≤ q) → h4 q = h q := fun q hq => (o6 q (by omega)).trans (hO q hq)
                    refine g_aload_n C 2 dX7_reckonBehind_74 rfl rfl rfl ?_
                    refine gf_7_28 C (hOl.1) (v := .ref (a + 26)) rfl dX7_reckonBehind_75 rfl ?_
                    refine g_iload_n C 1 dX7_reckonBehind_78 rfl rfl rfl ?_
                    refine g_aaldII C (hP.1) (j := k) rfl (by omega) (by decide) (gridF_at (by omega)) dX7_reckonBehind_79 rfl ?_
                    refine g_iload_n C 0 dX7_reckonBehind_80 rfl rfl rfl ?_
                    refine g_iconst C (v := 0) dX7_reckonBehind_81 (by decide) rfl ?_
                    refine g_iast' C (hP.2 (k) (by omega)) (j := v) rfl (by omega) (by decide) dX7_reckonBehind_82 (pc' := 83) rfl (fun h7 e8 o9 => ?_)
                    have hP : GrI D h7 (a + 26) (va_up (P3) (k) (upd (P3 (k)) (v) (0))) := hP.put (by omega) e8 o9
                    have hOl : OlAt D h7 (a) (s) (rd) (dn) (w0) := ⟨(o9 _ (by omega)).trans hOl.1, (o9 _ (by omega)).trans hOl.2⟩
                    have hSt : StAt D h7 (s) (tn) (nI (e)) (sl) := ⟨(o9 _ (by omega)).trans hSt.1, (o9 _ (by omega)).trans hSt.2⟩
                    have hB : GrJ D h7 (a + 10) (va_up (B3) (k) (vp_updL (B3 (k)) (v) (0))) := ⟨(o9 _ (by omega)).trans hB.1, fun i hi => (o9 _ (by omega)).trans (hB.2 i hi)⟩
                    have hM : GrJ D h7 (a + 18) (va_up (M3) (k) (vp_updL (M3 (k)) (v) (0))) := ⟨(o9 _ (by omega)).trans hM.1, fun i hi => (o9 _ (by omega)).trans (hM.2 i hi)⟩
                    have hO : ∀ q, (q < a + 10 ∨ a + 34 ≤ q) → h7 q = h q := fun q hq => (o9 q (by omega)).trans (hO q hq)
                    refine g_iconst C (v := 0) dX7_reckonBehind_83 (by decide) rfl ?_
                    refine g_istore_n C ([(3, .int (0)), (2, .int (nI (v))), (1, .int (nI (k))), (0, .ref (a))]) dX7_reckonBehind_84 rfl (by decide) rfl rfl ?_
                    have loop85 : ∀ (N : Nat) (w : Nat) (h4 : qH) (B4 : Nat → Nat → Int64) (M4 : Nat → Nat → Int64) (P4 : Nat → Nat → Int32), 3 - w < N → (w ≤ 3) → (OlAt D h4 a s rd dn w0) → (StAt D h4 s tn (nI e) sl) → (GrJ D h4 (a + 10) B4) → (GrJ D h4 (a + 18) M4) → (GrI D h4 (a + 26) P4) → (∀ q, (q < a + 10 ∨ a + 34 ≤ q) → h4 q = h q) → (∀ i, k + 1 ≤ i → i ≤ 6 → ∀ j, j < 3 → RowOK (F_step tn sl rd) B4 M4 P4 i j) → (∀ j, j < v → RowOK (F_step tn sl rd) B4 M4 P4 k j) → (B4 k v = smP (fun w => (F_step tn sl rd) (k + 1) v w * bhD (F_step tn sl rd) (6 - (k + 1)) w) w) → (M4 k v = mxP (fun w => (F_step tn sl rd) (k + 1) v w * mxD (F_step tn sl rd) (6 - (k + 1)) w) w) → (P4 k v = wyP (fun w => (F_step tn sl rd) (k + 1) v w) (fun w => wyD (F_step tn sl rd) (6 - (k + 1)) w) w) → qG X 0 0 z h4 85 [(3, .int (nI (w))), (2, .int (nI (v))), (1, .int (nI (k))), (0, .ref (a))] [] := by
                      intro N
                      induction N with
                      | zero => intro w h4 B4 M4 P4 hm; exact absurd hm (Nat.not_lt_zero _)
                      | succ N ih85 =>
                        intro w h4 B4 M4 P4 hm hw hOl hSt hB hM hP hO hR hV hb hm hp
                        refine g_iload_n C 0 dX7_reckonBehind_85 rfl rfl rfl ?_
                        refine g_iconst C (v := 3) dX7_reckonBehind_86 (by decide) rfl ?_
                        refine g_icmp_ge C dX7_reckonBehind_87 (tgt := 195) (by decide) (pc' := 90) rfl ?_ ?_
                        · intro c87
                          replace c87 := (nI_leI (a := 3) (b := w) (by omega) (by omega)).mp c87
                          refine g_iinc C (v := nI (v + 1)) 1 ([(2, .int (nI (v + 1))), (3, .int (nI (w))), (1, .int (nI (k))), (0, .ref (a))]) dX7_reckonBehind_195 rfl (nI_1 _) (by decide) rfl rfl ?_
                          refine g_goto C dX7_reckonBehind_198 (tgt := 51) (by decide) ?_
                          refine q_lsub [0, 2, 3] (L' := [(2, .int (nI (v + 1))), (1, .int (nI (k))), (0, .ref (a))]) rfl ?_
                          exact ih51 (v + 1) (h4) (B4) (M4) (P4) (by omega) (by omega) (hOl) (hSt) (hB) (hM) (hP) (hO) (hR) (fun j g => by by_cases e1 : j = v; (subst e1; obtain rfl : w = 3 := (by omega); exact ⟨hb.trans (row_bh _ (by omega)).symm, hm.trans (row_mx _ (by omega)).symm, hp.trans (row_wy _ (by omega)).symm⟩); exact hV j (by omega))
                        · intro c87
                          replace c87 := (not_congr (nI_leI (a := 3) (b := w) (by omega) (by omega))).mp c87
                          refine g_aload_n C 3 dX7_reckonBehind_90 rfl rfl rfl ?_
                          refine g_iload_n C 2 dX7_reckonBehind_91 rfl rfl rfl ?_
                          refine g_iconst C (v := 1) dX7_reckonBehind_92 (by decide) rfl ?_
                          refine g_iadd C dX7_reckonBehind_93 rfl ?_
                          refine g_topi (y := nI (k + 1)) (nI_add _ _) ?_
                          refine g_iload_n C 1 dX7_reckonBehind_94 rfl rfl rfl ?_
                          refine g_iload_n C 0 dX7_reckonBehind_95 rfl rfl rfl ?_
                          refine g_callVl C (As := [.int (nI ((k + 1))), .int (nI (v)), .int (nI (w))]) (q := (RX7, TX7, 8)) (k_X7_stepOdds l D b z hOl he hSt (k := (k + 1)) (v := v) (w := w) (by omega) (by omega) (by omega)) hw_7_65 (hOl.1) rfl (by decide) rfl rfl (Nat.le_of_ble_eq_true rfl) ⟨Nat.zero_le _, Nat.zero_le _⟩ dX7_reckonBehind_96 (pc' := 99) rfl ?_
                          rintro r10 h9 ⟨er, e9⟩
                          subst h9; subst er
                          refine g_lstore C ([(4, .long (F_step tn sl rd ((k + 1)) (v) (w))), (3, .int (nI (w))), (2, .int (nI (v))), (1, .int (nI (k))), (0, .ref (a))]) dX7_reckonBehind_99 (by decide) rfl rfl ?_
                          refine g_aload_n C 4 dX7_reckonBehind_101 rfl rfl rfl ?_
                          refine gf_7_20 C (hOl.1) (v := .ref (a + 10)) rfl dX7_reckonBehind_102 rfl ?_
                          refine g_iload_n C 3 dX7_reckonBehind_105 rfl rfl rfl ?_
                          refine g_aaldJJ C (hB.1) (j := k) rfl (by omega) (by decide) (gridF_at (by omega)) dX7_reckonBehind_106 rfl ?_
                          refine g_iload_n C 2 dX7_reckonBehind_107 rfl rfl rfl ?_
                          refine g_dup2 C rfl rfl dX7_reckonBehind_108 rfl ?_
                          refine g_lald' C (hB.2 (k) (by omega)) (j := v) rfl (by omega) (by decide) dX7_reckonBehind_109 rfl ?_
                          refine g_lload C 0 dX7_reckonBehind_110 rfl rfl ?_
                          refine g_aload_n C 4 dX7_reckonBehind_112 rfl rfl rfl ?_
                          refine gf_7_20 C (hOl.1) (v := .ref (a + 10)) rfl dX7_reckonBehind_113 rfl ?_
                          refine g_iload_n C 3 dX7_reckonBehind_116 rfl rfl rfl ?_
                          refine g_iconst C (v := 1) dX7_reckonBehind_117 (by decide) rfl ?_
                          refine g_iadd C dX7_reckonBehind_118 rfl ?_
                          refine g_topi (y := nI (k + 1)) (nI_add _ _) ?_
                          refine g_aaldJJ C (hB.1) (j := (k + 1)) rfl (by omega) (by decide) (gridF_at (by omega)) dX7_reckonBehind_119 rfl ?_
                          refine g_iload_n C 1 dX7_reckonBehind_120 rfl rfl rfl ?_
                          refine g_lald' C (hB.2 ((k + 1)) (by omega)) (j := w) rfl (by omega) (by decide) dX7_reckonBehind_121 rfl ?_
                          refine g_lmul C dX7_reckonBehind_122 rfl ?_
                          refine g_ladd C dX7_reckonBehind_123 rfl ?_
                          refine g_last' C (hB.2 (k) (by omega)) (j := v) rfl (by omega) (by decide) dX7_reckonBehind_124 (pc' := 125) rfl (fun h11 e12 o13 => ?_)
                          have hB : GrJ D h11 (a + 10) (va_up (B4) (k) (vp_updL (B4 (k)) (v) ((B4 (k) (v)) + ((F_step tn sl rd ((k + 1)) (v) (w)) * (B4 ((k + 1)) (w)))))) := hB.put (by omega) e12 o13
                          have hOl : OlAt D h11 (a) (s) (rd) (dn) (w0) := ⟨(o13 _ (by omega)).trans hOl.1, (o13 _ (by omega)).trans hOl.2⟩
                          have hSt : StAt D h11 (s) (tn) (nI (e)) (sl) := ⟨(o13 _ (by omega)).trans hSt.1, (o13 _ (by omega)).trans hSt.2⟩
                          have hM : GrJ D h11 (a + 18) (M4) := ⟨(o13 _ (by omega)).trans hM.1, fun i hi => (o13 _ (by omega)).trans (hM.2 i hi)⟩
                          have hP : GrI D h11 (a + 26) (P4) := ⟨(o13 _ (by omega)).trans hP.1, fun i hi => (o13 _ (by omega)).trans (hP.2 i hi)⟩
                          have hO : ∀ q, (q < a + 10 ∨ a + 34 ≤ q) → h11 q = h q := fun q hq => (o13 q (by omega)).trans (hO q hq)
                          refine g_aload_n C 4 dX7_reckonBehind_125 rfl rfl rfl ?_
                          refine gf_7_23 C (hOl.1) (v := .ref (a + 18)) rfl dX7_reckonBehind_126 rfl ?_
                          refine g_iload_n C 3 dX7_reckonBehind_129 rfl rfl rfl ?_
                          refine g_aaldJJ C (hM.1) (j := k) rfl (by omega) (by decide) (gridF_at (by omega)) dX7_reckonBehind_130 rfl ?_
                          refine g_iload_n C 2 dX7_reckonBehind_131 rfl rfl rfl ?_
                          refine g_aload_n C 4 dX7_reckonBehind_132 rfl rfl rfl ?_
                          refine gf_7_23 C (hOl.1) (v := .ref (a + 18)) rfl dX7_reckonBehind_133 rfl ?_
                          refine g_iload_n C 3 dX7_reckonBehind_136 rfl rfl rfl ?_
                          refine g_aaldJJ C (hM.1) (j := k) rfl (by omega) (by decide) (gridF_at (by omega)) dX7_reckonBehind_137 rfl ?_
                          refine g_iload_n C 2 dX7_reckonBehind_138 rfl rfl rfl ?_
                          refine g_lald' C (hM.2 (k) (by omega)) (j := v) rfl (by omega) (by decide) dX7_reckonBehind_139 rfl ?_
                          refine g_lload C 0 dX7_reckonBehind_140 rfl rfl ?_
                          refine g_aload_n C 4 dX7_reckonBehind_142 rfl rfl rfl ?_
                          refine gf_7_23 C (hOl.1) (v := .ref (a + 18)) rfl dX7_reckonBehind_143 rfl ?_
                          refine g_iload_n C 3 dX7_reckonBehind_146 rfl rfl rfl ?_
                          refine g_iconst C (v := 1) dX7_reckonBehind_147 (by decide) rfl ?_
                          refine g_iadd C dX7_reckonBehind_148 rfl ?_
                          refine g_topi (y := nI (k + 1)) (nI_add _ _) ?_
                          refine g_aaldJJ C (hM.1) (j := (k + 1)) rfl (by omega) (by decide) (gridF_at (by omega)) dX7_reckonBehind_149 rfl ?_
                          refine g_iload_n C 1 dX7_reckonBehind_150 rfl rfl rfl ?_
                          refine g_lald' C (hM.2 ((k + 1)) (by omega)) (j := w) rfl (by omega) (by decide) dX7_reckonBehind_151 rfl ?_
                          refine g_lmul C dX7_reckonBehind_152 rfl ?_
                          refine g_mmax C hw_7_85 (by decide) ⟨Nat.zero_le _, Nat.zero_le _⟩ dX7_reckonBehind_153 (v := mx64 (M4 (k) (v)) ((F_step tn sl rd ((k + 1)) (v) (w)) * (M4 ((k + 1)) (w)))) rfl (hv := rfl) ?_
                          refine g_last' C (hM.2 (k) (by omega)) (j := v) rfl (by omega) (by decide) dX7_reckonBehind_156 (pc' := 157) rfl (fun h14 e15 o16 => ?_)
                          have hM : GrJ D h14 (a + 18) (va_up (M4) (k) (vp_updL (M4 (k)) (v) (mx64 (M4 (k) (v)) ((F_step tn sl rd ((k + 1)) (v) (w)) * (M4 ((k + 1)) (w)))))) := hM.put (by omega) e15 o16
                          have hOl : OlAt D h14 (a) (s) (rd) (dn) (w0) := ⟨(o16 _ (by omega)).trans hOl.1, (o16 _ (by omega)).trans hOl.2⟩
                          have hSt : StAt D h14 (s) (tn) (nI (e)) (sl) := ⟨(o16 _ (by omega)).trans hSt.1, (o16 _ (by omega)).trans hSt.2⟩
                          have hB : GrJ D h14 (a + 10) (va_up (B4) (k) (vp_updL (B4 (k)) (v) ((B4 (k) (v)) + ((F_step tn sl rd ((k + 1)) (v) (w)) * (B4 ((k + 1)) (w)))))) := ⟨(o16 _ (by omega)).trans hB.1, fun i hi => (o16 _ (by omega)).trans (hB.2 i hi)⟩
                          have hP : GrI D h14 (a + 26) (P4) := ⟨(o16 _ (by omega)).trans hP.1, fun i hi => (o16 _ (by omega)).trans (hP.2 i hi)⟩
                          have hO : ∀ q, (q < a + 10 ∨ a + 34 ≤ q) → h14 q = h q := fun q hq => (o16 q (by omega)).trans (hO q hq)
                          refine g_aload_n C 4 dX7_reckonBehind_157 rfl rfl rfl ?_
                          refine gf_7_28 C (hOl.1) (v := .ref (a + 26)) rfl dX7_reckonBehind_158 rfl ?_
                          refine g_iload_n C 3 dX7_reckonBehind_161 rfl rfl rfl ?_
                          refine g_aaldII C (hP.1) (j := k) rfl (by omega) (by decide) (gridF_at (by omega)) dX7_reckonBehind_162 rfl ?_
                          refine g_iload_n C 2 dX7_reckonBehind_163 rfl rfl rfl ?_
                          refine g_dup2 C rfl rfl dX7_reckonBehind_164 rfl ?_
                          refine g_iald' C (hP.2 (k) (by omega)) (j := v) rfl (by omega) (by decide) dX7_reckonBehind_165 rfl ?_
                          refine g_lload C 0 dX7_reckonBehind_166 rfl rfl ?_
                          refine g_lconst C (v := 0) dX7_reckonBehind_168 (by decide) rfl ?_
                          refine g_lcmp C dX7_reckonBehind_169 rfl ?_
                          refine g_if_le C dX7_reckonBehind_170 (tgt := 186) (by decide) (pc' := 173) rfl ?_ ?_
                          · intro c170
                            replace c170 := (lg_cmp_le _ _).mp c170
                            refine g_iconst C (v := 0) dX7_reckonBehind_186 (by decide) rfl ?_
                            refine g_iadd C dX7_reckonBehind_187 rfl ?_
                            refine g_iast' C (hP.2 (k) (by omega)) (j := v) rfl (by omega) (by decide) dX7_reckonBehind_188 (pc' := 189) rfl (fun h17 e18 o19 => ?_)
                            have hP : GrI D h17 (a + 26) (va_up (P4) (k) (upd (P4 (k)) (v) ((P4 (k) (v)) + (0)))) := hP.put (by omega) e18 o19
                            have hOl : OlAt D h17 (a) (s) (rd) (dn) (w0) := ⟨(o19 _ (by omega)).trans hOl.1, (o19 _ (by omega)).trans hOl.2⟩
                            have hSt : StAt D h17 (s) (tn) (nI (e)) (sl) := ⟨(o19 _ (by omega)).trans hSt.1, (o19 _ (by omega)).trans hSt.2⟩
                            have hB : GrJ D h17 (a + 10) (va_up (B4) (k) (vp_updL (B4 (k)) (v) ((B4 (k) (v)) + ((F_step tn sl rd ((k + 1)) (v) (w)) * (B4 ((k + 1)) (w)))))) := ⟨(o19 _ (by omega)).trans hB.1, fun i hi => (o19 _ (by omega)).trans (hB.2 i hi)⟩
                            have hM : GrJ D h17 (a + 18) (va_up (M4) (k) (vp_updL (M4 (k)) (v) (mx64 (M4 (k) (v)) ((F_step tn sl rd ((k + 1)) (v) (w)) * (M4 ((k + 1)) (w)))))) := ⟨(o19 _ (by omega)).trans hM.1, fun i hi => (o19 _ (by omega)).trans (hM.2 i hi)⟩
                            have hO : ∀ q, (q < a + 10 ∨ a + 34 ≤ q) → h17 q = h q := fun q hq => (o19 q (by omega)).trans (hO q hq)
                            refine g_iinc C (v := nI (w + 1)) 1 ([(3, .int (nI (w + 1))), (4, .long (F_step tn sl rd ((k + 1)) (v) (w))), (2, .int (nI (v))), (1, .int (nI (k))), (0, .ref (a))]) dX7_reckonBehind_189 rfl (nI_1 _) (by decide) rfl rfl ?_
                            refine g_goto C dX7_reckonBehind_192 (tgt := 85) (by decide) ?_
                            refine q_lsub [0, 2, 3, 4] (L' := [(3, .int (nI (w + 1))), (2, .int (nI (v))), (1, .int (nI (k))), (0, .ref (a))]) rfl ?_
                            exact ih85 (w + 1) (h17) (va_up (B4) (k) (vp_updL (B4 (k)) (v) ((B4 (k) (v)) + ((F_step tn sl rd ((k + 1)) (v) (w)) * (B4 ((k + 1)) (w)))))) (va_up (M4) (k) (vp_updL (M4 (k)) (v) (mx64 (M4 (k) (v)) ((F_step tn sl rd ((k + 1)) (v) (w)) * (M4 ((k + 1)) (w)))))) (va_up (P4) (k) (upd (P4 (k)) (v) ((P4 (k) (v)) + (0)))) (by omega) (by omega) (hOl) (hSt) (hB) (hM) (hP) (hO) (fun i g1 g2 j g3 => ⟨(g2L_ne (by omega)).trans (hR i g1 g2 j g3).1, (g2L_ne (by omega)).trans (hR i g1 g2 j g3).2.1, (g2I_ne (by omega)).trans (hR i g1 g2 j g3).2.2⟩) (fun j g => ⟨(g2L_ne (by omega)).trans (hV j g).1, (g2L_ne (by omega)).trans (hV j g).2.1, (g2I_ne (by omega)).trans (hV j g).2.2⟩) (g2L_at.trans (by rw [hb, (hR (k + 1) (by omega) (by omega) w (by omega)).1]; rfl)) (g2L_at.trans (by rw [hm, (hR (k + 1) (by omega) (by omega) w (by omega)).2.1]; rfl)) (g2I_at.trans (by rw [hp]; simp only [wyP, if_pos c170]))
                          · intro c170
                            replace c170 := (not_congr (lg_cmp_le _ _)).mp c170
                            refine g_aload_n C 4 dX7_reckonBehind_173 rfl rfl rfl ?_
                            refine gf_7_28 C (hOl.1) (v := .ref (a + 26)) rfl dX7_reckonBehind_174 rfl ?_
                            refine g_iload_n C 3 dX7_reckonBehind_177 rfl rfl rfl ?_
                            refine g_iconst C (v := 1) dX7_reckonBehind_178 (by decide) rfl ?_
                            refine g_iadd C dX7_reckonBehind_179 rfl ?_
                            refine g_topi (y := nI (k + 1)) (nI_add _ _) ?_
                            refine g_aaldII C (hP.1) (j := (k + 1)) rfl (by omega) (by decide) (gridF_at (by omega)) dX7_reckonBehind_180 rfl ?_
                            refine g_iload_n C 1 dX7_reckonBehind_181 rfl rfl rfl ?_
                            refine g_iald' C (hP.2 ((k + 1)) (by omega)) (j := w) rfl (by omega) (by decide) dX7_reckonBehind_182 rfl ?_
                            refine g_goto C dX7_reckonBehind_183 (tgt := 187) (by decide) ?_
                            refine g_iadd C dX7_reckonBehind_187 rfl ?_
                            refine g_iast' C (hP.2 (k) (by omega)) (j := v) rfl (by omega) (by decide) dX7_reckonBehind_188 (pc' := 189) rfl (fun h20 e21 o22 => ?_)
                            have hP : GrI D h20 (a + 26) (va_up (P4) (k) (upd (P4 (k)) (v) ((P4 (k) (v)) + (P4 ((k + 1)) (w))))) := hP.put (by omega) e21 o22
                            have hOl : OlAt D h20 (a) (s) (rd) (dn) (w0) := ⟨(o22 _ (by omega)).trans hOl.1, (o22 _ (by omega)).trans hOl.2⟩
                            have hSt : StAt D h20 (s) (tn) (nI (e)) (sl) := ⟨(o22 _ (by omega)).trans hSt.1, (o22 _ (by omega)).trans hSt.2⟩
                            have hB : GrJ D h20 (a + 10) (va_up (B4) (k) (vp_updL (B4 (k)) (v) ((B4 (k) (v)) + ((F_step tn sl rd ((k + 1)) (v) (w)) * (B4 ((k + 1)) (w)))))) := ⟨(o22 _ (by omega)).trans hB.1, fun i hi => (o22 _ (by omega)).trans (hB.2 i hi)⟩
                            have hM : GrJ D h20 (a + 18) (va_up (M4) (k) (vp_updL (M4 (k)) (v) (mx64 (M4 (k) (v)) ((F_step tn sl rd ((k + 1)) (v) (w)) * (M4 ((k + 1)) (w)))))) := ⟨(o22 _ (by omega)).trans hM.1, fun i hi => (o22 _ (by omega)).trans (hM.2 i hi)⟩
                            have hO : ∀ q, (q < a + 10 ∨ a + 34 ≤ q) → h20 q = h q := fun q hq => (o22 q (by omega)).trans (hO q hq)
                            refine g_iinc C (v := nI (w + 1)) 1 ([(3, .int (nI (w + 1))), (4, .long (F_step tn sl rd ((k + 1)) (v) (w))), (2, .int (nI (v))), (1, .int (nI (k))), (0, .ref (a))]) dX7_reckonBehind_189 rfl (nI_1 _) (by decide) rfl rfl ?_
                            refine g_goto C dX7_reckonBehind_192 (tgt := 85) (by decide) ?_
                            refine q_lsub [0, 2, 3, 4] (L' := [(3, .int (nI (w + 1))), (2, .int (nI (v))), (1, .int (nI (k))), (0, .ref (a))]) rfl ?_
                            exact ih85 (w + 1) (h20) (va_up (B4) (k) (vp_updL (B4 (k)) (v) ((B4 (k) (v)) + ((F_step tn sl rd ((k + 1)) (v) (w)) * (B4 ((k + 1)) (w)))))) (va_up (M4) (k) (vp_updL (M4 (k)) (v) (mx64 (M4 (k) (v)) ((F_step tn sl rd ((k + 1)) (v) (w)) * (M4 ((k + 1)) (w)))))) (va_up (P4) (k) (upd (P4 (k)) (v) ((P4 (k) (v)) + (P4 ((k + 1)) (w))))) (by omega) (by omega) (hOl) (hSt) (hB) (hM) (hP) (hO) (fun i g1 g2 j g3 => ⟨(g2L_ne (by omega)).trans (hR i g1 g2 j g3).1, (g2L_ne (by omega)).trans (hR i g1 g2 j g3).2.1, (g2I_ne (by omega)).trans (hR i g1 g2 j g3).2.2⟩) (fun j g => ⟨(g2L_ne (by omega)).trans (hV j g).1, (g2L_ne (by omega)).trans (hV j g).2.1, (g2I_ne (by omega)).trans (hV j g).2.2⟩) (g2L_at.trans (by rw [hb, (hR (k + 1) (by omega) (by omega) w (by omega)).1]; rfl)) (g2L_at.trans (by rw [hm, (hR (k + 1) (by omega) (by omega) w (by omega)).2.1]; rfl)) (g2I_at.trans (by rw [hp]; simp only [wyP, if_neg c170, (hR (k + 1) (by omega) (by omega) w (by omega)).2.2]))
                    exact loop85 _ (0) (h7) (va_up (B3) (k) (vp_updL (B3 (k)) (v) (0))) (va_up (M3) (k) (vp_updL (M3 (k)) (v) (0))) (va_up (P3) (k) (upd (P3 (k)) (v) (0))) (Nat.lt_succ_self _) (by omega) (hOl) (hSt) (hB) (hM) (hP) (hO) (fun i g1 g2 j g3 => ⟨(g2L_ne (by omega)).trans (hR i g1 g2 j g3).1, (g2L_ne (by omega)).trans (hR i g1 g2 j g3).2.1, (g2I_ne (by omega)).trans (hR i g1 g2 j g3).2.2⟩) (fun j g => ⟨(g2L_ne (by omega)).trans (hV j g).1, (g2L_ne (by omega)).trans (hV j g).2.1, (g2I_ne (by omega)).trans (hV j g).2.2⟩) (g2L_at) (g2L_at) (g2I_at)
              exact loop51 _ (0) (h2) (B2) (M2) (P2) (Nat.lt_succ_self _) (by omega) (hOl) (hSt) (hB) (hM) (hP) (hO) (fun i g1 g2 j g3 => hR i g1 g2 j g3) (fun j g => absurd g (Nat.not_lt_zero _))
        exact loop45 _ (6) (h1) (B1) (M1) (P1) (Nat.lt_succ_self _) (by omega) (hOl) (hSt) (hB) (hM) (hP) (hO) (fun i g1 g2 j g3 => by obtain rfl : i = 6 := (by omega); exact hr j (by omega))
      · intro c4
        replace c4 := (not_congr (nI_leI (a := 3) (b := v) (by omega) (by omega))).mp c4
        refine g_aload_n C 1 dX7_reckonBehind_7 rfl rfl rfl ?_
        refine gf_7_20 C (hOl.1) (v := .ref (a + 10)) rfl dX7_reckonBehind_8 rfl ?_
        refine g_bipush C (v := 6) dX7_reckonBehind_11 (by decide) rfl ?_
        refine g_aaldJJ C (hB.1) (j := 6) rfl (by omega) (by decide) (gridF_at (by omega)) dX7_reckonBehind_13 rfl ?_
        refine g_iload_n C 0 dX7_reckonBehind_14 rfl rfl rfl ?_
        refine g_lconst C (v := 1) dX7_reckonBehind_15 (by decide) rfl ?_
        refine g_last' C (hB.2 (6) (by omega)) (j := v) rfl (by omega) (by decide) dX7_reckonBehind_16 (pc' := 17) rfl (fun h23 e24 o25 => ?_)
        have hB : GrJ D h23 (a + 10) (va_up (B1) (6) (vp_updL (B1 (6)) (v) (1))) := hB.put (by omega) e24 o25
        have hOl : OlAt D h23 (a) (s) (rd) (dn) (w0) := ⟨(o25 _ (by omega)).trans hOl.1, (o25 _ (by omega)).trans hOl.2⟩
        have hSt : StAt D h23 (s) (tn) (nI (e)) (sl) := ⟨(o25 _ (by omega)).trans hSt.1, (o25 _ (by omega)).trans hSt.2⟩
        have hM : GrJ D h23 (a + 18) (M1) := ⟨(o25 _ (by omega)).trans hM.1, fun i hi => (o25 _ (by omega)).trans (hM.2 i hi)⟩
        have hP : GrI D h23 (a + 26) (P1) := ⟨(o25 _ (by omega)).trans hP.1, fun i hi => (o25 _ (by omega)).trans (hP.2 i hi)⟩
        have hO : ∀ q, (q < a + 10 ∨ a + 34 ≤ q) → h23 q = h q := fun q hq => (o25 q (by omega)).trans (hO q hq)
        refine g_aload_n C 1 dX7_reckonBehind_17 rfl rfl rfl ?_
        refine gf_7_23 C (hOl.1) (v := .ref (a + 18)) rfl dX7_reckonBehind_18 rfl ?_
        refine g_bipush C (v := 6) dX7_reckonBehind_21 (by decide) rfl ?_
        refine g_aaldJJ C (hM.1) (j := 6) rfl (by omega) (by decide) (gridF_at (by omega)) dX7_reckonBehind_23 rfl ?_
        refine g_iload_n C 0 dX7_reckonBehind_24 rfl rfl rfl ?_
        refine g_lconst C (v := 1) dX7_reckonBehind_25 (by decide) rfl ?_
        refine g_last' C (hM.2 (6) (by omega)) (j := v) rfl (by omega) (by decide) dX7_reckonBehind_26 (pc' := 27) rfl (fun h26 e27 o28 => ?_)
        have hM : GrJ D h26 (a + 18) (va_up (M1) (6) (vp_updL (M1 (6)) (v) (1))) := hM.put (by omega) e27 o28
        have hOl : OlAt D h26 (a) (s) (rd) (dn) (w0) := ⟨(o28 _ (by omega)).trans hOl.1, (o28 _ (by omega)).trans hOl.2⟩
        have hSt : StAt D h26 (s) (tn) (nI (e)) (sl) := ⟨(o28 _ (by omega)).trans hSt.1, (o28 _ (by omega)).trans hSt.2⟩
        have hB : GrJ D h26 (a + 10) (va_up (B1) (6) (vp_updL (B1 (6)) (v) (1))) := ⟨(o28 _ (by omega)).trans hB.1, fun i hi => (o28 _ (by omega)).trans (hB.2 i hi)⟩
        have hP : GrI D h26 (a + 26) (P1) := ⟨(o28 _ (by omega)).trans hP.1, fun i hi => (o28 _ (by omega)).trans (hP.2 i hi)⟩
        have hO : ∀ q, (q < a + 10 ∨ a + 34 ≤ q) → h26 q = h q := fun q hq => (o28 q (by omega)).trans (hO q hq)
        refine g_aload_n C 1 dX7_reckonBehind_27 rfl rfl rfl ?_
        refine gf_7_28 C (hOl.1) (v := .ref (a + 26)) rfl dX7_reckonBehind_28 rfl ?_
        refine g_bipush C (v := 6) dX7_reckonBehind_31 (by decide) rfl ?_
        refine g_aaldII C (hP.1) (j := 6) rfl (by omega) (by decide) (gridF_at (by omega)) dX7_reckonBehind_33 rfl ?_
        refine g_iload_n C 0 dX7_reckonBehind_34 rfl rfl rfl ?_
        refine g_iconst C (v := 1) dX7_reckonBehind_35 (by decide) rfl ?_
        refine g_iast' C (hP.2 (6) (by omega)) (j := v) rfl (by omega) (by decide) dX7_reckonBehind_36 (pc' := 37) rfl (fun h29 e30 o31 => ?_)
        have hP : GrI D h29 (a + 26) (va_up (P1) (6) (upd (P1 (6)) (v) (1))) := hP.put (by omega) e30 o31
        have hOl : OlAt D h29 (a) (s) (rd) (dn) (w0) := ⟨(o31 _ (by omega)).trans hOl.1, (o31 _ (by omega)).trans hOl.2⟩
        have hSt : StAt D h29 (s) (tn) (nI (e)) (sl) := ⟨(o31 _ (by omega)).trans hSt.1, (o31 _ (by omega)).trans hSt.2⟩
        have hB : GrJ D h29 (a + 10) (va_up (B1) (6) (vp_updL (B1 (6)) (v) (1))) := ⟨(o31 _ (by omega)).trans hB.1, fun i hi => (o31 _ (by omega)).trans (hB.2 i hi)⟩
        have hM : GrJ D h29 (a + 18) (va_up (M1) (6) (vp_updL (M1 (6)) (v) (1))) := ⟨(o31 _ (by omega)).trans hM.1, fun i hi => (o31 _ (by omega)).trans (hM.2 i hi)⟩
        have hO : ∀ q, (q < a + 10 ∨ a + 34 ≤ q) → h29 q = h q := fun q hq => (o31 q (by omega)).trans (hO q hq)
        refine g_iinc C (v := nI (v + 1)) 0 ([(1, .int (nI (v + 1))), (0, .ref (a))]) dX7_reckonBehind_37 rfl (nI_1 _) (by decide) rfl rfl ?_
        refine g_goto C dX7_reckonBehind_40 (tgt := 2) (by decide) ?_
        exact ih2 (v + 1) (h29) (va_up (B1) (6) (vp_updL (B1 (6)) (v) (1))) (va_up (M1) (6) (vp_updL (M1 (6)) (v) (1))) (va_up (P1) (6) (upd (P1 (6)) (v) (1))) (by omega) (by omega) (hOl) (hSt) (hB) (hM) (hP) (hO) (fun j g => by by_cases e1 : j = v; (subst e1; exact ⟨g2L_at, g2L_at, g2I_at⟩); exact ⟨(g2L_ne (by omega)).trans (hr j (by omega)).1, (g2L_ne (by omega)).trans (hr j (by omega)).2.1, (g2I_ne (by omega)).trans (hr j (by omega)).2.2⟩)
  exact loop2 _ (0) (h) (B) (M) (P) (Nat.lt_succ_self _) (by omega) (hOl) (hSt) (hB) (hM) (hP) (hO) (fun j g => absurd g (Nat.not_lt_zero _))
end
