section
-- ===== PART A: goes FIRST, ahead of the names: the tables' words, and 'selects' of the private methods out of them =====
/-- a private method of a class that the tables say can be made, by its rows of tables_1 -/
def lw_okq (q : MethodName × Nat) : Prop := (q.1.cls ≠ "java/lang/invoke/MethodHandle" ∧ q.1.cls ≠ "java/lang/invoke/VarHandle") ∧ Cond.instantiable q.1.cls q.2 ∈ tables_1 ∧ Cond.privateMethod q.1 ∈ tables_1 ∧ Cond.instanceMethod q.1 ∈ tables_1
theorem lw_p0 : lw_okq (⟨"IssueTimes", "append", "(IIIIIZ)I"⟩, 14) := ⟨⟨by decide +kernel, by decide +kernel⟩, List.mem_of_getElem? (i := 5) (by decide +kernel), List.mem_of_getElem? (i := 65) (by decide +kernel), List.mem_of_getElem? (i := 66) (by decide +kernel)⟩
theorem lw_p1 : lw_okq (⟨"IssueTimes", "settle", "(I)V"⟩, 14) := ⟨⟨by decide +kernel, by decide +kernel⟩, List.mem_of_getElem? (i := 5) (by decide +kernel), List.mem_of_getElem? (i := 69) (by decide +kernel), List.mem_of_getElem? (i := 70) (by decide +kernel)⟩
theorem lw_p2 : lw_okq (⟨"IssueTimes", "joinsGroup", "(I)Z"⟩, 14) := ⟨⟨by decide +kernel, by decide +kernel⟩, List.mem_of_getElem? (i := 5) (by decide +kernel), List.mem_of_getElem? (i := 73) (by decide +kernel), List.mem_of_getElem? (i := 74) (by decide +kernel)⟩
theorem lw_p3 : lw_okq (⟨"IssueTimes", "isBehindSlot", "(I)Z"⟩, 14) := ⟨⟨by decide +kernel, by decide +kernel⟩, List.mem_of_getElem? (i := 5) (by decide +kernel), List.mem_of_getElem? (i := 77) (by decide +kernel), List.mem_of_getElem? (i := 78) (by decide +kernel)⟩
theorem lw_p4 : lw_okq (⟨"IssueTimes", "liesBehind", "(I)Z"⟩, 14) := ⟨⟨by decide +kernel, by decide +kernel⟩, List.mem_of_getElem? (i := 5) (by decide +kernel), List.mem_of_getElem? (i := 81) (by decide +kernel), List.mem_of_getElem? (i := 82) (by decide +kernel)⟩
theorem lw_p5 : lw_okq (⟨"IssueTimes", "isRedirected", "(I)Z"⟩, 14) := ⟨⟨by decide +kernel, by decide +kernel⟩, List.mem_of_getElem? (i := 5) (by decide +kernel), List.mem_of_getElem? (i := 85) (by decide +kernel), List.mem_of_getElem? (i := 86) (by decide +kernel)⟩
theorem lw_p6 : lw_okq (⟨"IssueTimes", "isBehindFailingOrSingle", "(I)Z"⟩, 14) := ⟨⟨by decide +kernel, by decide +kernel⟩, List.mem_of_getElem? (i := 5) (by decide +kernel), List.mem_of_getElem? (i := 89) (by decide +kernel), List.mem_of_getElem? (i := 90) (by decide +kernel)⟩
theorem lw_p7 : lw_okq (⟨"IssueTimes", "isBehindSlotOfMissedBranch", "(I)Z"⟩, 14) := ⟨⟨by decide +kernel, by decide +kernel⟩, List.mem_of_getElem? (i := 5) (by decide +kernel), List.mem_of_getElem? (i := 93) (by decide +kernel), List.mem_of_getElem? (i := 94) (by decide +kernel)⟩
theorem lw_p8 : lw_okq (⟨"IssueTimes", "isMissed", "(I)Z"⟩, 14) := ⟨⟨by decide +kernel, by decide +kernel⟩, List.mem_of_getElem? (i := 5) (by decide +kernel), List.mem_of_getElem? (i := 97) (by decide +kernel), List.mem_of_getElem? (i := 98) (by decide +kernel)⟩
theorem lw_p9 : lw_okq (⟨"IssueTimes", "leastFetchTime", "(I)I"⟩, 14) := ⟨⟨by decide +kernel, by decide +kernel⟩, List.mem_of_getElem? (i := 5) (by decide +kernel), List.mem_of_getElem? (i := 101) (by decide +kernel), List.mem_of_getElem? (i := 102) (by decide +kernel)⟩
theorem lw_p10 : lw_okq (⟨"IssueTimes", "leastIssueTime", "(I)I"⟩, 14) := ⟨⟨by decide +kernel, by decide +kernel⟩, List.mem_of_getElem? (i := 5) (by decide +kernel), List.mem_of_getElem? (i := 108) (by decide +kernel), List.mem_of_getElem? (i := 109) (by decide +kernel)⟩
theorem lw_p11 : lw_okq (⟨"IssueTimes", "leastInOrder", "(I)I"⟩, 14) := ⟨⟨by decide +kernel, by decide +kernel⟩, List.mem_of_getElem? (i := 5) (by decide +kernel), List.mem_of_getElem? (i := 112) (by decide +kernel), List.mem_of_getElem? (i := 113) (by decide +kernel)⟩
theorem lw_p12 : lw_okq (⟨"IssueTimes", "makesPair", "(I)Z"⟩, 14) := ⟨⟨by decide +kernel, by decide +kernel⟩, List.mem_of_getElem? (i := 5) (by decide +kernel), List.mem_of_getElem? (i := 116) (by decide +kernel), List.mem_of_getElem? (i := 117) (by decide +kernel)⟩
theorem lw_p13 : lw_okq (⟨"IssueTimes", "reads", "(II)Z"⟩, 14) := ⟨⟨by decide +kernel, by decide +kernel⟩, List.mem_of_getElem? (i := 5) (by decide +kernel), List.mem_of_getElem? (i := 126) (by decide +kernel), List.mem_of_getElem? (i := 127) (by decide +kernel)⟩
theorem lw_p14 : lw_okq (⟨"IssueTimes", "whenReadable", "(II)I"⟩, 14) := ⟨⟨by decide +kernel, by decide +kernel⟩, List.mem_of_getElem? (i := 5) (by decide +kernel), List.mem_of_getElem? (i := 130) (by decide +kernel), List.mem_of_getElem? (i := 131) (by decide +kernel)⟩
theorem lw_p15 : lw_okq (⟨"IssueTimes", "whenDividerIsFree", "(I)I"⟩, 14) := ⟨⟨by decide +kernel, by decide +kernel⟩, List.mem_of_getElem? (i := 5) (by decide +kernel), List.mem_of_getElem? (i := 137) (by decide +kernel), List.mem_of_getElem? (i := 138) (by decide +kernel)⟩
def lw_privs_1 : List (MethodName × Nat) := [(⟨"IssueTimes", "append", "(IIIIIZ)I"⟩, 14), (⟨"IssueTimes", "settle", "(I)V"⟩, 14), (⟨"IssueTimes", "joinsGroup", "(I)Z"⟩, 14), (⟨"IssueTimes", "isBehindSlot", "(I)Z"⟩, 14), (⟨"IssueTimes", "liesBehind", "(I)Z"⟩, 14), (⟨"IssueTimes", "isRedirected", "(I)Z"⟩, 14), (⟨"IssueTimes", "isBehindFailingOrSingle", "(I)Z"⟩, 14), (⟨"IssueTimes", "isBehindSlotOfMissedBranch", "(I)Z"⟩, 14), (⟨"IssueTimes", "isMissed", "(I)Z"⟩, 14), (⟨"IssueTimes", "leastFetchTime", "(I)I"⟩, 14), (⟨"IssueTimes", "leastIssueTime", "(I)I"⟩, 14), (⟨"IssueTimes", "leastInOrder", "(I)I"⟩, 14), (⟨"IssueTimes", "makesPair", "(I)Z"⟩, 14), (⟨"IssueTimes", "reads", "(II)Z"⟩, 14), (⟨"IssueTimes", "whenReadable", "(II)I"⟩, 14), (⟨"IssueTimes", "whenDividerIsFree", "(I)I"⟩, 14)]
theorem lw_r1 : ∀ q ∈ lw_privs_1, lw_okq q := List.forall_mem_cons.mpr ⟨lw_p0, List.forall_mem_cons.mpr ⟨lw_p1, List.forall_mem_cons.mpr ⟨lw_p2, List.forall_mem_cons.mpr ⟨lw_p3, List.forall_mem_cons.mpr ⟨lw_p4, List.forall_mem_cons.mpr ⟨lw_p5, List.forall_mem_cons.mpr ⟨lw_p6, List.forall_mem_cons.mpr ⟨lw_p7, List.forall_mem_cons.mpr ⟨lw_p8, List.forall_mem_cons.mpr ⟨lw_p9, List.forall_mem_cons.mpr ⟨lw_p10, List.forall_mem_cons.mpr ⟨lw_p11, List.forall_mem_cons.mpr ⟨lw_p12, List.forall_mem_cons.mpr ⟨lw_p13, List.forall_mem_cons.mpr ⟨lw_p14, List.forall_mem_cons.mpr ⟨lw_p15, fun _ h => absurd h List.not_mem_nil⟩⟩⟩⟩⟩⟩⟩⟩⟩⟩⟩⟩⟩⟩⟩⟩
theorem lw_p16 : lw_okq (⟨"IssueTimes", "doneBefore", "(I)I"⟩, 14) := ⟨⟨by decide +kernel, by decide +kernel⟩, List.mem_of_getElem? (i := 5) (by decide +kernel), List.mem_of_getElem? (i := 141) (by decide +kernel), List.mem_of_getElem? (i := 142) (by decide +kernel)⟩
theorem lw_p17 : lw_okq (⟨"IssueTimes", "leastDoneTime", "(I)I"⟩, 14) := ⟨⟨by decide +kernel, by decide +kernel⟩, List.mem_of_getElem? (i := 5) (by decide +kernel), List.mem_of_getElem? (i := 145) (by decide +kernel), List.mem_of_getElem? (i := 146) (by decide +kernel)⟩
theorem lw_p18 : lw_okq (⟨"IssueTimes", "failLast", "()V"⟩, 14) := ⟨⟨by decide +kernel, by decide +kernel⟩, List.mem_of_getElem? (i := 5) (by decide +kernel), List.mem_of_getElem? (i := 160) (by decide +kernel), List.mem_of_getElem? (i := 161) (by decide +kernel)⟩
theorem lw_p19 : lw_okq (⟨"IssueTimes", "isInstruction", "(I)Z"⟩, 14) := ⟨⟨by decide +kernel, by decide +kernel⟩, List.mem_of_getElem? (i := 5) (by decide +kernel), List.mem_of_getElem? (i := 176) (by decide +kernel), List.mem_of_getElem? (i := 177) (by decide +kernel)⟩
theorem lw_p20 : lw_okq (⟨"IssueTimes", "groupSize", "(I)I"⟩, 14) := ⟨⟨by decide +kernel, by decide +kernel⟩, List.mem_of_getElem? (i := 5) (by decide +kernel), List.mem_of_getElem? (i := 184) (by decide +kernel), List.mem_of_getElem? (i := 185) (by decide +kernel)⟩
theorem lw_p21 : lw_okq (⟨"IssueTimes", "isIssuedAsSecond", "(I)Z"⟩, 14) := ⟨⟨by decide +kernel, by decide +kernel⟩, List.mem_of_getElem? (i := 5) (by decide +kernel), List.mem_of_getElem? (i := 188) (by decide +kernel), List.mem_of_getElem? (i := 189) (by decide +kernel)⟩
theorem lw_p22 : lw_okq (⟨"IssueTimes", "stageAt", "(II)I"⟩, 14) := ⟨⟨by decide +kernel, by decide +kernel⟩, List.mem_of_getElem? (i := 5) (by decide +kernel), List.mem_of_getElem? (i := 203) (by decide +kernel), List.mem_of_getElem? (i := 204) (by decide +kernel)⟩
theorem lw_p23 : lw_okq (⟨"IssueTimes", "cyclesWithTwoDone", "()I"⟩, 14) := ⟨⟨by decide +kernel, by decide +kernel⟩, List.mem_of_getElem? (i := 5) (by decide +kernel), List.mem_of_getElem? (i := 215) (by decide +kernel), List.mem_of_getElem? (i := 216) (by decide +kernel)⟩
theorem lw_p24 : lw_okq (⟨"IssueTimes", "longestWayBetweenDone", "()I"⟩, 14) := ⟨⟨by decide +kernel, by decide +kernel⟩, List.mem_of_getElem? (i := 5) (by decide +kernel), List.mem_of_getElem? (i := 219) (by decide +kernel), List.mem_of_getElem? (i := 220) (by decide +kernel)⟩
theorem lw_p25 : lw_okq (⟨"IssueTimes", "groups", "()I"⟩, 14) := ⟨⟨by decide +kernel, by decide +kernel⟩, List.mem_of_getElem? (i := 5) (by decide +kernel), List.mem_of_getElem? (i := 223) (by decide +kernel), List.mem_of_getElem? (i := 224) (by decide +kernel)⟩
theorem lw_p26 : lw_okq (⟨"IssueTimes", "pairsIssuedAtOnce", "()I"⟩, 14) := ⟨⟨by decide +kernel, by decide +kernel⟩, List.mem_of_getElem? (i := 5) (by decide +kernel), List.mem_of_getElem? (i := 227) (by decide +kernel), List.mem_of_getElem? (i := 228) (by decide +kernel)⟩
theorem lw_p27 : lw_okq (⟨"IssueTimes", "mostAtWork", "()I"⟩, 14) := ⟨⟨by decide +kernel, by decide +kernel⟩, List.mem_of_getElem? (i := 5) (by decide +kernel), List.mem_of_getElem? (i := 231) (by decide +kernel), List.mem_of_getElem? (i := 232) (by decide +kernel)⟩
theorem lw_p28 : lw_okq (⟨"IssueTimesModel", "come", "(IIIIIZ)I"⟩, 18) := ⟨⟨by decide +kernel, by decide +kernel⟩, List.mem_of_getElem? (i := 235) (by decide +kernel), List.mem_of_getElem? (i := 303) (by decide +kernel), List.mem_of_getElem? (i := 304) (by decide +kernel)⟩
theorem lw_p29 : lw_okq (⟨"IssueTimesModel", "reckon", "()V"⟩, 18) := ⟨⟨by decide +kernel, by decide +kernel⟩, List.mem_of_getElem? (i := 235) (by decide +kernel), List.mem_of_getElem? (i := 331) (by decide +kernel), List.mem_of_getElem? (i := 332) (by decide +kernel)⟩
theorem lw_p30 : lw_okq (⟨"IssueTimesModel", "stand", "(I)V"⟩, 18) := ⟨⟨by decide +kernel, by decide +kernel⟩, List.mem_of_getElem? (i := 235) (by decide +kernel), List.mem_of_getElem? (i := 335) (by decide +kernel), List.mem_of_getElem? (i := 336) (by decide +kernel)⟩
theorem lw_p31 : lw_okq (⟨"IssueTimesModel", "fetch", "(I)V"⟩, 18) := ⟨⟨by decide +kernel, by decide +kernel⟩, List.mem_of_getElem? (i := 235) (by decide +kernel), List.mem_of_getElem? (i := 339) (by decide +kernel), List.mem_of_getElem? (i := 340) (by decide +kernel)⟩
def lw_privs_2 : List (MethodName × Nat) := [(⟨"IssueTimes", "doneBefore", "(I)I"⟩, 14), (⟨"IssueTimes", "leastDoneTime", "(I)I"⟩, 14), (⟨"IssueTimes", "failLast", "()V"⟩, 14), (⟨"IssueTimes", "isInstruction", "(I)Z"⟩, 14), (⟨"IssueTimes", "groupSize", "(I)I"⟩, 14), (⟨"IssueTimes", "isIssuedAsSecond", "(I)Z"⟩, 14), (⟨"IssueTimes", "stageAt", "(II)I"⟩, 14), (⟨"IssueTimes", "cyclesWithTwoDone", "()I"⟩, 14), (⟨"IssueTimes", "longestWayBetweenDone", "()I"⟩, 14), (⟨"IssueTimes", "groups", "()I"⟩, 14), (⟨"IssueTimes", "pairsIssuedAtOnce", "()I"⟩, 14), (⟨"IssueTimes", "mostAtWork", "()I"⟩, 14), (⟨"IssueTimesModel", "come", "(IIIIIZ)I"⟩, 18), (⟨"IssueTimesModel", "reckon", "()V"⟩, 18), (⟨"IssueTimesModel", "stand", "(I)V"⟩, 18), (⟨"IssueTimesModel", "fetch", "(I)V"⟩, 18)]
theorem lw_r2 : ∀ q ∈ lw_privs_2, lw_okq q := List.forall_mem_cons.mpr ⟨lw_p16, List.forall_mem_cons.mpr ⟨lw_p17, List.forall_mem_cons.mpr ⟨lw_p18, List.forall_mem_cons.mpr ⟨lw_p19, List.forall_mem_cons.mpr ⟨lw_p20, List.forall_mem_cons.mpr ⟨lw_p21, List.forall_mem_cons.mpr ⟨lw_p22, List.forall_mem_cons.mpr ⟨lw_p23, List.forall_mem_cons.mpr ⟨lw_p24, List.forall_mem_cons.mpr ⟨lw_p25, List.forall_mem_cons.mpr ⟨lw_p26, List.forall_mem_cons.mpr ⟨lw_p27, List.forall_mem_cons.mpr ⟨lw_p28, List.forall_mem_cons.mpr ⟨lw_p29, List.forall_mem_cons.mpr ⟨lw_p30, List.forall_mem_cons.mpr ⟨lw_p31, fun _ h => absurd h List.not_mem_nil⟩⟩⟩⟩⟩⟩⟩⟩⟩⟩⟩⟩⟩⟩⟩⟩
theorem lw_p32 : lw_okq (⟨"IssueTimesModel", "joins", "(I)Z"⟩, 18) := ⟨⟨by decide +kernel, by decide +kernel⟩, List.mem_of_getElem? (i := 235) (by decide +kernel), List.mem_of_getElem? (i := 343) (by decide +kernel), List.mem_of_getElem? (i := 344) (by decide +kernel)⟩
theorem lw_p33 : lw_okq (⟨"IssueTimesModel", "ready", "(I)I"⟩, 18) := ⟨⟨by decide +kernel, by decide +kernel⟩, List.mem_of_getElem? (i := 235) (by decide +kernel), List.mem_of_getElem? (i := 350) (by decide +kernel), List.mem_of_getElem? (i := 351) (by decide +kernel)⟩
theorem lw_p34 : lw_okq (⟨"IssueTimesModel", "pairs", "(I)Z"⟩, 18) := ⟨⟨by decide +kernel, by decide +kernel⟩, List.mem_of_getElem? (i := 235) (by decide +kernel), List.mem_of_getElem? (i := 357) (by decide +kernel), List.mem_of_getElem? (i := 358) (by decide +kernel)⟩
theorem lw_p35 : lw_okq (⟨"IssueTimesModel", "stageOf", "(II)I"⟩, 18) := ⟨⟨by decide +kernel, by decide +kernel⟩, List.mem_of_getElem? (i := 235) (by decide +kernel), List.mem_of_getElem? (i := 375) (by decide +kernel), List.mem_of_getElem? (i := 376) (by decide +kernel)⟩
theorem lw_p36 : lw_okq (⟨"IssueTimesModel", "inStage", "(II)I"⟩, 18) := ⟨⟨by decide +kernel, by decide +kernel⟩, List.mem_of_getElem? (i := 235) (by decide +kernel), List.mem_of_getElem? (i := 383) (by decide +kernel), List.mem_of_getElem? (i := 384) (by decide +kernel)⟩
theorem lw_p37 : lw_okq (⟨"IssueTimesModel", "counted", "(I)I"⟩, 18) := ⟨⟨by decide +kernel, by decide +kernel⟩, List.mem_of_getElem? (i := 235) (by decide +kernel), List.mem_of_getElem? (i := 391) (by decide +kernel), List.mem_of_getElem? (i := 392) (by decide +kernel)⟩
theorem lw_p38 : lw_okq (⟨"IssueTimesModel", "longest", "()I"⟩, 18) := ⟨⟨by decide +kernel, by decide +kernel⟩, List.mem_of_getElem? (i := 235) (by decide +kernel), List.mem_of_getElem? (i := 395) (by decide +kernel), List.mem_of_getElem? (i := 396) (by decide +kernel)⟩
theorem lw_p39 : lw_okq (⟨"IssueTimesModel", "busiest", "()I"⟩, 18) := ⟨⟨by decide +kernel, by decide +kernel⟩, List.mem_of_getElem? (i := 235) (by decide +kernel), List.mem_of_getElem? (i := 399) (by decide +kernel), List.mem_of_getElem? (i := 400) (by decide +kernel)⟩
def lw_privs_3 : List (MethodName × Nat) := [(⟨"IssueTimesModel", "joins", "(I)Z"⟩, 18), (⟨"IssueTimesModel", "ready", "(I)I"⟩, 18), (⟨"IssueTimesModel", "pairs", "(I)Z"⟩, 18), (⟨"IssueTimesModel", "stageOf", "(II)I"⟩, 18), (⟨"IssueTimesModel", "inStage", "(II)I"⟩, 18), (⟨"IssueTimesModel", "counted", "(I)I"⟩, 18), (⟨"IssueTimesModel", "longest", "()I"⟩, 18), (⟨"IssueTimesModel", "busiest", "()I"⟩, 18)]
theorem lw_r3 : ∀ q ∈ lw_privs_3, lw_okq q := List.forall_mem_cons.mpr ⟨lw_p32, List.forall_mem_cons.mpr ⟨lw_p33, List.forall_mem_cons.mpr ⟨lw_p34, List.forall_mem_cons.mpr ⟨lw_p35, List.forall_mem_cons.mpr ⟨lw_p36, List.forall_mem_cons.mpr ⟨lw_p37, List.forall_mem_cons.mpr ⟨lw_p38, List.forall_mem_cons.mpr ⟨lw_p39, fun _ h => absurd h List.not_mem_nil⟩⟩⟩⟩⟩⟩⟩⟩
def lw_privs : List (MethodName × Nat) := lw_privs_1 ++ (lw_privs_2 ++ (lw_privs_3))
def lw_tbl : List Cond := k2_sels lw_privs ++ tables_1
theorem lw_privs_ok : ∀ q ∈ lw_privs, lw_okq q := by
  show ∀ q ∈ lw_privs_1 ++ (lw_privs_2 ++ (lw_privs_3)), lw_okq q
  exact List.forall_mem_append.mpr ⟨lw_r1, List.forall_mem_append.mpr ⟨lw_r2, lw_r3⟩⟩
end
section
def RX0 : String := "IssueTimes"
def TX0 : u_T := fun k => match k with
  | 0 => ("IssueTimes", "count", "I", false)
  | 1 => ("IssueTimes", "kinds", "[I", true)
  | 2 => ("IssueTimes", "writes", "[I", true)
  | 3 => ("IssueTimes", "firstReads", "[I", true)
  | 4 => ("IssueTimes", "secondReads", "[I", true)
  | 5 => ("IssueTimes", "foresights", "[I", true)
  | 6 => ("IssueTimes", "goings", "[Z", true)
  | 7 => ("IssueTimes", "toldToFail", "[Z", true)
  | 8 => ("IssueTimes", "inSlot", "[Z", true)
  | 9 => ("IssueTimes", "failing", "[Z", true)
  | 10 => ("IssueTimes", "beginsGroup", "[Z", true)
  | 11 => ("IssueTimes", "fetchTimes", "[I", true)
  | 12 => ("IssueTimes", "issueTimes", "[I", true)
  | _ => ("IssueTimes", "doneTimes", "[I", true)
def tyX0 : Nat → FieldType := fun k => match k with
  | 0 => .int
  | 1 => .array .int
  | 2 => .array .int
  | 3 => .array .int
  | 4 => .array .int
  | 5 => .array .int
  | 6 => .array .boolean
  | 7 => .array .boolean
  | 8 => .array .boolean
  | 9 => .array .boolean
  | 10 => .array .boolean
  | 11 => .array .int
  | 12 => .array .int
  | _ => .array .int
theorem nmX0 : ∀ a, a < 14 → ∀ b, b < 14 → a ≠ b → (TX0 a).2.1 ≠ (TX0 b).2.1 := by decide +kernel
theorem tyX0_ok : ∀ k, k < 14 → parseFieldDescriptor (TX0 k).2.2.1 = some (tyX0 k) := by decide +kernel
abbrev cX0_init : ByteArray := prog_1_method_1_code
def yX0_init : MethodName := ⟨RX0, "<init>", "()V"⟩
abbrev cX0_put : ByteArray := prog_1_method_2_code
def yX0_put : MethodName := ⟨RX0, "put", "(IIII)I"⟩
abbrev cX0_isRegister : ByteArray := prog_1_method_13_code
def yX0_isRegister : MethodName := ⟨RX0, "isRegister", "(I)Z"⟩
abbrev cX0_append : ByteArray := prog_1_method_16_code
def yX0_append : MethodName := ⟨RX0, "append", "(IIIIIZ)I"⟩
abbrev cX0_settle : ByteArray := prog_1_method_18_code
def yX0_settle : MethodName := ⟨RX0, "settle", "(I)V"⟩
abbrev cX0_joinsGroup : ByteArray := prog_1_method_25_code
def yX0_joinsGroup : MethodName := ⟨RX0, "joinsGroup", "(I)Z"⟩
abbrev cX0_isBehindSlot : ByteArray := prog_1_method_21_code
def yX0_isBehindSlot : MethodName := ⟨RX0, "isBehindSlot", "(I)Z"⟩
abbrev cX0_liesBehind : ByteArray := prog_1_method_19_code
def yX0_liesBehind : MethodName := ⟨RX0, "liesBehind", "(I)Z"⟩
abbrev cX0_isRedirected : ByteArray := prog_1_method_20_code
def yX0_isRedirected : MethodName := ⟨RX0, "isRedirected", "(I)Z"⟩
abbrev cX0_isBehindFailingOrSingle : ByteArray := prog_1_method_22_code
def yX0_isBehindFailingOrSingle : MethodName := ⟨RX0, "isBehindFailingOrSingle", "(I)Z"⟩
abbrev cX0_isBehindSlotOfMissedBranch : ByteArray := prog_1_method_23_code
def yX0_isBehindSlotOfMissedBranch : MethodName := ⟨RX0, "isBehindSlotOfMissedBranch", "(I)Z"⟩
abbrev cX0_isMissed : ByteArray := prog_1_method_24_code
def yX0_isMissed : MethodName := ⟨RX0, "isMissed", "(I)Z"⟩
abbrev cX0_leastFetchTime : ByteArray := prog_1_method_26_code
def yX0_leastFetchTime : MethodName := ⟨RX0, "leastFetchTime", "(I)I"⟩
abbrev cX0_leastIssueTime : ByteArray := prog_1_method_28_code
def yX0_leastIssueTime : MethodName := ⟨RX0, "leastIssueTime", "(I)I"⟩
abbrev cX0_leastInOrder : ByteArray := prog_1_method_29_code
def yX0_leastInOrder : MethodName := ⟨RX0, "leastInOrder", "(I)I"⟩
abbrev cX0_makesPair : ByteArray := prog_1_method_30_code
def yX0_makesPair : MethodName := ⟨RX0, "makesPair", "(I)Z"⟩
abbrev cX0_usesMemory : ByteArray := prog_1_method_31_code
def yX0_usesMemory : MethodName := ⟨RX0, "usesMemory", "(I)Z"⟩
abbrev cX0_usesMultiplier : ByteArray := prog_1_method_32_code
def yX0_usesMultiplier : MethodName := ⟨RX0, "usesMultiplier", "(I)Z"⟩
abbrev cX0_reads : ByteArray := prog_1_method_33_code
def yX0_reads : MethodName := ⟨RX0, "reads", "(II)Z"⟩
abbrev cX0_whenReadable : ByteArray := prog_1_method_34_code
def yX0_whenReadable : MethodName := ⟨RX0, "whenReadable", "(II)I"⟩
abbrev cX0_delayOf : ByteArray := prog_1_method_35_code
def yX0_delayOf : MethodName := ⟨RX0, "delayOf", "(I)I"⟩
abbrev cX0_whenDividerIsFree : ByteArray := prog_1_method_36_code
def yX0_whenDividerIsFree : MethodName := ⟨RX0, "whenDividerIsFree", "(I)I"⟩
abbrev cX0_doneBefore : ByteArray := prog_1_method_40_code
def yX0_doneBefore : MethodName := ⟨RX0, "doneBefore", "(I)I"⟩
abbrev cX0_leastDoneTime : ByteArray := prog_1_method_38_code
def yX0_leastDoneTime : MethodName := ⟨RX0, "leastDoneTime", "(I)I"⟩
abbrev cX0_workOf : ByteArray := prog_1_method_39_code
def yX0_workOf : MethodName := ⟨RX0, "workOf", "(I)I"⟩
abbrev cX0_branch : ByteArray := prog_1_method_3_code
def yX0_branch : MethodName := ⟨RX0, "branch", "(IZII)I"⟩
abbrev cX0_fail : ByteArray := prog_1_method_4_code
def yX0_fail : MethodName := ⟨RX0, "fail", "()Z"⟩
abbrev cX0_failLast : ByteArray := prog_1_method_17_code
def yX0_failLast : MethodName := ⟨RX0, "failLast", "()V"⟩
abbrev cX0_drop : ByteArray := prog_1_method_5_code
def yX0_drop : MethodName := ⟨RX0, "drop", "(I)Z"⟩
abbrev cX0_clear : ByteArray := prog_1_method_6_code
def yX0_clear : MethodName := ⟨RX0, "clear", "()V"⟩
abbrev cX0_again : ByteArray := prog_1_method_7_code
def yX0_again : MethodName := ⟨RX0, "again", "(II)I"⟩
abbrev cX0_isInstruction : ByteArray := prog_1_method_14_code
def yX0_isInstruction : MethodName := ⟨RX0, "isInstruction", "(I)Z"⟩
abbrev cX0_time : ByteArray := prog_1_method_8_code
def yX0_time : MethodName := ⟨RX0, "time", "(II)I"⟩
abbrev cX0_groupSize : ByteArray := prog_1_method_27_code
def yX0_groupSize : MethodName := ⟨RX0, "groupSize", "(I)I"⟩
abbrev cX0_isIssuedAsSecond : ByteArray := prog_1_method_37_code
def yX0_isIssuedAsSecond : MethodName := ⟨RX0, "isIssuedAsSecond", "(I)Z"⟩
abbrev cX0_oneIf : ByteArray := prog_1_method_15_code
def yX0_oneIf : MethodName := ⟨RX0, "oneIf", "(Z)I"⟩
abbrev cX0_of : ByteArray := prog_1_method_9_code
def yX0_of : MethodName := ⟨RX0, "of", "(II)I"⟩
abbrev cX0_stage : ByteArray := prog_1_method_10_code
def yX0_stage : MethodName := ⟨RX0, "stage", "(II)I"⟩
abbrev cX0_stageAt : ByteArray := prog_1_method_41_code
def yX0_stageAt : MethodName := ⟨RX0, "stageAt", "(II)I"⟩
abbrev cX0_many : ByteArray := prog_1_method_11_code
def yX0_many : MethodName := ⟨RX0, "many", "(II)I"⟩
abbrev cX0_look : ByteArray := prog_1_method_12_code
def yX0_look : MethodName := ⟨RX0, "look", "(I)I"⟩
abbrev cX0_cyclesWithTwoDone : ByteArray := prog_1_method_42_code
def yX0_cyclesWithTwoDone : MethodName := ⟨RX0, "cyclesWithTwoDone", "()I"⟩
abbrev cX0_longestWayBetweenDone : ByteArray := prog_1_method_43_code
def yX0_longestWayBetweenDone : MethodName := ⟨RX0, "longestWayBetweenDone", "()I"⟩
abbrev cX0_groups : ByteArray := prog_1_method_44_code
def yX0_groups : MethodName := ⟨RX0, "groups", "()I"⟩
abbrev cX0_pairsIssuedAtOnce : ByteArray := prog_1_method_45_code
def yX0_pairsIssuedAtOnce : MethodName := ⟨RX0, "pairsIssuedAtOnce", "()I"⟩
abbrev cX0_mostAtWork : ByteArray := prog_1_method_46_code
def yX0_mostAtWork : MethodName := ⟨RX0, "mostAtWork", "()I"⟩
def RX1 : String := "IssueTimesModel"
def TX1 : u_T := fun k => match k with
  | 0 => ("IssueTimesModel", "thrown", "I", false)
  | 1 => ("IssueTimesModel", "n", "I", false)
  | 2 => ("IssueTimesModel", "kinds", "[I", true)
  | 3 => ("IssueTimesModel", "ds", "[I", true)
  | 4 => ("IssueTimesModel", "as", "[I", true)
  | 5 => ("IssueTimesModel", "bs", "[I", true)
  | 6 => ("IssueTimesModel", "ways", "[I", true)
  | 7 => ("IssueTimesModel", "goes", "[Z", true)
  | 8 => ("IssueTimesModel", "told", "[Z", true)
  | 9 => ("IssueTimesModel", "fails", "[Z", true)
  | 10 => ("IssueTimesModel", "slots", "[Z", true)
  | 11 => ("IssueTimesModel", "redirected", "[Z", true)
  | 12 => ("IssueTimesModel", "behind", "[Z", true)
  | 13 => ("IssueTimesModel", "fs", "[I", true)
  | 14 => ("IssueTimesModel", "ts", "[I", true)
  | 15 => ("IssueTimesModel", "cs", "[I", true)
  | 16 => ("IssueTimesModel", "starts", "[Z", true)
  | _ => ("IssueTimesModel", "writers", "[I", true)
def tyX1 : Nat → FieldType := fun k => match k with
  | 0 => .int
  | 1 => .int
  | 2 => .array .int
  | 3 => .array .int
  | 4 => .array .int
  | 5 => .array .int
  | 6 => .array .int
  | 7 => .array .boolean
  | 8 => .array .boolean
  | 9 => .array .boolean
  | 10 => .array .boolean
  | 11 => .array .boolean
  | 12 => .array .boolean
  | 13 => .array .int
  | 14 => .array .int
  | 15 => .array .int
  | 16 => .array .boolean
  | _ => .array .int
theorem nmX1 : ∀ a, a < 18 → ∀ b, b < 18 → a ≠ b → (TX1 a).2.1 ≠ (TX1 b).2.1 := by decide +kernel
theorem tyX1_ok : ∀ k, k < 18 → parseFieldDescriptor (TX1 k).2.2.1 = some (tyX1 k) := by decide +kernel
abbrev cX1_init : ByteArray := prog_3_method_1_code
def yX1_init : MethodName := ⟨RX1, "<init>", "()V"⟩
abbrev cX1_put : ByteArray := prog_3_method_5_code
def yX1_put : MethodName := ⟨RX1, "put", "(IIII)I"⟩
abbrev cX1_isRegister : ByteArray := prog_3_method_3_code
def yX1_isRegister : MethodName := ⟨RX1, "isRegister", "(I)Z"⟩
abbrev cX1_come : ByteArray := prog_3_method_4_code
def yX1_come : MethodName := ⟨RX1, "come", "(IIIIIZ)I"⟩
abbrev cX1_branch : ByteArray := prog_3_method_6_code
def yX1_branch : MethodName := ⟨RX1, "branch", "(IZII)I"⟩
abbrev cX1_fail : ByteArray := prog_3_method_7_code
def yX1_fail : MethodName := ⟨RX1, "fail", "()Z"⟩
abbrev cX1_drop : ByteArray := prog_3_method_8_code
def yX1_drop : MethodName := ⟨RX1, "drop", "(I)Z"⟩
abbrev cX1_clear : ByteArray := prog_3_method_9_code
def yX1_clear : MethodName := ⟨RX1, "clear", "()V"⟩
abbrev cX1_again : ByteArray := prog_3_method_10_code
def yX1_again : MethodName := ⟨RX1, "again", "(II)I"⟩
abbrev cX1_time : ByteArray := prog_3_method_21_code
def yX1_time : MethodName := ⟨RX1, "time", "(II)I"⟩
abbrev cX1_reckon : ByteArray := prog_3_method_20_code
def yX1_reckon : MethodName := ⟨RX1, "reckon", "()V"⟩
abbrev cX1_stand : ByteArray := prog_3_method_11_code
def yX1_stand : MethodName := ⟨RX1, "stand", "(I)V"⟩
abbrev cX1_fetch : ByteArray := prog_3_method_18_code
def yX1_fetch : MethodName := ⟨RX1, "fetch", "(I)V"⟩
abbrev cX1_joins : ByteArray := prog_3_method_17_code
def yX1_joins : MethodName := ⟨RX1, "joins", "(I)Z"⟩
abbrev cX1_later : ByteArray := prog_3_method_12_code
def yX1_later : MethodName := ⟨RX1, "later", "(II)I"⟩
abbrev cX1_ready : ByteArray := prog_3_method_19_code
def yX1_ready : MethodName := ⟨RX1, "ready", "(I)I"⟩
abbrev cX1_delay : ByteArray := prog_3_method_13_code
def yX1_delay : MethodName := ⟨RX1, "delay", "(I)I"⟩
abbrev cX1_pairs : ByteArray := prog_3_method_16_code
def yX1_pairs : MethodName := ⟨RX1, "pairs", "(I)Z"⟩
abbrev cX1_isMemory : ByteArray := prog_3_method_14_code
def yX1_isMemory : MethodName := ⟨RX1, "isMemory", "(I)Z"⟩
abbrev cX1_isSlow : ByteArray := prog_3_method_15_code
def yX1_isSlow : MethodName := ⟨RX1, "isSlow", "(I)Z"⟩
abbrev cX1_of : ByteArray := prog_3_method_22_code
def yX1_of : MethodName := ⟨RX1, "of", "(II)I"⟩
abbrev cX1_stage : ByteArray := prog_3_method_24_code
def yX1_stage : MethodName := ⟨RX1, "stage", "(II)I"⟩
abbrev cX1_stageOf : ByteArray := prog_3_method_23_code
def yX1_stageOf : MethodName := ⟨RX1, "stageOf", "(II)I"⟩
abbrev cX1_many : ByteArray := prog_3_method_26_code
def yX1_many : MethodName := ⟨RX1, "many", "(II)I"⟩
abbrev cX1_inStage : ByteArray := prog_3_method_25_code
def yX1_inStage : MethodName := ⟨RX1, "inStage", "(II)I"⟩
abbrev cX1_look : ByteArray := prog_3_method_30_code
def yX1_look : MethodName := ⟨RX1, "look", "(I)I"⟩
abbrev cX1_counted : ByteArray := prog_3_method_27_code
def yX1_counted : MethodName := ⟨RX1, "counted", "(I)I"⟩
abbrev cX1_longest : ByteArray := prog_3_method_28_code
def yX1_longest : MethodName := ⟨RX1, "longest", "()I"⟩
abbrev cX1_busiest : ByteArray := prog_3_method_29_code
def yX1_busiest : MethodName := ⟨RX1, "busiest", "()I"⟩
def RL : String := "IssueTimesLaw"
abbrev vwCl : List vw_C := [(RX0, TX0, 14), (RX1, TX1, 18)]
end
section
/-- the tables' words that a callee may be given -/
def tb : List Cond := lw_tbl.filter goodWord
theorem tb_good : ∀ w, w ∈ tb → w ∈ tb ∧ ((w.onTables && w.keeps) = true ∨ ∃ ty, w = .arrayClass ty) := fun w h => ⟨h, good_of_word (List.mem_filter.mp h).2⟩
theorem tb_of {args : Array Value} {s : State} (h : ∀ w ∈ lw_tbl, w.before args s = true) : ∀ w ∈ tb, w.before args s = true := fun w hw => h w (List.mem_filter.mp hw).1
theorem tb_t {w : Cond} (i : Nat) (h : tables_1[i]? = some w) (hg : goodWord w = true) : w ∈ tb := List.mem_filter.mpr ⟨List.mem_append_right _ (List.mem_of_getElem? h), hg⟩
theorem tb_s {w : Cond} (i : Nat) (h : (k2_sels lw_privs)[i]? = some w) (hg : goodWord w = true) : w ∈ tb := List.mem_filter.mpr ⟨List.mem_append_left _ (List.mem_of_getElem? h), hg⟩
theorem zwX0_0 : u_lay RX0 TX0 0 ∈ tb := tb_t 26 (by decide +kernel) (by decide +kernel)
theorem zwX0_1 : u_lay RX0 TX0 1 ∈ tb := tb_t 28 (by decide +kernel) (by decide +kernel)
theorem zwX0_2 : u_lay RX0 TX0 2 ∈ tb := tb_t 30 (by decide +kernel) (by decide +kernel)
theorem zwX0_3 : u_lay RX0 TX0 3 ∈ tb := tb_t 32 (by decide +kernel) (by decide +kernel)
theorem zwX0_4 : u_lay RX0 TX0 4 ∈ tb := tb_t 34 (by decide +kernel) (by decide +kernel)
theorem zwX0_5 : u_lay RX0 TX0 5 ∈ tb := tb_t 36 (by decide +kernel) (by decide +kernel)
theorem zwX0_6 : u_lay RX0 TX0 6 ∈ tb := tb_t 38 (by decide +kernel) (by decide +kernel)
theorem zwX0_7 : u_lay RX0 TX0 7 ∈ tb := tb_t 40 (by decide +kernel) (by decide +kernel)
theorem zwX0_8 : u_lay RX0 TX0 8 ∈ tb := tb_t 42 (by decide +kernel) (by decide +kernel)
theorem zwX0_9 : u_lay RX0 TX0 9 ∈ tb := tb_t 44 (by decide +kernel) (by decide +kernel)
theorem zwX0_10 : u_lay RX0 TX0 10 ∈ tb := tb_t 46 (by decide +kernel) (by decide +kernel)
theorem zwX0_11 : u_lay RX0 TX0 11 ∈ tb := tb_t 48 (by decide +kernel) (by decide +kernel)
theorem zwX0_12 : u_lay RX0 TX0 12 ∈ tb := tb_t 50 (by decide +kernel) (by decide +kernel)
theorem zwX0_13 : u_lay RX0 TX0 13 ∈ tb := tb_t 52 (by decide +kernel) (by decide +kernel)
theorem inX0 : ∀ w ∈ u_ws RX0 TX0 14, w ∈ tb := by
  intro w hw
  obtain ⟨k, hk, rfl⟩ := List.mem_map.mp hw
  have hk : k < 14 := List.mem_range.mp hk
  rcases (show k = 0 ∨ k = 1 ∨ k = 2 ∨ k = 3 ∨ k = 4 ∨ k = 5 ∨ k = 6 ∨ k = 7 ∨ k = 8 ∨ k = 9 ∨ k = 10 ∨ k = 11 ∨ k = 12 ∨ k = 13 by omega) with rfl | rfl | rfl | rfl | rfl | rfl | rfl | rfl | rfl | rfl | rfl | rfl | rfl | rfl
  · exact zwX0_0
  · exact zwX0_1
  · exact zwX0_2
  · exact zwX0_3
  · exact zwX0_4
  · exact zwX0_5
  · exact zwX0_6
  · exact zwX0_7
  · exact zwX0_8
  · exact zwX0_9
  · exact zwX0_10
  · exact zwX0_11
  · exact zwX0_12
  · exact zwX0_13
theorem zwX1_0 : u_lay RX1 TX1 0 ∈ tb := tb_t 258 (by decide +kernel) (by decide +kernel)
theorem zwX1_1 : u_lay RX1 TX1 1 ∈ tb := tb_t 260 (by decide +kernel) (by decide +kernel)
theorem zwX1_2 : u_lay RX1 TX1 2 ∈ tb := tb_t 262 (by decide +kernel) (by decide +kernel)
theorem zwX1_3 : u_lay RX1 TX1 3 ∈ tb := tb_t 264 (by decide +kernel) (by decide +kernel)
theorem zwX1_4 : u_lay RX1 TX1 4 ∈ tb := tb_t 266 (by decide +kernel) (by decide +kernel)
theorem zwX1_5 : u_lay RX1 TX1 5 ∈ tb := tb_t 268 (by decide +kernel) (by decide +kernel)
theorem zwX1_6 : u_lay RX1 TX1 6 ∈ tb := tb_t 270 (by decide +kernel) (by decide +kernel)
theorem zwX1_7 : u_lay RX1 TX1 7 ∈ tb := tb_t 272 (by decide +kernel) (by decide +kernel)
theorem zwX1_8 : u_lay RX1 TX1 8 ∈ tb := tb_t 274 (by decide +kernel) (by decide +kernel)
theorem zwX1_9 : u_lay RX1 TX1 9 ∈ tb := tb_t 276 (by decide +kernel) (by decide +kernel)
theorem zwX1_10 : u_lay RX1 TX1 10 ∈ tb := tb_t 278 (by decide +kernel) (by decide +kernel)
theorem zwX1_11 : u_lay RX1 TX1 11 ∈ tb := tb_t 280 (by decide +kernel) (by decide +kernel)
theorem zwX1_12 : u_lay RX1 TX1 12 ∈ tb := tb_t 282 (by decide +kernel) (by decide +kernel)
theorem zwX1_13 : u_lay RX1 TX1 13 ∈ tb := tb_t 284 (by decide +kernel) (by decide +kernel)
theorem zwX1_14 : u_lay RX1 TX1 14 ∈ tb := tb_t 286 (by decide +kernel) (by decide +kernel)
theorem zwX1_15 : u_lay RX1 TX1 15 ∈ tb := tb_t 288 (by decide +kernel) (by decide +kernel)
theorem zwX1_16 : u_lay RX1 TX1 16 ∈ tb := tb_t 290 (by decide +kernel) (by decide +kernel)
theorem zwX1_17 : u_lay RX1 TX1 17 ∈ tb := tb_t 292 (by decide +kernel) (by decide +kernel)
theorem inX1 : ∀ w ∈ u_ws RX1 TX1 18, w ∈ tb := by
  intro w hw
  obtain ⟨k, hk, rfl⟩ := List.mem_map.mp hw
  have hk : k < 18 := List.mem_range.mp hk
  rcases (show k = 0 ∨ k = 1 ∨ k = 2 ∨ k = 3 ∨ k = 4 ∨ k = 5 ∨ k = 6 ∨ k = 7 ∨ k = 8 ∨ k = 9 ∨ k = 10 ∨ k = 11 ∨ k = 12 ∨ k = 13 ∨ k = 14 ∨ k = 15 ∨ k = 16 ∨ k = 17 by omega) with rfl | rfl | rfl | rfl | rfl | rfl | rfl | rfl | rfl | rfl | rfl | rfl | rfl | rfl | rfl | rfl | rfl | rfl
  · exact zwX1_0
  · exact zwX1_1
  · exact zwX1_2
  · exact zwX1_3
  · exact zwX1_4
  · exact zwX1_5
  · exact zwX1_6
  · exact zwX1_7
  · exact zwX1_8
  · exact zwX1_9
  · exact zwX1_10
  · exact zwX1_11
  · exact zwX1_12
  · exact zwX1_13
  · exact zwX1_14
  · exact zwX1_15
  · exact zwX1_16
  · exact zwX1_17
theorem zlX0_7 : Cond.fieldLink RX0 7 RX0 (TX0 0).2.1 (TX0 0).2.2.1 ∈ tb := tb_t 12 (by decide +kernel) (by decide +kernel)
theorem zlX0_13 : Cond.fieldLink RX0 13 RX0 (TX0 1).2.1 (TX0 1).2.2.1 ∈ tb := tb_t 13 (by decide +kernel) (by decide +kernel)
theorem zlX0_17 : Cond.fieldLink RX0 17 RX0 (TX0 2).2.1 (TX0 2).2.2.1 ∈ tb := tb_t 14 (by decide +kernel) (by decide +kernel)
theorem zlX0_20 : Cond.fieldLink RX0 20 RX0 (TX0 3).2.1 (TX0 3).2.2.1 ∈ tb := tb_t 15 (by decide +kernel) (by decide +kernel)
theorem zlX0_23 : Cond.fieldLink RX0 23 RX0 (TX0 4).2.1 (TX0 4).2.2.1 ∈ tb := tb_t 16 (by decide +kernel) (by decide +kernel)
theorem zlX0_26 : Cond.fieldLink RX0 26 RX0 (TX0 5).2.1 (TX0 5).2.2.1 ∈ tb := tb_t 17 (by decide +kernel) (by decide +kernel)
theorem zlX0_29 : Cond.fieldLink RX0 29 RX0 (TX0 6).2.1 (TX0 6).2.2.1 ∈ tb := tb_t 18 (by decide +kernel) (by decide +kernel)
theorem zlX0_33 : Cond.fieldLink RX0 33 RX0 (TX0 7).2.1 (TX0 7).2.2.1 ∈ tb := tb_t 19 (by decide +kernel) (by decide +kernel)
theorem zlX0_36 : Cond.fieldLink RX0 36 RX0 (TX0 8).2.1 (TX0 8).2.2.1 ∈ tb := tb_t 20 (by decide +kernel) (by decide +kernel)
theorem zlX0_39 : Cond.fieldLink RX0 39 RX0 (TX0 9).2.1 (TX0 9).2.2.1 ∈ tb := tb_t 21 (by decide +kernel) (by decide +kernel)
theorem zlX0_42 : Cond.fieldLink RX0 42 RX0 (TX0 10).2.1 (TX0 10).2.2.1 ∈ tb := tb_t 22 (by decide +kernel) (by decide +kernel)
theorem zlX0_45 : Cond.fieldLink RX0 45 RX0 (TX0 11).2.1 (TX0 11).2.2.1 ∈ tb := tb_t 23 (by decide +kernel) (by decide +kernel)
theorem zlX0_48 : Cond.fieldLink RX0 48 RX0 (TX0 12).2.1 (TX0 12).2.2.1 ∈ tb := tb_t 24 (by decide +kernel) (by decide +kernel)
theorem zlX0_51 : Cond.fieldLink RX0 51 RX0 (TX0 13).2.1 (TX0 13).2.2.1 ∈ tb := tb_t 25 (by decide +kernel) (by decide +kernel)
theorem zlX1_59 : Cond.fieldLink RX1 59 RX1 (TX1 0).2.1 (TX1 0).2.2.1 ∈ tb := tb_t 240 (by decide +kernel) (by decide +kernel)
theorem zlX1_63 : Cond.fieldLink RX1 63 RX1 (TX1 1).2.1 (TX1 1).2.2.1 ∈ tb := tb_t 241 (by decide +kernel) (by decide +kernel)
theorem zlX1_7 : Cond.fieldLink RX1 7 RX1 (TX1 2).2.1 (TX1 2).2.2.1 ∈ tb := tb_t 242 (by decide +kernel) (by decide +kernel)
theorem zlX1_13 : Cond.fieldLink RX1 13 RX1 (TX1 3).2.1 (TX1 3).2.2.1 ∈ tb := tb_t 243 (by decide +kernel) (by decide +kernel)
theorem zlX1_16 : Cond.fieldLink RX1 16 RX1 (TX1 4).2.1 (TX1 4).2.2.1 ∈ tb := tb_t 244 (by decide +kernel) (by decide +kernel)
theorem zlX1_19 : Cond.fieldLink RX1 19 RX1 (TX1 5).2.1 (TX1 5).2.2.1 ∈ tb := tb_t 245 (by decide +kernel) (by decide +kernel)
theorem zlX1_22 : Cond.fieldLink RX1 22 RX1 (TX1 6).2.1 (TX1 6).2.2.1 ∈ tb := tb_t 246 (by decide +kernel) (by decide +kernel)
theorem zlX1_25 : Cond.fieldLink RX1 25 RX1 (TX1 7).2.1 (TX1 7).2.2.1 ∈ tb := tb_t 247 (by decide +kernel) (by decide +kernel)
theorem zlX1_29 : Cond.fieldLink RX1 29 RX1 (TX1 8).2.1 (TX1 8).2.2.1 ∈ tb := tb_t 248 (by decide +kernel) (by decide +kernel)
theorem zlX1_32 : Cond.fieldLink RX1 32 RX1 (TX1 9).2.1 (TX1 9).2.2.1 ∈ tb := tb_t 249 (by decide +kernel) (by decide +kernel)
theorem zlX1_35 : Cond.fieldLink RX1 35 RX1 (TX1 10).2.1 (TX1 10).2.2.1 ∈ tb := tb_t 250 (by decide +kernel) (by decide +kernel)
theorem zlX1_38 : Cond.fieldLink RX1 38 RX1 (TX1 11).2.1 (TX1 11).2.2.1 ∈ tb := tb_t 251 (by decide +kernel) (by decide +kernel)
theorem zlX1_41 : Cond.fieldLink RX1 41 RX1 (TX1 12).2.1 (TX1 12).2.2.1 ∈ tb := tb_t 252 (by decide +kernel) (by decide +kernel)
theorem zlX1_44 : Cond.fieldLink RX1 44 RX1 (TX1 13).2.1 (TX1 13).2.2.1 ∈ tb := tb_t 253 (by decide +kernel) (by decide +kernel)
theorem zlX1_47 : Cond.fieldLink RX1 47 RX1 (TX1 14).2.1 (TX1 14).2.2.1 ∈ tb := tb_t 254 (by decide +kernel) (by decide +kernel)
theorem zlX1_50 : Cond.fieldLink RX1 50 RX1 (TX1 15).2.1 (TX1 15).2.2.1 ∈ tb := tb_t 255 (by decide +kernel) (by decide +kernel)
theorem zlX1_53 : Cond.fieldLink RX1 53 RX1 (TX1 16).2.1 (TX1 16).2.2.1 ∈ tb := tb_t 256 (by decide +kernel) (by decide +kernel)
theorem zlX1_56 : Cond.fieldLink RX1 56 RX1 (TX1 17).2.1 (TX1 17).2.2.1 ∈ tb := tb_t 257 (by decide +kernel) (by decide +kernel)
theorem ziX0_init : Cond.instanceMethod yX0_init ∈ tb := tb_t 7 (by decide +kernel) (by decide +kernel)
theorem ziX0_put : Cond.instanceMethod yX0_put ∈ tb := tb_t 58 (by decide +kernel) (by decide +kernel)
theorem ztX0_isRegister : Cond.static yX0_isRegister ∈ tb := tb_t 62 (by decide +kernel) (by decide +kernel)
theorem ziX0_append : Cond.instanceMethod yX0_append ∈ tb := tb_t 66 (by decide +kernel) (by decide +kernel)
theorem ziX0_settle : Cond.instanceMethod yX0_settle ∈ tb := tb_t 70 (by decide +kernel) (by decide +kernel)
theorem ziX0_joinsGroup : Cond.instanceMethod yX0_joinsGroup ∈ tb := tb_t 74 (by decide +kernel) (by decide +kernel)
theorem ziX0_isBehindSlot : Cond.instanceMethod yX0_isBehindSlot ∈ tb := tb_t 78 (by decide +kernel) (by decide +kernel)
theorem ziX0_liesBehind : Cond.instanceMethod yX0_liesBehind ∈ tb := tb_t 82 (by decide +kernel) (by decide +kernel)
theorem ziX0_isRedirected : Cond.instanceMethod yX0_isRedirected ∈ tb := tb_t 86 (by decide +kernel) (by decide +kernel)
theorem ziX0_isBehindFailingOrSingle : Cond.instanceMethod yX0_isBehindFailingOrSingle ∈ tb := tb_t 90 (by decide +kernel) (by decide +kernel)
theorem ziX0_isBehindSlotOfMissedBranch : Cond.instanceMethod yX0_isBehindSlotOfMissedBranch ∈ tb := tb_t 94 (by decide +kernel) (by decide +kernel)
theorem ziX0_isMissed : Cond.instanceMethod yX0_isMissed ∈ tb := tb_t 98 (by decide +kernel) (by decide +kernel)
theorem ziX0_leastFetchTime : Cond.instanceMethod yX0_leastFetchTime ∈ tb := tb_t 102 (by decide +kernel) (by decide +kernel)
theorem ziX0_leastIssueTime : Cond.instanceMethod yX0_leastIssueTime ∈ tb := tb_t 109 (by decide +kernel) (by decide +kernel)
theorem ziX0_leastInOrder : Cond.instanceMethod yX0_leastInOrder ∈ tb := tb_t 113 (by decide +kernel) (by decide +kernel)
theorem ziX0_makesPair : Cond.instanceMethod yX0_makesPair ∈ tb := tb_t 117 (by decide +kernel) (by decide +kernel)
theorem ztX0_usesMemory : Cond.static yX0_usesMemory ∈ tb := tb_t 120 (by decide +kernel) (by decide +kernel)
theorem ztX0_usesMultiplier : Cond.static yX0_usesMultiplier ∈ tb := tb_t 123 (by decide +kernel) (by decide +kernel)
theorem ziX0_reads : Cond.instanceMethod yX0_reads ∈ tb := tb_t 127 (by decide +kernel) (by decide +kernel)
theorem ziX0_whenReadable : Cond.instanceMethod yX0_whenReadable ∈ tb := tb_t 131 (by decide +kernel) (by decide +kernel)
theorem ztX0_delayOf : Cond.static yX0_delayOf ∈ tb := tb_t 134 (by decide +kernel) (by decide +kernel)
theorem ziX0_whenDividerIsFree : Cond.instanceMethod yX0_whenDividerIsFree ∈ tb := tb_t 138 (by decide +kernel) (by decide +kernel)
theorem ziX0_doneBefore : Cond.instanceMethod yX0_doneBefore ∈ tb := tb_t 142 (by decide +kernel) (by decide +kernel)
theorem ziX0_leastDoneTime : Cond.instanceMethod yX0_leastDoneTime ∈ tb := tb_t 146 (by decide +kernel) (by decide +kernel)
theorem ztX0_workOf : Cond.static yX0_workOf ∈ tb := tb_t 149 (by decide +kernel) (by decide +kernel)
theorem ziX0_branch : Cond.instanceMethod yX0_branch ∈ tb := tb_t 152 (by decide +kernel) (by decide +kernel)
theorem ziX0_fail : Cond.instanceMethod yX0_fail ∈ tb := tb_t 156 (by decide +kernel) (by decide +kernel)
theorem ziX0_failLast : Cond.instanceMethod yX0_failLast ∈ tb := tb_t 161 (by decide +kernel) (by decide +kernel)
theorem ziX0_drop : Cond.instanceMethod yX0_drop ∈ tb := tb_t 164 (by decide +kernel) (by decide +kernel)
theorem ziX0_clear : Cond.instanceMethod yX0_clear ∈ tb := tb_t 168 (by decide +kernel) (by decide +kernel)
theorem ziX0_again : Cond.instanceMethod yX0_again ∈ tb := tb_t 172 (by decide +kernel) (by decide +kernel)
theorem ziX0_isInstruction : Cond.instanceMethod yX0_isInstruction ∈ tb := tb_t 177 (by decide +kernel) (by decide +kernel)
theorem ziX0_time : Cond.instanceMethod yX0_time ∈ tb := tb_t 180 (by decide +kernel) (by decide +kernel)
theorem ziX0_groupSize : Cond.instanceMethod yX0_groupSize ∈ tb := tb_t 185 (by decide +kernel) (by decide +kernel)
theorem ziX0_isIssuedAsSecond : Cond.instanceMethod yX0_isIssuedAsSecond ∈ tb := tb_t 189 (by decide +kernel) (by decide +kernel)
theorem ztX0_oneIf : Cond.static yX0_oneIf ∈ tb := tb_t 192 (by decide +kernel) (by decide +kernel)
theorem ziX0_of : Cond.instanceMethod yX0_of ∈ tb := tb_t 195 (by decide +kernel) (by decide +kernel)
theorem ziX0_stage : Cond.instanceMethod yX0_stage ∈ tb := tb_t 199 (by decide +kernel) (by decide +kernel)
theorem ziX0_stageAt : Cond.instanceMethod yX0_stageAt ∈ tb := tb_t 204 (by decide +kernel) (by decide +kernel)
theorem ziX0_many : Cond.instanceMethod yX0_many ∈ tb := tb_t 207 (by decide +kernel) (by decide +kernel)
theorem ziX0_look : Cond.instanceMethod yX0_look ∈ tb := tb_t 211 (by decide +kernel) (by decide +kernel)
theorem ziX0_cyclesWithTwoDone : Cond.instanceMethod yX0_cyclesWithTwoDone ∈ tb := tb_t 216 (by decide +kernel) (by decide +kernel)
theorem ziX0_longestWayBetweenDone : Cond.instanceMethod yX0_longestWayBetweenDone ∈ tb := tb_t 220 (by decide +kernel) (by decide +kernel)
theorem ziX0_groups : Cond.instanceMethod yX0_groups ∈ tb := tb_t 224 (by decide +kernel) (by decide +kernel)
theorem ziX0_pairsIssuedAtOnce : Cond.instanceMethod yX0_pairsIssuedAtOnce ∈ tb := tb_t 228 (by decide +kernel) (by decide +kernel)
theorem ziX0_mostAtWork : Cond.instanceMethod yX0_mostAtWork ∈ tb := tb_t 232 (by decide +kernel) (by decide +kernel)
theorem ziX1_init : Cond.instanceMethod yX1_init ∈ tb := tb_t 237 (by decide +kernel) (by decide +kernel)
theorem ziX1_put : Cond.instanceMethod yX1_put ∈ tb := tb_t 296 (by decide +kernel) (by decide +kernel)
theorem ztX1_isRegister : Cond.static yX1_isRegister ∈ tb := tb_t 300 (by decide +kernel) (by decide +kernel)
theorem ziX1_come : Cond.instanceMethod yX1_come ∈ tb := tb_t 304 (by decide +kernel) (by decide +kernel)
theorem ziX1_branch : Cond.instanceMethod yX1_branch ∈ tb := tb_t 307 (by decide +kernel) (by decide +kernel)
theorem ziX1_fail : Cond.instanceMethod yX1_fail ∈ tb := tb_t 311 (by decide +kernel) (by decide +kernel)
theorem ziX1_drop : Cond.instanceMethod yX1_drop ∈ tb := tb_t 315 (by decide +kernel) (by decide +kernel)
theorem ziX1_clear : Cond.instanceMethod yX1_clear ∈ tb := tb_t 319 (by decide +kernel) (by decide +kernel)
theorem ziX1_again : Cond.instanceMethod yX1_again ∈ tb := tb_t 323 (by decide +kernel) (by decide +kernel)
theorem ziX1_time : Cond.instanceMethod yX1_time ∈ tb := tb_t 327 (by decide +kernel) (by decide +kernel)
theorem ziX1_reckon : Cond.instanceMethod yX1_reckon ∈ tb := tb_t 332 (by decide +kernel) (by decide +kernel)
theorem ziX1_stand : Cond.instanceMethod yX1_stand ∈ tb := tb_t 336 (by decide +kernel) (by decide +kernel)
theorem ziX1_fetch : Cond.instanceMethod yX1_fetch ∈ tb := tb_t 340 (by decide +kernel) (by decide +kernel)
theorem ziX1_joins : Cond.instanceMethod yX1_joins ∈ tb := tb_t 344 (by decide +kernel) (by decide +kernel)
theorem ztX1_later : Cond.static yX1_later ∈ tb := tb_t 347 (by decide +kernel) (by decide +kernel)
theorem ziX1_ready : Cond.instanceMethod yX1_ready ∈ tb := tb_t 351 (by decide +kernel) (by decide +kernel)
theorem ztX1_delay : Cond.static yX1_delay ∈ tb := tb_t 354 (by decide +kernel) (by decide +kernel)
theorem ziX1_pairs : Cond.instanceMethod yX1_pairs ∈ tb := tb_t 358 (by decide +kernel) (by decide +kernel)
theorem ztX1_isMemory : Cond.static yX1_isMemory ∈ tb := tb_t 361 (by decide +kernel) (by decide +kernel)
theorem ztX1_isSlow : Cond.static yX1_isSlow ∈ tb := tb_t 364 (by decide +kernel) (by decide +kernel)
theorem ziX1_of : Cond.instanceMethod yX1_of ∈ tb := tb_t 367 (by decide +kernel) (by decide +kernel)
theorem ziX1_stage : Cond.instanceMethod yX1_stage ∈ tb := tb_t 371 (by decide +kernel) (by decide +kernel)
theorem ziX1_stageOf : Cond.instanceMethod yX1_stageOf ∈ tb := tb_t 376 (by decide +kernel) (by decide +kernel)
theorem ziX1_many : Cond.instanceMethod yX1_many ∈ tb := tb_t 379 (by decide +kernel) (by decide +kernel)
theorem ziX1_inStage : Cond.instanceMethod yX1_inStage ∈ tb := tb_t 384 (by decide +kernel) (by decide +kernel)
theorem ziX1_look : Cond.instanceMethod yX1_look ∈ tb := tb_t 387 (by decide +kernel) (by decide +kernel)
theorem ziX1_counted : Cond.instanceMethod yX1_counted ∈ tb := tb_t 392 (by decide +kernel) (by decide +kernel)
theorem ziX1_longest : Cond.instanceMethod yX1_longest ∈ tb := tb_t 396 (by decide +kernel) (by decide +kernel)
theorem ziX1_busiest : Cond.instanceMethod yX1_busiest ∈ tb := tb_t 400 (by decide +kernel) (by decide +kernel)
theorem zkX0_init : Cond.code yX0_init cX0_init 1 none ∈ tb := tb_t 8 (by decide +kernel) (by decide +kernel)
theorem zkX0_put : Cond.code yX0_put cX0_put 5 (some .int) ∈ tb := tb_t 60 (by decide +kernel) (by decide +kernel)
theorem zkX0_isRegister : Cond.code yX0_isRegister cX0_isRegister 1 (some .boolean) ∈ tb := tb_t 63 (by decide +kernel) (by decide +kernel)
theorem zkX0_append : Cond.code yX0_append cX0_append 8 (some .int) ∈ tb := tb_t 67 (by decide +kernel) (by decide +kernel)
theorem zkX0_settle : Cond.code yX0_settle cX0_settle 2 none ∈ tb := tb_t 71 (by decide +kernel) (by decide +kernel)
theorem zkX0_joinsGroup : Cond.code yX0_joinsGroup cX0_joinsGroup 3 (some .boolean) ∈ tb := tb_t 75 (by decide +kernel) (by decide +kernel)
theorem zkX0_isBehindSlot : Cond.code yX0_isBehindSlot cX0_isBehindSlot 2 (some .boolean) ∈ tb := tb_t 79 (by decide +kernel) (by decide +kernel)
theorem zkX0_liesBehind : Cond.code yX0_liesBehind cX0_liesBehind 2 (some .boolean) ∈ tb := tb_t 83 (by decide +kernel) (by decide +kernel)
theorem zkX0_isRedirected : Cond.code yX0_isRedirected cX0_isRedirected 2 (some .boolean) ∈ tb := tb_t 87 (by decide +kernel) (by decide +kernel)
theorem zkX0_isBehindFailingOrSingle : Cond.code yX0_isBehindFailingOrSingle cX0_isBehindFailingOrSingle 2 (some .boolean) ∈ tb := tb_t 91 (by decide +kernel) (by decide +kernel)
theorem zkX0_isBehindSlotOfMissedBranch : Cond.code yX0_isBehindSlotOfMissedBranch cX0_isBehindSlotOfMissedBranch 2 (some .boolean) ∈ tb := tb_t 95 (by decide +kernel) (by decide +kernel)
theorem zkX0_isMissed : Cond.code yX0_isMissed cX0_isMissed 2 (some .boolean) ∈ tb := tb_t 99 (by decide +kernel) (by decide +kernel)
theorem zkX0_leastFetchTime : Cond.code yX0_leastFetchTime cX0_leastFetchTime 3 (some .int) ∈ tb := tb_t 103 (by decide +kernel) (by decide +kernel)
theorem zkX0_leastIssueTime : Cond.code yX0_leastIssueTime cX0_leastIssueTime 3 (some .int) ∈ tb := tb_t 110 (by decide +kernel) (by decide +kernel)
theorem zkX0_leastInOrder : Cond.code yX0_leastInOrder cX0_leastInOrder 3 (some .int) ∈ tb := tb_t 114 (by decide +kernel) (by decide +kernel)
theorem zkX0_makesPair : Cond.code yX0_makesPair cX0_makesPair 4 (some .boolean) ∈ tb := tb_t 118 (by decide +kernel) (by decide +kernel)
theorem zkX0_usesMemory : Cond.code yX0_usesMemory cX0_usesMemory 1 (some .boolean) ∈ tb := tb_t 121 (by decide +kernel) (by decide +kernel)
theorem zkX0_usesMultiplier : Cond.code yX0_usesMultiplier cX0_usesMultiplier 1 (some .boolean) ∈ tb := tb_t 124 (by decide +kernel) (by decide +kernel)
theorem zkX0_reads : Cond.code yX0_reads cX0_reads 3 (some .boolean) ∈ tb := tb_t 128 (by decide +kernel) (by decide +kernel)
theorem zkX0_whenReadable : Cond.code yX0_whenReadable cX0_whenReadable 4 (some .int) ∈ tb := tb_t 132 (by decide +kernel) (by decide +kernel)
theorem zkX0_delayOf : Cond.code yX0_delayOf cX0_delayOf 1 (some .int) ∈ tb := tb_t 135 (by decide +kernel) (by decide +kernel)
theorem zkX0_whenDividerIsFree : Cond.code yX0_whenDividerIsFree cX0_whenDividerIsFree 3 (some .int) ∈ tb := tb_t 139 (by decide +kernel) (by decide +kernel)
theorem zkX0_doneBefore : Cond.code yX0_doneBefore cX0_doneBefore 2 (some .int) ∈ tb := tb_t 143 (by decide +kernel) (by decide +kernel)
theorem zkX0_leastDoneTime : Cond.code yX0_leastDoneTime cX0_leastDoneTime 3 (some .int) ∈ tb := tb_t 147 (by decide +kernel) (by decide +kernel)
theorem zkX0_workOf : Cond.code yX0_workOf cX0_workOf 1 (some .int) ∈ tb := tb_t 150 (by decide +kernel) (by decide +kernel)
theorem zkX0_branch : Cond.code yX0_branch cX0_branch 5 (some .int) ∈ tb := tb_t 154 (by decide +kernel) (by decide +kernel)
theorem zkX0_fail : Cond.code yX0_fail cX0_fail 1 (some .boolean) ∈ tb := tb_t 158 (by decide +kernel) (by decide +kernel)
theorem zkX0_failLast : Cond.code yX0_failLast cX0_failLast 2 none ∈ tb := tb_t 162 (by decide +kernel) (by decide +kernel)
theorem zkX0_drop : Cond.code yX0_drop cX0_drop 2 (some .boolean) ∈ tb := tb_t 166 (by decide +kernel) (by decide +kernel)
theorem zkX0_clear : Cond.code yX0_clear cX0_clear 1 none ∈ tb := tb_t 170 (by decide +kernel) (by decide +kernel)
theorem zkX0_again : Cond.code yX0_again cX0_again 4 (some .int) ∈ tb := tb_t 174 (by decide +kernel) (by decide +kernel)
theorem zkX0_isInstruction : Cond.code yX0_isInstruction cX0_isInstruction 2 (some .boolean) ∈ tb := tb_t 178 (by decide +kernel) (by decide +kernel)
theorem zkX0_time : Cond.code yX0_time cX0_time 3 (some .int) ∈ tb := tb_t 182 (by decide +kernel) (by decide +kernel)
theorem zkX0_groupSize : Cond.code yX0_groupSize cX0_groupSize 2 (some .int) ∈ tb := tb_t 186 (by decide +kernel) (by decide +kernel)
theorem zkX0_isIssuedAsSecond : Cond.code yX0_isIssuedAsSecond cX0_isIssuedAsSecond 2 (some .boolean) ∈ tb := tb_t 190 (by decide +kernel) (by decide +kernel)
theorem zkX0_oneIf : Cond.code yX0_oneIf cX0_oneIf 1 (some .int) ∈ tb := tb_t 193 (by decide +kernel) (by decide +kernel)
theorem zkX0_of : Cond.code yX0_of cX0_of 3 (some .int) ∈ tb := tb_t 197 (by decide +kernel) (by decide +kernel)
theorem zkX0_stage : Cond.code yX0_stage cX0_stage 3 (some .int) ∈ tb := tb_t 201 (by decide +kernel) (by decide +kernel)
theorem zkX0_stageAt : Cond.code yX0_stageAt cX0_stageAt 3 (some .int) ∈ tb := tb_t 205 (by decide +kernel) (by decide +kernel)
theorem zkX0_many : Cond.code yX0_many cX0_many 5 (some .int) ∈ tb := tb_t 209 (by decide +kernel) (by decide +kernel)
theorem zkX0_look : Cond.code yX0_look cX0_look 2 (some .int) ∈ tb := tb_t 213 (by decide +kernel) (by decide +kernel)
theorem zkX0_cyclesWithTwoDone : Cond.code yX0_cyclesWithTwoDone cX0_cyclesWithTwoDone 3 (some .int) ∈ tb := tb_t 217 (by decide +kernel) (by decide +kernel)
theorem zkX0_longestWayBetweenDone : Cond.code yX0_longestWayBetweenDone cX0_longestWayBetweenDone 3 (some .int) ∈ tb := tb_t 221 (by decide +kernel) (by decide +kernel)
theorem zkX0_groups : Cond.code yX0_groups cX0_groups 3 (some .int) ∈ tb := tb_t 225 (by decide +kernel) (by decide +kernel)
theorem zkX0_pairsIssuedAtOnce : Cond.code yX0_pairsIssuedAtOnce cX0_pairsIssuedAtOnce 3 (some .int) ∈ tb := tb_t 229 (by decide +kernel) (by decide +kernel)
theorem zkX0_mostAtWork : Cond.code yX0_mostAtWork cX0_mostAtWork 4 (some .int) ∈ tb := tb_t 233 (by decide +kernel) (by decide +kernel)
theorem zkX1_init : Cond.code yX1_init cX1_init 1 none ∈ tb := tb_t 238 (by decide +kernel) (by decide +kernel)
theorem zkX1_put : Cond.code yX1_put cX1_put 5 (some .int) ∈ tb := tb_t 298 (by decide +kernel) (by decide +kernel)
theorem zkX1_isRegister : Cond.code yX1_isRegister cX1_isRegister 1 (some .boolean) ∈ tb := tb_t 301 (by decide +kernel) (by decide +kernel)
theorem zkX1_come : Cond.code yX1_come cX1_come 7 (some .int) ∈ tb := tb_t 305 (by decide +kernel) (by decide +kernel)
theorem zkX1_branch : Cond.code yX1_branch cX1_branch 5 (some .int) ∈ tb := tb_t 309 (by decide +kernel) (by decide +kernel)
theorem zkX1_fail : Cond.code yX1_fail cX1_fail 1 (some .boolean) ∈ tb := tb_t 313 (by decide +kernel) (by decide +kernel)
theorem zkX1_drop : Cond.code yX1_drop cX1_drop 2 (some .boolean) ∈ tb := tb_t 317 (by decide +kernel) (by decide +kernel)
theorem zkX1_clear : Cond.code yX1_clear cX1_clear 1 none ∈ tb := tb_t 321 (by decide +kernel) (by decide +kernel)
theorem zkX1_again : Cond.code yX1_again cX1_again 5 (some .int) ∈ tb := tb_t 325 (by decide +kernel) (by decide +kernel)
theorem zkX1_time : Cond.code yX1_time cX1_time 3 (some .int) ∈ tb := tb_t 329 (by decide +kernel) (by decide +kernel)
theorem zkX1_reckon : Cond.code yX1_reckon cX1_reckon 5 none ∈ tb := tb_t 333 (by decide +kernel) (by decide +kernel)
theorem zkX1_stand : Cond.code yX1_stand cX1_stand 5 none ∈ tb := tb_t 337 (by decide +kernel) (by decide +kernel)
theorem zkX1_fetch : Cond.code yX1_fetch cX1_fetch 2 none ∈ tb := tb_t 341 (by decide +kernel) (by decide +kernel)
theorem zkX1_joins : Cond.code yX1_joins cX1_joins 2 (some .boolean) ∈ tb := tb_t 345 (by decide +kernel) (by decide +kernel)
theorem zkX1_later : Cond.code yX1_later cX1_later 2 (some .int) ∈ tb := tb_t 348 (by decide +kernel) (by decide +kernel)
theorem zkX1_ready : Cond.code yX1_ready cX1_ready 2 (some .int) ∈ tb := tb_t 352 (by decide +kernel) (by decide +kernel)
theorem zkX1_delay : Cond.code yX1_delay cX1_delay 1 (some .int) ∈ tb := tb_t 355 (by decide +kernel) (by decide +kernel)
theorem zkX1_pairs : Cond.code yX1_pairs cX1_pairs 5 (some .boolean) ∈ tb := tb_t 359 (by decide +kernel) (by decide +kernel)
theorem zkX1_isMemory : Cond.code yX1_isMemory cX1_isMemory 1 (some .boolean) ∈ tb := tb_t 362 (by decide +kernel) (by decide +kernel)
theorem zkX1_isSlow : Cond.code yX1_isSlow cX1_isSlow 1 (some .boolean) ∈ tb := tb_t 365 (by decide +kernel) (by decide +kernel)
theorem zkX1_of : Cond.code yX1_of cX1_of 3 (some .int) ∈ tb := tb_t 369 (by decide +kernel) (by decide +kernel)
theorem zkX1_stage : Cond.code yX1_stage cX1_stage 3 (some .int) ∈ tb := tb_t 373 (by decide +kernel) (by decide +kernel)
theorem zkX1_stageOf : Cond.code yX1_stageOf cX1_stageOf 3 (some .int) ∈ tb := tb_t 377 (by decide +kernel) (by decide +kernel)
theorem zkX1_many : Cond.code yX1_many cX1_many 3 (some .int) ∈ tb := tb_t 381 (by decide +kernel) (by decide +kernel)
theorem zkX1_inStage : Cond.code yX1_inStage cX1_inStage 5 (some .int) ∈ tb := tb_t 385 (by decide +kernel) (by decide +kernel)
theorem zkX1_look : Cond.code yX1_look cX1_look 2 (some .int) ∈ tb := tb_t 389 (by decide +kernel) (by decide +kernel)
theorem zkX1_counted : Cond.code yX1_counted cX1_counted 7 (some .int) ∈ tb := tb_t 393 (by decide +kernel) (by decide +kernel)
theorem zkX1_longest : Cond.code yX1_longest cX1_longest 4 (some .int) ∈ tb := tb_t 397 (by decide +kernel) (by decide +kernel)
theorem zkX1_busiest : Cond.code yX1_busiest cX1_busiest 5 (some .int) ∈ tb := tb_t 401 (by decide +kernel) (by decide +kernel)
theorem zsX0_append : Cond.selects RX0 yX0_append yX0_append ∈ tb := tb_s 0 (by decide +kernel) (by decide +kernel)
theorem zsX0_settle : Cond.selects RX0 yX0_settle yX0_settle ∈ tb := tb_s 1 (by decide +kernel) (by decide +kernel)
theorem zsX0_joinsGroup : Cond.selects RX0 yX0_joinsGroup yX0_joinsGroup ∈ tb := tb_s 2 (by decide +kernel) (by decide +kernel)
theorem zsX0_isBehindSlot : Cond.selects RX0 yX0_isBehindSlot yX0_isBehindSlot ∈ tb := tb_s 3 (by decide +kernel) (by decide +kernel)
theorem zsX0_liesBehind : Cond.selects RX0 yX0_liesBehind yX0_liesBehind ∈ tb := tb_s 4 (by decide +kernel) (by decide +kernel)
theorem zsX0_isRedirected : Cond.selects RX0 yX0_isRedirected yX0_isRedirected ∈ tb := tb_s 5 (by decide +kernel) (by decide +kernel)
theorem zsX0_isBehindFailingOrSingle : Cond.selects RX0 yX0_isBehindFailingOrSingle yX0_isBehindFailingOrSingle ∈ tb := tb_s 6 (by decide +kernel) (by decide +kernel)
theorem zsX0_isBehindSlotOfMissedBranch : Cond.selects RX0 yX0_isBehindSlotOfMissedBranch yX0_isBehindSlotOfMissedBranch ∈ tb := tb_s 7 (by decide +kernel) (by decide +kernel)
theorem zsX0_isMissed : Cond.selects RX0 yX0_isMissed yX0_isMissed ∈ tb := tb_s 8 (by decide +kernel) (by decide +kernel)
theorem zsX0_leastFetchTime : Cond.selects RX0 yX0_leastFetchTime yX0_leastFetchTime ∈ tb := tb_s 9 (by decide +kernel) (by decide +kernel)
theorem zsX0_leastIssueTime : Cond.selects RX0 yX0_leastIssueTime yX0_leastIssueTime ∈ tb := tb_s 10 (by decide +kernel) (by decide +kernel)
theorem zsX0_leastInOrder : Cond.selects RX0 yX0_leastInOrder yX0_leastInOrder ∈ tb := tb_s 11 (by decide +kernel) (by decide +kernel)
theorem zsX0_makesPair : Cond.selects RX0 yX0_makesPair yX0_makesPair ∈ tb := tb_s 12 (by decide +kernel) (by decide +kernel)
theorem zsX0_reads : Cond.selects RX0 yX0_reads yX0_reads ∈ tb := tb_s 13 (by decide +kernel) (by decide +kernel)
theorem zsX0_whenReadable : Cond.selects RX0 yX0_whenReadable yX0_whenReadable ∈ tb := tb_s 14 (by decide +kernel) (by decide +kernel)
theorem zsX0_whenDividerIsFree : Cond.selects RX0 yX0_whenDividerIsFree yX0_whenDividerIsFree ∈ tb := tb_s 15 (by decide +kernel) (by decide +kernel)
theorem zsX0_doneBefore : Cond.selects RX0 yX0_doneBefore yX0_doneBefore ∈ tb := tb_s 16 (by decide +kernel) (by decide +kernel)
theorem zsX0_leastDoneTime : Cond.selects RX0 yX0_leastDoneTime yX0_leastDoneTime ∈ tb := tb_s 17 (by decide +kernel) (by decide +kernel)
theorem zsX0_failLast : Cond.selects RX0 yX0_failLast yX0_failLast ∈ tb := tb_s 18 (by decide +kernel) (by decide +kernel)
theorem zsX0_isInstruction : Cond.selects RX0 yX0_isInstruction yX0_isInstruction ∈ tb := tb_s 19 (by decide +kernel) (by decide +kernel)
theorem zsX0_groupSize : Cond.selects RX0 yX0_groupSize yX0_groupSize ∈ tb := tb_s 20 (by decide +kernel) (by decide +kernel)
theorem zsX0_isIssuedAsSecond : Cond.selects RX0 yX0_isIssuedAsSecond yX0_isIssuedAsSecond ∈ tb := tb_s 21 (by decide +kernel) (by decide +kernel)
theorem zsX0_stageAt : Cond.selects RX0 yX0_stageAt yX0_stageAt ∈ tb := tb_s 22 (by decide +kernel) (by decide +kernel)
theorem zsX0_cyclesWithTwoDone : Cond.selects RX0 yX0_cyclesWithTwoDone yX0_cyclesWithTwoDone ∈ tb := tb_s 23 (by decide +kernel) (by decide +kernel)
theorem zsX0_longestWayBetweenDone : Cond.selects RX0 yX0_longestWayBetweenDone yX0_longestWayBetweenDone ∈ tb := tb_s 24 (by decide +kernel) (by decide +kernel)
theorem zsX0_groups : Cond.selects RX0 yX0_groups yX0_groups ∈ tb := tb_s 25 (by decide +kernel) (by decide +kernel)
theorem zsX0_pairsIssuedAtOnce : Cond.selects RX0 yX0_pairsIssuedAtOnce yX0_pairsIssuedAtOnce ∈ tb := tb_s 26 (by decide +kernel) (by decide +kernel)
theorem zsX0_mostAtWork : Cond.selects RX0 yX0_mostAtWork yX0_mostAtWork ∈ tb := tb_s 27 (by decide +kernel) (by decide +kernel)
theorem zsX1_come : Cond.selects RX1 yX1_come yX1_come ∈ tb := tb_s 28 (by decide +kernel) (by decide +kernel)
theorem zsX1_reckon : Cond.selects RX1 yX1_reckon yX1_reckon ∈ tb := tb_s 29 (by decide +kernel) (by decide +kernel)
theorem zsX1_stand : Cond.selects RX1 yX1_stand yX1_stand ∈ tb := tb_s 30 (by decide +kernel) (by decide +kernel)
theorem zsX1_fetch : Cond.selects RX1 yX1_fetch yX1_fetch ∈ tb := tb_s 31 (by decide +kernel) (by decide +kernel)
theorem zsX1_joins : Cond.selects RX1 yX1_joins yX1_joins ∈ tb := tb_s 32 (by decide +kernel) (by decide +kernel)
theorem zsX1_ready : Cond.selects RX1 yX1_ready yX1_ready ∈ tb := tb_s 33 (by decide +kernel) (by decide +kernel)
theorem zsX1_pairs : Cond.selects RX1 yX1_pairs yX1_pairs ∈ tb := tb_s 34 (by decide +kernel) (by decide +kernel)
theorem zsX1_stageOf : Cond.selects RX1 yX1_stageOf yX1_stageOf ∈ tb := tb_s 35 (by decide +kernel) (by decide +kernel)
theorem zsX1_inStage : Cond.selects RX1 yX1_inStage yX1_inStage ∈ tb := tb_s 36 (by decide +kernel) (by decide +kernel)
theorem zsX1_counted : Cond.selects RX1 yX1_counted yX1_counted ∈ tb := tb_s 37 (by decide +kernel) (by decide +kernel)
theorem zsX1_longest : Cond.selects RX1 yX1_longest yX1_longest ∈ tb := tb_s 38 (by decide +kernel) (by decide +kernel)
theorem zsX1_busiest : Cond.selects RX1 yX1_busiest yX1_busiest ∈ tb := tb_s 39 (by decide +kernel) (by decide +kernel)
theorem zsX0_put : Cond.selects RX0 yX0_put yX0_put ∈ tb := tb_t 59 (by decide +kernel) (by decide +kernel)
theorem zsX0_branch : Cond.selects RX0 yX0_branch yX0_branch ∈ tb := tb_t 153 (by decide +kernel) (by decide +kernel)
theorem zsX0_fail : Cond.selects RX0 yX0_fail yX0_fail ∈ tb := tb_t 157 (by decide +kernel) (by decide +kernel)
theorem zsX0_drop : Cond.selects RX0 yX0_drop yX0_drop ∈ tb := tb_t 165 (by decide +kernel) (by decide +kernel)
theorem zsX0_clear : Cond.selects RX0 yX0_clear yX0_clear ∈ tb := tb_t 169 (by decide +kernel) (by decide +kernel)
theorem zsX0_again : Cond.selects RX0 yX0_again yX0_again ∈ tb := tb_t 173 (by decide +kernel) (by decide +kernel)
theorem zsX0_time : Cond.selects RX0 yX0_time yX0_time ∈ tb := tb_t 181 (by decide +kernel) (by decide +kernel)
theorem zsX0_of : Cond.selects RX0 yX0_of yX0_of ∈ tb := tb_t 196 (by decide +kernel) (by decide +kernel)
theorem zsX0_stage : Cond.selects RX0 yX0_stage yX0_stage ∈ tb := tb_t 200 (by decide +kernel) (by decide +kernel)
theorem zsX0_many : Cond.selects RX0 yX0_many yX0_many ∈ tb := tb_t 208 (by decide +kernel) (by decide +kernel)
theorem zsX0_look : Cond.selects RX0 yX0_look yX0_look ∈ tb := tb_t 212 (by decide +kernel) (by decide +kernel)
theorem zsX1_put : Cond.selects RX1 yX1_put yX1_put ∈ tb := tb_t 297 (by decide +kernel) (by decide +kernel)
theorem zsX1_branch : Cond.selects RX1 yX1_branch yX1_branch ∈ tb := tb_t 308 (by decide +kernel) (by decide +kernel)
theorem zsX1_fail : Cond.selects RX1 yX1_fail yX1_fail ∈ tb := tb_t 312 (by decide +kernel) (by decide +kernel)
theorem zsX1_drop : Cond.selects RX1 yX1_drop yX1_drop ∈ tb := tb_t 316 (by decide +kernel) (by decide +kernel)
theorem zsX1_clear : Cond.selects RX1 yX1_clear yX1_clear ∈ tb := tb_t 320 (by decide +kernel) (by decide +kernel)
theorem zsX1_again : Cond.selects RX1 yX1_again yX1_again ∈ tb := tb_t 324 (by decide +kernel) (by decide +kernel)
theorem zsX1_time : Cond.selects RX1 yX1_time yX1_time ∈ tb := tb_t 328 (by decide +kernel) (by decide +kernel)
theorem zsX1_of : Cond.selects RX1 yX1_of yX1_of ∈ tb := tb_t 368 (by decide +kernel) (by decide +kernel)
theorem zsX1_stage : Cond.selects RX1 yX1_stage yX1_stage ∈ tb := tb_t 372 (by decide +kernel) (by decide +kernel)
theorem zsX1_many : Cond.selects RX1 yX1_many yX1_many ∈ tb := tb_t 380 (by decide +kernel) (by decide +kernel)
theorem zsX1_look : Cond.selects RX1 yX1_look yX1_look ∈ tb := tb_t 388 (by decide +kernel) (by decide +kernel)
theorem znL : Cond.initialized RL ∈ tb := tb_t 0 (by decide +kernel) (by decide +kernel)
theorem znX0 : Cond.initialized RX0 ∈ tb := tb_t 1 (by decide +kernel) (by decide +kernel)
theorem znX1 : Cond.initialized RX1 ∈ tb := tb_t 2 (by decide +kernel) (by decide +kernel)
theorem ia_max2 : Cond.initialized "java/lang/Math" ∈ tb := tb_t 3 (by decide +kernel) (by decide +kernel)
theorem zcl_7 : Cond.classLink RL 7 RX0 ∈ tb := tb_t 4 (by decide +kernel) (by decide +kernel)
theorem zinX0 : Cond.instantiable RX0 14 ∈ tb := tb_t 5 (by decide +kernel) (by decide +kernel)
theorem zmL_9 : Cond.methodLink RL 9 yX0_init ∈ tb := tb_t 6 (by decide +kernel) (by decide +kernel)
theorem zmX0_1 : Cond.methodLink RX0 1 objectInit ∈ tb := tb_t 9 (by decide +kernel) (by decide +kernel)
theorem zl_oi2 : Cond.instanceMethod objectInit ∈ tb := tb_t 10 (by decide +kernel) (by decide +kernel)
theorem zl_oi3 : Cond.code objectInit ⟨#[0xb1]⟩ 1 none ∈ tb := tb_t 11 (by decide +kernel) (by decide +kernel)
theorem za_I : Cond.arrayClass .int ∈ tb := tb_t 55 (by decide +kernel) (by decide +kernel)
theorem za_Z : Cond.arrayClass .boolean ∈ tb := tb_t 56 (by decide +kernel) (by decide +kernel)
theorem zmL_13 : Cond.methodLink RL 13 yX0_put ∈ tb := tb_t 57 (by decide +kernel) (by decide +kernel)
theorem zmX0_54 : Cond.methodLink RX0 54 yX0_isRegister ∈ tb := tb_t 61 (by decide +kernel) (by decide +kernel)
theorem zmX0_58 : Cond.methodLink RX0 58 yX0_append ∈ tb := tb_t 64 (by decide +kernel) (by decide +kernel)
theorem zmX0_108 : Cond.methodLink RX0 108 yX0_settle ∈ tb := tb_t 68 (by decide +kernel) (by decide +kernel)
theorem zmX0_112 : Cond.methodLink RX0 112 yX0_joinsGroup ∈ tb := tb_t 72 (by decide +kernel) (by decide +kernel)
theorem zmX0_124 : Cond.methodLink RX0 124 yX0_isBehindSlot ∈ tb := tb_t 76 (by decide +kernel) (by decide +kernel)
theorem zmX0_82 : Cond.methodLink RX0 82 yX0_liesBehind ∈ tb := tb_t 80 (by decide +kernel) (by decide +kernel)
theorem zmX0_79 : Cond.methodLink RX0 79 yX0_isRedirected ∈ tb := tb_t 84 (by decide +kernel) (by decide +kernel)
theorem zmX0_127 : Cond.methodLink RX0 127 yX0_isBehindFailingOrSingle ∈ tb := tb_t 88 (by decide +kernel) (by decide +kernel)
theorem zmX0_130 : Cond.methodLink RX0 130 yX0_isBehindSlotOfMissedBranch ∈ tb := tb_t 92 (by decide +kernel) (by decide +kernel)
theorem zmX0_133 : Cond.methodLink RX0 133 yX0_isMissed ∈ tb := tb_t 96 (by decide +kernel) (by decide +kernel)
theorem zmX0_115 : Cond.methodLink RX0 115 yX0_leastFetchTime ∈ tb := tb_t 100 (by decide +kernel) (by decide +kernel)
theorem zmX0_136 : Cond.methodLink RX0 136 Lib.Math.max.name ∈ tb := tb_t 104 (by decide +kernel) (by decide +kernel)
theorem ia_max1 : Cond.static Lib.Math.max.name ∈ tb := tb_t 105 (by decide +kernel) (by decide +kernel)
theorem ia_max3 : Cond.code Lib.Math.max.name Lib.Math.max.code 2 (some .int) ∈ tb := tb_t 106 (by decide +kernel) (by decide +kernel)
theorem zmX0_118 : Cond.methodLink RX0 118 yX0_leastIssueTime ∈ tb := tb_t 107 (by decide +kernel) (by decide +kernel)
theorem zmX0_141 : Cond.methodLink RX0 141 yX0_leastInOrder ∈ tb := tb_t 111 (by decide +kernel) (by decide +kernel)
theorem zmX0_150 : Cond.methodLink RX0 150 yX0_makesPair ∈ tb := tb_t 115 (by decide +kernel) (by decide +kernel)
theorem zmX0_153 : Cond.methodLink RX0 153 yX0_usesMemory ∈ tb := tb_t 119 (by decide +kernel) (by decide +kernel)
theorem zmX0_156 : Cond.methodLink RX0 156 yX0_usesMultiplier ∈ tb := tb_t 122 (by decide +kernel) (by decide +kernel)
theorem zmX0_159 : Cond.methodLink RX0 159 yX0_reads ∈ tb := tb_t 125 (by decide +kernel) (by decide +kernel)
theorem zmX0_144 : Cond.methodLink RX0 144 yX0_whenReadable ∈ tb := tb_t 129 (by decide +kernel) (by decide +kernel)
theorem zmX0_163 : Cond.methodLink RX0 163 yX0_delayOf ∈ tb := tb_t 133 (by decide +kernel) (by decide +kernel)
theorem zmX0_147 : Cond.methodLink RX0 147 yX0_whenDividerIsFree ∈ tb := tb_t 136 (by decide +kernel) (by decide +kernel)
theorem zmX0_89 : Cond.methodLink RX0 89 yX0_doneBefore ∈ tb := tb_t 140 (by decide +kernel) (by decide +kernel)
theorem zmX0_121 : Cond.methodLink RX0 121 yX0_leastDoneTime ∈ tb := tb_t 144 (by decide +kernel) (by decide +kernel)
theorem zmX0_166 : Cond.methodLink RX0 166 yX0_workOf ∈ tb := tb_t 148 (by decide +kernel) (by decide +kernel)
theorem zmL_18 : Cond.methodLink RL 18 yX0_branch ∈ tb := tb_t 151 (by decide +kernel) (by decide +kernel)
theorem zmL_23 : Cond.methodLink RL 23 yX0_fail ∈ tb := tb_t 155 (by decide +kernel) (by decide +kernel)
theorem zmX0_62 : Cond.methodLink RX0 62 yX0_failLast ∈ tb := tb_t 159 (by decide +kernel) (by decide +kernel)
theorem zmL_28 : Cond.methodLink RL 28 yX0_drop ∈ tb := tb_t 163 (by decide +kernel) (by decide +kernel)
theorem zmL_33 : Cond.methodLink RL 33 yX0_clear ∈ tb := tb_t 167 (by decide +kernel) (by decide +kernel)
theorem zmL_37 : Cond.methodLink RL 37 yX0_again ∈ tb := tb_t 171 (by decide +kernel) (by decide +kernel)
theorem zmX0_65 : Cond.methodLink RX0 65 yX0_isInstruction ∈ tb := tb_t 175 (by decide +kernel) (by decide +kernel)
theorem zmL_42 : Cond.methodLink RL 42 yX0_time ∈ tb := tb_t 179 (by decide +kernel) (by decide +kernel)
theorem zmX0_68 : Cond.methodLink RX0 68 yX0_groupSize ∈ tb := tb_t 183 (by decide +kernel) (by decide +kernel)
theorem zmX0_72 : Cond.methodLink RX0 72 yX0_isIssuedAsSecond ∈ tb := tb_t 187 (by decide +kernel) (by decide +kernel)
theorem zmX0_75 : Cond.methodLink RX0 75 yX0_oneIf ∈ tb := tb_t 191 (by decide +kernel) (by decide +kernel)
theorem zmL_46 : Cond.methodLink RL 46 yX0_of ∈ tb := tb_t 194 (by decide +kernel) (by decide +kernel)
theorem zmL_50 : Cond.methodLink RL 50 yX0_stage ∈ tb := tb_t 198 (by decide +kernel) (by decide +kernel)
theorem zmX0_85 : Cond.methodLink RX0 85 yX0_stageAt ∈ tb := tb_t 202 (by decide +kernel) (by decide +kernel)
theorem zmL_54 : Cond.methodLink RL 54 yX0_many ∈ tb := tb_t 206 (by decide +kernel) (by decide +kernel)
theorem zmL_58 : Cond.methodLink RL 58 yX0_look ∈ tb := tb_t 210 (by decide +kernel) (by decide +kernel)
theorem zmX0_92 : Cond.methodLink RX0 92 yX0_cyclesWithTwoDone ∈ tb := tb_t 214 (by decide +kernel) (by decide +kernel)
theorem zmX0_96 : Cond.methodLink RX0 96 yX0_longestWayBetweenDone ∈ tb := tb_t 218 (by decide +kernel) (by decide +kernel)
theorem zmX0_99 : Cond.methodLink RX0 99 yX0_groups ∈ tb := tb_t 222 (by decide +kernel) (by decide +kernel)
theorem zmX0_102 : Cond.methodLink RX0 102 yX0_pairsIssuedAtOnce ∈ tb := tb_t 226 (by decide +kernel) (by decide +kernel)
theorem zmX0_105 : Cond.methodLink RX0 105 yX0_mostAtWork ∈ tb := tb_t 230 (by decide +kernel) (by decide +kernel)
theorem zcl_10 : Cond.classLink RL 10 RX1 ∈ tb := tb_t 234 (by decide +kernel) (by decide +kernel)
theorem zinX1 : Cond.instantiable RX1 18 ∈ tb := tb_t 235 (by decide +kernel) (by decide +kernel)
theorem zmL_12 : Cond.methodLink RL 12 yX1_init ∈ tb := tb_t 236 (by decide +kernel) (by decide +kernel)
theorem zmX1_1 : Cond.methodLink RX1 1 objectInit ∈ tb := tb_t 239 (by decide +kernel) (by decide +kernel)
theorem zmL_17 : Cond.methodLink RL 17 yX1_put ∈ tb := tb_t 295 (by decide +kernel) (by decide +kernel)
theorem zmX1_66 : Cond.methodLink RX1 66 yX1_isRegister ∈ tb := tb_t 299 (by decide +kernel) (by decide +kernel)
theorem zmX1_70 : Cond.methodLink RX1 70 yX1_come ∈ tb := tb_t 302 (by decide +kernel) (by decide +kernel)
theorem zmL_22 : Cond.methodLink RL 22 yX1_branch ∈ tb := tb_t 306 (by decide +kernel) (by decide +kernel)
theorem zmL_27 : Cond.methodLink RL 27 yX1_fail ∈ tb := tb_t 310 (by decide +kernel) (by decide +kernel)
theorem zmL_32 : Cond.methodLink RL 32 yX1_drop ∈ tb := tb_t 314 (by decide +kernel) (by decide +kernel)
theorem zmL_36 : Cond.methodLink RL 36 yX1_clear ∈ tb := tb_t 318 (by decide +kernel) (by decide +kernel)
theorem zmL_41 : Cond.methodLink RL 41 yX1_again ∈ tb := tb_t 322 (by decide +kernel) (by decide +kernel)
theorem zmL_45 : Cond.methodLink RL 45 yX1_time ∈ tb := tb_t 326 (by decide +kernel) (by decide +kernel)
theorem zmX1_104 : Cond.methodLink RX1 104 yX1_reckon ∈ tb := tb_t 330 (by decide +kernel) (by decide +kernel)
theorem zmX1_91 : Cond.methodLink RX1 91 yX1_stand ∈ tb := tb_t 334 (by decide +kernel) (by decide +kernel)
theorem zmX1_95 : Cond.methodLink RX1 95 yX1_fetch ∈ tb := tb_t 338 (by decide +kernel) (by decide +kernel)
theorem zmX1_80 : Cond.methodLink RX1 80 yX1_joins ∈ tb := tb_t 342 (by decide +kernel) (by decide +kernel)
theorem zmX1_83 : Cond.methodLink RX1 83 yX1_later ∈ tb := tb_t 346 (by decide +kernel) (by decide +kernel)
theorem zmX1_98 : Cond.methodLink RX1 98 yX1_ready ∈ tb := tb_t 349 (by decide +kernel) (by decide +kernel)
theorem zmX1_87 : Cond.methodLink RX1 87 yX1_delay ∈ tb := tb_t 353 (by decide +kernel) (by decide +kernel)
theorem zmX1_101 : Cond.methodLink RX1 101 yX1_pairs ∈ tb := tb_t 356 (by decide +kernel) (by decide +kernel)
theorem zmX1_74 : Cond.methodLink RX1 74 yX1_isMemory ∈ tb := tb_t 360 (by decide +kernel) (by decide +kernel)
theorem zmX1_77 : Cond.methodLink RX1 77 yX1_isSlow ∈ tb := tb_t 363 (by decide +kernel) (by decide +kernel)
theorem zmL_49 : Cond.methodLink RL 49 yX1_of ∈ tb := tb_t 366 (by decide +kernel) (by decide +kernel)
theorem zmL_53 : Cond.methodLink RL 53 yX1_stage ∈ tb := tb_t 370 (by decide +kernel) (by decide +kernel)
theorem zmX1_107 : Cond.methodLink RX1 107 yX1_stageOf ∈ tb := tb_t 374 (by decide +kernel) (by decide +kernel)
theorem zmL_57 : Cond.methodLink RL 57 yX1_many ∈ tb := tb_t 378 (by decide +kernel) (by decide +kernel)
theorem zmX1_110 : Cond.methodLink RX1 110 yX1_inStage ∈ tb := tb_t 382 (by decide +kernel) (by decide +kernel)
theorem zmL_62 : Cond.methodLink RL 62 yX1_look ∈ tb := tb_t 386 (by decide +kernel) (by decide +kernel)
theorem zmX1_113 : Cond.methodLink RX1 113 yX1_counted ∈ tb := tb_t 390 (by decide +kernel) (by decide +kernel)
theorem zmX1_116 : Cond.methodLink RX1 116 yX1_longest ∈ tb := tb_t 394 (by decide +kernel) (by decide +kernel)
theorem zmX1_120 : Cond.methodLink RX1 120 yX1_busiest ∈ tb := tb_t 398 (by decide +kernel) (by decide +kernel)
theorem zyX0_put : yX0_put.cls = RX0 ∧ yX0_put.cls ≠ "java/lang/invoke/MethodHandle" ∧ yX0_put.cls ≠ "java/lang/invoke/VarHandle" ∧ (parseMethodDescriptor yX0_put.desc).map (fun d => d.parameters.length) = some 4 := by decide +kernel
theorem zyX0_isRegister : yX0_isRegister.cls = RX0 ∧ yX0_isRegister.cls ≠ "java/lang/invoke/MethodHandle" ∧ yX0_isRegister.cls ≠ "java/lang/invoke/VarHandle" ∧ (parseMethodDescriptor yX0_isRegister.desc).map (fun d => d.parameters.length) = some 1 := by decide +kernel
theorem zyX0_append : yX0_append.cls = RX0 ∧ yX0_append.cls ≠ "java/lang/invoke/MethodHandle" ∧ yX0_append.cls ≠ "java/lang/invoke/VarHandle" ∧ (parseMethodDescriptor yX0_append.desc).map (fun d => d.parameters.length) = some 6 := by decide +kernel
theorem zyX0_settle : yX0_settle.cls = RX0 ∧ yX0_settle.cls ≠ "java/lang/invoke/MethodHandle" ∧ yX0_settle.cls ≠ "java/lang/invoke/VarHandle" ∧ (parseMethodDescriptor yX0_settle.desc).map (fun d => d.parameters.length) = some 1 := by decide +kernel
theorem zyX0_joinsGroup : yX0_joinsGroup.cls = RX0 ∧ yX0_joinsGroup.cls ≠ "java/lang/invoke/MethodHandle" ∧ yX0_joinsGroup.cls ≠ "java/lang/invoke/VarHandle" ∧ (parseMethodDescriptor yX0_joinsGroup.desc).map (fun d => d.parameters.length) = some 1 := by decide +kernel
theorem zyX0_isBehindSlot : yX0_isBehindSlot.cls = RX0 ∧ yX0_isBehindSlot.cls ≠ "java/lang/invoke/MethodHandle" ∧ yX0_isBehindSlot.cls ≠ "java/lang/invoke/VarHandle" ∧ (parseMethodDescriptor yX0_isBehindSlot.desc).map (fun d => d.parameters.length) = some 1 := by decide +kernel
theorem zyX0_liesBehind : yX0_liesBehind.cls = RX0 ∧ yX0_liesBehind.cls ≠ "java/lang/invoke/MethodHandle" ∧ yX0_liesBehind.cls ≠ "java/lang/invoke/VarHandle" ∧ (parseMethodDescriptor yX0_liesBehind.desc).map (fun d => d.parameters.length) = some 1 := by decide +kernel
theorem zyX0_isRedirected : yX0_isRedirected.cls = RX0 ∧ yX0_isRedirected.cls ≠ "java/lang/invoke/MethodHandle" ∧ yX0_isRedirected.cls ≠ "java/lang/invoke/VarHandle" ∧ (parseMethodDescriptor yX0_isRedirected.desc).map (fun d => d.parameters.length) = some 1 := by decide +kernel
theorem zyX0_isBehindFailingOrSingle : yX0_isBehindFailingOrSingle.cls = RX0 ∧ yX0_isBehindFailingOrSingle.cls ≠ "java/lang/invoke/MethodHandle" ∧ yX0_isBehindFailingOrSingle.cls ≠ "java/lang/invoke/VarHandle" ∧ (parseMethodDescriptor yX0_isBehindFailingOrSingle.desc).map (fun d => d.parameters.length) = some 1 := by decide +kernel
theorem zyX0_isBehindSlotOfMissedBranch : yX0_isBehindSlotOfMissedBranch.cls = RX0 ∧ yX0_isBehindSlotOfMissedBranch.cls ≠ "java/lang/invoke/MethodHandle" ∧ yX0_isBehindSlotOfMissedBranch.cls ≠ "java/lang/invoke/VarHandle" ∧ (parseMethodDescriptor yX0_isBehindSlotOfMissedBranch.desc).map (fun d => d.parameters.length) = some 1 := by decide +kernel
theorem zyX0_isMissed : yX0_isMissed.cls = RX0 ∧ yX0_isMissed.cls ≠ "java/lang/invoke/MethodHandle" ∧ yX0_isMissed.cls ≠ "java/lang/invoke/VarHandle" ∧ (parseMethodDescriptor yX0_isMissed.desc).map (fun d => d.parameters.length) = some 1 := by decide +kernel
theorem zyX0_leastFetchTime : yX0_leastFetchTime.cls = RX0 ∧ yX0_leastFetchTime.cls ≠ "java/lang/invoke/MethodHandle" ∧ yX0_leastFetchTime.cls ≠ "java/lang/invoke/VarHandle" ∧ (parseMethodDescriptor yX0_leastFetchTime.desc).map (fun d => d.parameters.length) = some 1 := by decide +kernel
theorem zyX0_leastIssueTime : yX0_leastIssueTime.cls = RX0 ∧ yX0_leastIssueTime.cls ≠ "java/lang/invoke/MethodHandle" ∧ yX0_leastIssueTime.cls ≠ "java/lang/invoke/VarHandle" ∧ (parseMethodDescriptor yX0_leastIssueTime.desc).map (fun d => d.parameters.length) = some 1 := by decide +kernel
theorem zyX0_leastInOrder : yX0_leastInOrder.cls = RX0 ∧ yX0_leastInOrder.cls ≠ "java/lang/invoke/MethodHandle" ∧ yX0_leastInOrder.cls ≠ "java/lang/invoke/VarHandle" ∧ (parseMethodDescriptor yX0_leastInOrder.desc).map (fun d => d.parameters.length) = some 1 := by decide +kernel
theorem zyX0_makesPair : yX0_makesPair.cls = RX0 ∧ yX0_makesPair.cls ≠ "java/lang/invoke/MethodHandle" ∧ yX0_makesPair.cls ≠ "java/lang/invoke/VarHandle" ∧ (parseMethodDescriptor yX0_makesPair.desc).map (fun d => d.parameters.length) = some 1 := by decide +kernel
theorem zyX0_usesMemory : yX0_usesMemory.cls = RX0 ∧ yX0_usesMemory.cls ≠ "java/lang/invoke/MethodHandle" ∧ yX0_usesMemory.cls ≠ "java/lang/invoke/VarHandle" ∧ (parseMethodDescriptor yX0_usesMemory.desc).map (fun d => d.parameters.length) = some 1 := by decide +kernel
theorem zyX0_usesMultiplier : yX0_usesMultiplier.cls = RX0 ∧ yX0_usesMultiplier.cls ≠ "java/lang/invoke/MethodHandle" ∧ yX0_usesMultiplier.cls ≠ "java/lang/invoke/VarHandle" ∧ (parseMethodDescriptor yX0_usesMultiplier.desc).map (fun d => d.parameters.length) = some 1 := by decide +kernel
theorem zyX0_reads : yX0_reads.cls = RX0 ∧ yX0_reads.cls ≠ "java/lang/invoke/MethodHandle" ∧ yX0_reads.cls ≠ "java/lang/invoke/VarHandle" ∧ (parseMethodDescriptor yX0_reads.desc).map (fun d => d.parameters.length) = some 2 := by decide +kernel
theorem zyX0_whenReadable : yX0_whenReadable.cls = RX0 ∧ yX0_whenReadable.cls ≠ "java/lang/invoke/MethodHandle" ∧ yX0_whenReadable.cls ≠ "java/lang/invoke/VarHandle" ∧ (parseMethodDescriptor yX0_whenReadable.desc).map (fun d => d.parameters.length) = some 2 := by decide +kernel
theorem zyX0_delayOf : yX0_delayOf.cls = RX0 ∧ yX0_delayOf.cls ≠ "java/lang/invoke/MethodHandle" ∧ yX0_delayOf.cls ≠ "java/lang/invoke/VarHandle" ∧ (parseMethodDescriptor yX0_delayOf.desc).map (fun d => d.parameters.length) = some 1 := by decide +kernel
theorem zyX0_whenDividerIsFree : yX0_whenDividerIsFree.cls = RX0 ∧ yX0_whenDividerIsFree.cls ≠ "java/lang/invoke/MethodHandle" ∧ yX0_whenDividerIsFree.cls ≠ "java/lang/invoke/VarHandle" ∧ (parseMethodDescriptor yX0_whenDividerIsFree.desc).map (fun d => d.parameters.length) = some 1 := by decide +kernel
theorem zyX0_doneBefore : yX0_doneBefore.cls = RX0 ∧ yX0_doneBefore.cls ≠ "java/lang/invoke/MethodHandle" ∧ yX0_doneBefore.cls ≠ "java/lang/invoke/VarHandle" ∧ (parseMethodDescriptor yX0_doneBefore.desc).map (fun d => d.parameters.length) = some 1 := by decide +kernel
theorem zyX0_leastDoneTime : yX0_leastDoneTime.cls = RX0 ∧ yX0_leastDoneTime.cls ≠ "java/lang/invoke/MethodHandle" ∧ yX0_leastDoneTime.cls ≠ "java/lang/invoke/VarHandle" ∧ (parseMethodDescriptor yX0_leastDoneTime.desc).map (fun d => d.parameters.length) = some 1 := by decide +kernel
theorem zyX0_workOf : yX0_workOf.cls = RX0 ∧ yX0_workOf.cls ≠ "java/lang/invoke/MethodHandle" ∧ yX0_workOf.cls ≠ "java/lang/invoke/VarHandle" ∧ (parseMethodDescriptor yX0_workOf.desc).map (fun d => d.parameters.length) = some 1 := by decide +kernel
theorem zyX0_branch : yX0_branch.cls = RX0 ∧ yX0_branch.cls ≠ "java/lang/invoke/MethodHandle" ∧ yX0_branch.cls ≠ "java/lang/invoke/VarHandle" ∧ (parseMethodDescriptor yX0_branch.desc).map (fun d => d.parameters.length) = some 4 := by decide +kernel
theorem zyX0_fail : yX0_fail.cls = RX0 ∧ yX0_fail.cls ≠ "java/lang/invoke/MethodHandle" ∧ yX0_fail.cls ≠ "java/lang/invoke/VarHandle" ∧ (parseMethodDescriptor yX0_fail.desc).map (fun d => d.parameters.length) = some 0 := by decide +kernel
theorem zyX0_failLast : yX0_failLast.cls = RX0 ∧ yX0_failLast.cls ≠ "java/lang/invoke/MethodHandle" ∧ yX0_failLast.cls ≠ "java/lang/invoke/VarHandle" ∧ (parseMethodDescriptor yX0_failLast.desc).map (fun d => d.parameters.length) = some 0 := by decide +kernel
theorem zyX0_drop : yX0_drop.cls = RX0 ∧ yX0_drop.cls ≠ "java/lang/invoke/MethodHandle" ∧ yX0_drop.cls ≠ "java/lang/invoke/VarHandle" ∧ (parseMethodDescriptor yX0_drop.desc).map (fun d => d.parameters.length) = some 1 := by decide +kernel
theorem zyX0_clear : yX0_clear.cls = RX0 ∧ yX0_clear.cls ≠ "java/lang/invoke/MethodHandle" ∧ yX0_clear.cls ≠ "java/lang/invoke/VarHandle" ∧ (parseMethodDescriptor yX0_clear.desc).map (fun d => d.parameters.length) = some 0 := by decide +kernel
theorem zyX0_again : yX0_again.cls = RX0 ∧ yX0_again.cls ≠ "java/lang/invoke/MethodHandle" ∧ yX0_again.cls ≠ "java/lang/invoke/VarHandle" ∧ (parseMethodDescriptor yX0_again.desc).map (fun d => d.parameters.length) = some 2 := by decide +kernel
theorem zyX0_isInstruction : yX0_isInstruction.cls = RX0 ∧ yX0_isInstruction.cls ≠ "java/lang/invoke/MethodHandle" ∧ yX0_isInstruction.cls ≠ "java/lang/invoke/VarHandle" ∧ (parseMethodDescriptor yX0_isInstruction.desc).map (fun d => d.parameters.length) = some 1 := by decide +kernel
theorem zyX0_time : yX0_time.cls = RX0 ∧ yX0_time.cls ≠ "java/lang/invoke/MethodHandle" ∧ yX0_time.cls ≠ "java/lang/invoke/VarHandle" ∧ (parseMethodDescriptor yX0_time.desc).map (fun d => d.parameters.length) = some 2 := by decide +kernel
theorem zyX0_groupSize : yX0_groupSize.cls = RX0 ∧ yX0_groupSize.cls ≠ "java/lang/invoke/MethodHandle" ∧ yX0_groupSize.cls ≠ "java/lang/invoke/VarHandle" ∧ (parseMethodDescriptor yX0_groupSize.desc).map (fun d => d.parameters.length) = some 1 := by decide +kernel
theorem zyX0_isIssuedAsSecond : yX0_isIssuedAsSecond.cls = RX0 ∧ yX0_isIssuedAsSecond.cls ≠ "java/lang/invoke/MethodHandle" ∧ yX0_isIssuedAsSecond.cls ≠ "java/lang/invoke/VarHandle" ∧ (parseMethodDescriptor yX0_isIssuedAsSecond.desc).map (fun d => d.parameters.length) = some 1 := by decide +kernel
theorem zyX0_oneIf : yX0_oneIf.cls = RX0 ∧ yX0_oneIf.cls ≠ "java/lang/invoke/MethodHandle" ∧ yX0_oneIf.cls ≠ "java/lang/invoke/VarHandle" ∧ (parseMethodDescriptor yX0_oneIf.desc).map (fun d => d.parameters.length) = some 1 := by decide +kernel
theorem zyX0_of : yX0_of.cls = RX0 ∧ yX0_of.cls ≠ "java/lang/invoke/MethodHandle" ∧ yX0_of.cls ≠ "java/lang/invoke/VarHandle" ∧ (parseMethodDescriptor yX0_of.desc).map (fun d => d.parameters.length) = some 2 := by decide +kernel
theorem zyX0_stage : yX0_stage.cls = RX0 ∧ yX0_stage.cls ≠ "java/lang/invoke/MethodHandle" ∧ yX0_stage.cls ≠ "java/lang/invoke/VarHandle" ∧ (parseMethodDescriptor yX0_stage.desc).map (fun d => d.parameters.length) = some 2 := by decide +kernel
theorem zyX0_stageAt : yX0_stageAt.cls = RX0 ∧ yX0_stageAt.cls ≠ "java/lang/invoke/MethodHandle" ∧ yX0_stageAt.cls ≠ "java/lang/invoke/VarHandle" ∧ (parseMethodDescriptor yX0_stageAt.desc).map (fun d => d.parameters.length) = some 2 := by decide +kernel
theorem zyX0_many : yX0_many.cls = RX0 ∧ yX0_many.cls ≠ "java/lang/invoke/MethodHandle" ∧ yX0_many.cls ≠ "java/lang/invoke/VarHandle" ∧ (parseMethodDescriptor yX0_many.desc).map (fun d => d.parameters.length) = some 2 := by decide +kernel
theorem zyX0_look : yX0_look.cls = RX0 ∧ yX0_look.cls ≠ "java/lang/invoke/MethodHandle" ∧ yX0_look.cls ≠ "java/lang/invoke/VarHandle" ∧ (parseMethodDescriptor yX0_look.desc).map (fun d => d.parameters.length) = some 1 := by decide +kernel
theorem zyX0_cyclesWithTwoDone : yX0_cyclesWithTwoDone.cls = RX0 ∧ yX0_cyclesWithTwoDone.cls ≠ "java/lang/invoke/MethodHandle" ∧ yX0_cyclesWithTwoDone.cls ≠ "java/lang/invoke/VarHandle" ∧ (parseMethodDescriptor yX0_cyclesWithTwoDone.desc).map (fun d => d.parameters.length) = some 0 := by decide +kernel
theorem zyX0_longestWayBetweenDone : yX0_longestWayBetweenDone.cls = RX0 ∧ yX0_longestWayBetweenDone.cls ≠ "java/lang/invoke/MethodHandle" ∧ yX0_longestWayBetweenDone.cls ≠ "java/lang/invoke/VarHandle" ∧ (parseMethodDescriptor yX0_longestWayBetweenDone.desc).map (fun d => d.parameters.length) = some 0 := by decide +kernel
theorem zyX0_groups : yX0_groups.cls = RX0 ∧ yX0_groups.cls ≠ "java/lang/invoke/MethodHandle" ∧ yX0_groups.cls ≠ "java/lang/invoke/VarHandle" ∧ (parseMethodDescriptor yX0_groups.desc).map (fun d => d.parameters.length) = some 0 := by decide +kernel
theorem zyX0_pairsIssuedAtOnce : yX0_pairsIssuedAtOnce.cls = RX0 ∧ yX0_pairsIssuedAtOnce.cls ≠ "java/lang/invoke/MethodHandle" ∧ yX0_pairsIssuedAtOnce.cls ≠ "java/lang/invoke/VarHandle" ∧ (parseMethodDescriptor yX0_pairsIssuedAtOnce.desc).map (fun d => d.parameters.length) = some 0 := by decide +kernel
theorem zyX0_mostAtWork : yX0_mostAtWork.cls = RX0 ∧ yX0_mostAtWork.cls ≠ "java/lang/invoke/MethodHandle" ∧ yX0_mostAtWork.cls ≠ "java/lang/invoke/VarHandle" ∧ (parseMethodDescriptor yX0_mostAtWork.desc).map (fun d => d.parameters.length) = some 0 := by decide +kernel
theorem zyX1_put : yX1_put.cls = RX1 ∧ yX1_put.cls ≠ "java/lang/invoke/MethodHandle" ∧ yX1_put.cls ≠ "java/lang/invoke/VarHandle" ∧ (parseMethodDescriptor yX1_put.desc).map (fun d => d.parameters.length) = some 4 := by decide +kernel
theorem zyX1_isRegister : yX1_isRegister.cls = RX1 ∧ yX1_isRegister.cls ≠ "java/lang/invoke/MethodHandle" ∧ yX1_isRegister.cls ≠ "java/lang/invoke/VarHandle" ∧ (parseMethodDescriptor yX1_isRegister.desc).map (fun d => d.parameters.length) = some 1 := by decide +kernel
theorem zyX1_come : yX1_come.cls = RX1 ∧ yX1_come.cls ≠ "java/lang/invoke/MethodHandle" ∧ yX1_come.cls ≠ "java/lang/invoke/VarHandle" ∧ (parseMethodDescriptor yX1_come.desc).map (fun d => d.parameters.length) = some 6 := by decide +kernel
theorem zyX1_branch : yX1_branch.cls = RX1 ∧ yX1_branch.cls ≠ "java/lang/invoke/MethodHandle" ∧ yX1_branch.cls ≠ "java/lang/invoke/VarHandle" ∧ (parseMethodDescriptor yX1_branch.desc).map (fun d => d.parameters.length) = some 4 := by decide +kernel
theorem zyX1_fail : yX1_fail.cls = RX1 ∧ yX1_fail.cls ≠ "java/lang/invoke/MethodHandle" ∧ yX1_fail.cls ≠ "java/lang/invoke/VarHandle" ∧ (parseMethodDescriptor yX1_fail.desc).map (fun d => d.parameters.length) = some 0 := by decide +kernel
theorem zyX1_drop : yX1_drop.cls = RX1 ∧ yX1_drop.cls ≠ "java/lang/invoke/MethodHandle" ∧ yX1_drop.cls ≠ "java/lang/invoke/VarHandle" ∧ (parseMethodDescriptor yX1_drop.desc).map (fun d => d.parameters.length) = some 1 := by decide +kernel
theorem zyX1_clear : yX1_clear.cls = RX1 ∧ yX1_clear.cls ≠ "java/lang/invoke/MethodHandle" ∧ yX1_clear.cls ≠ "java/lang/invoke/VarHandle" ∧ (parseMethodDescriptor yX1_clear.desc).map (fun d => d.parameters.length) = some 0 := by decide +kernel
theorem zyX1_again : yX1_again.cls = RX1 ∧ yX1_again.cls ≠ "java/lang/invoke/MethodHandle" ∧ yX1_again.cls ≠ "java/lang/invoke/VarHandle" ∧ (parseMethodDescriptor yX1_again.desc).map (fun d => d.parameters.length) = some 2 := by decide +kernel
theorem zyX1_time : yX1_time.cls = RX1 ∧ yX1_time.cls ≠ "java/lang/invoke/MethodHandle" ∧ yX1_time.cls ≠ "java/lang/invoke/VarHandle" ∧ (parseMethodDescriptor yX1_time.desc).map (fun d => d.parameters.length) = some 2 := by decide +kernel
theorem zyX1_reckon : yX1_reckon.cls = RX1 ∧ yX1_reckon.cls ≠ "java/lang/invoke/MethodHandle" ∧ yX1_reckon.cls ≠ "java/lang/invoke/VarHandle" ∧ (parseMethodDescriptor yX1_reckon.desc).map (fun d => d.parameters.length) = some 0 := by decide +kernel
theorem zyX1_stand : yX1_stand.cls = RX1 ∧ yX1_stand.cls ≠ "java/lang/invoke/MethodHandle" ∧ yX1_stand.cls ≠ "java/lang/invoke/VarHandle" ∧ (parseMethodDescriptor yX1_stand.desc).map (fun d => d.parameters.length) = some 1 := by decide +kernel
theorem zyX1_fetch : yX1_fetch.cls = RX1 ∧ yX1_fetch.cls ≠ "java/lang/invoke/MethodHandle" ∧ yX1_fetch.cls ≠ "java/lang/invoke/VarHandle" ∧ (parseMethodDescriptor yX1_fetch.desc).map (fun d => d.parameters.length) = some 1 := by decide +kernel
theorem zyX1_joins : yX1_joins.cls = RX1 ∧ yX1_joins.cls ≠ "java/lang/invoke/MethodHandle" ∧ yX1_joins.cls ≠ "java/lang/invoke/VarHandle" ∧ (parseMethodDescriptor yX1_joins.desc).map (fun d => d.parameters.length) = some 1 := by decide +kernel
theorem zyX1_later : yX1_later.cls = RX1 ∧ yX1_later.cls ≠ "java/lang/invoke/MethodHandle" ∧ yX1_later.cls ≠ "java/lang/invoke/VarHandle" ∧ (parseMethodDescriptor yX1_later.desc).map (fun d => d.parameters.length) = some 2 := by decide +kernel
theorem zyX1_ready : yX1_ready.cls = RX1 ∧ yX1_ready.cls ≠ "java/lang/invoke/MethodHandle" ∧ yX1_ready.cls ≠ "java/lang/invoke/VarHandle" ∧ (parseMethodDescriptor yX1_ready.desc).map (fun d => d.parameters.length) = some 1 := by decide +kernel
theorem zyX1_delay : yX1_delay.cls = RX1 ∧ yX1_delay.cls ≠ "java/lang/invoke/MethodHandle" ∧ yX1_delay.cls ≠ "java/lang/invoke/VarHandle" ∧ (parseMethodDescriptor yX1_delay.desc).map (fun d => d.parameters.length) = some 1 := by decide +kernel
theorem zyX1_pairs : yX1_pairs.cls = RX1 ∧ yX1_pairs.cls ≠ "java/lang/invoke/MethodHandle" ∧ yX1_pairs.cls ≠ "java/lang/invoke/VarHandle" ∧ (parseMethodDescriptor yX1_pairs.desc).map (fun d => d.parameters.length) = some 1 := by decide +kernel
theorem zyX1_isMemory : yX1_isMemory.cls = RX1 ∧ yX1_isMemory.cls ≠ "java/lang/invoke/MethodHandle" ∧ yX1_isMemory.cls ≠ "java/lang/invoke/VarHandle" ∧ (parseMethodDescriptor yX1_isMemory.desc).map (fun d => d.parameters.length) = some 1 := by decide +kernel
theorem zyX1_isSlow : yX1_isSlow.cls = RX1 ∧ yX1_isSlow.cls ≠ "java/lang/invoke/MethodHandle" ∧ yX1_isSlow.cls ≠ "java/lang/invoke/VarHandle" ∧ (parseMethodDescriptor yX1_isSlow.desc).map (fun d => d.parameters.length) = some 1 := by decide +kernel
theorem zyX1_of : yX1_of.cls = RX1 ∧ yX1_of.cls ≠ "java/lang/invoke/MethodHandle" ∧ yX1_of.cls ≠ "java/lang/invoke/VarHandle" ∧ (parseMethodDescriptor yX1_of.desc).map (fun d => d.parameters.length) = some 2 := by decide +kernel
theorem zyX1_stage : yX1_stage.cls = RX1 ∧ yX1_stage.cls ≠ "java/lang/invoke/MethodHandle" ∧ yX1_stage.cls ≠ "java/lang/invoke/VarHandle" ∧ (parseMethodDescriptor yX1_stage.desc).map (fun d => d.parameters.length) = some 2 := by decide +kernel
theorem zyX1_stageOf : yX1_stageOf.cls = RX1 ∧ yX1_stageOf.cls ≠ "java/lang/invoke/MethodHandle" ∧ yX1_stageOf.cls ≠ "java/lang/invoke/VarHandle" ∧ (parseMethodDescriptor yX1_stageOf.desc).map (fun d => d.parameters.length) = some 2 := by decide +kernel
theorem zyX1_many : yX1_many.cls = RX1 ∧ yX1_many.cls ≠ "java/lang/invoke/MethodHandle" ∧ yX1_many.cls ≠ "java/lang/invoke/VarHandle" ∧ (parseMethodDescriptor yX1_many.desc).map (fun d => d.parameters.length) = some 2 := by decide +kernel
theorem zyX1_inStage : yX1_inStage.cls = RX1 ∧ yX1_inStage.cls ≠ "java/lang/invoke/MethodHandle" ∧ yX1_inStage.cls ≠ "java/lang/invoke/VarHandle" ∧ (parseMethodDescriptor yX1_inStage.desc).map (fun d => d.parameters.length) = some 2 := by decide +kernel
theorem zyX1_look : yX1_look.cls = RX1 ∧ yX1_look.cls ≠ "java/lang/invoke/MethodHandle" ∧ yX1_look.cls ≠ "java/lang/invoke/VarHandle" ∧ (parseMethodDescriptor yX1_look.desc).map (fun d => d.parameters.length) = some 1 := by decide +kernel
theorem zyX1_counted : yX1_counted.cls = RX1 ∧ yX1_counted.cls ≠ "java/lang/invoke/MethodHandle" ∧ yX1_counted.cls ≠ "java/lang/invoke/VarHandle" ∧ (parseMethodDescriptor yX1_counted.desc).map (fun d => d.parameters.length) = some 1 := by decide +kernel
theorem zyX1_longest : yX1_longest.cls = RX1 ∧ yX1_longest.cls ≠ "java/lang/invoke/MethodHandle" ∧ yX1_longest.cls ≠ "java/lang/invoke/VarHandle" ∧ (parseMethodDescriptor yX1_longest.desc).map (fun d => d.parameters.length) = some 0 := by decide +kernel
theorem zyX1_busiest : yX1_busiest.cls = RX1 ∧ yX1_busiest.cls ≠ "java/lang/invoke/MethodHandle" ∧ yX1_busiest.cls ≠ "java/lang/invoke/VarHandle" ∧ (parseMethodDescriptor yX1_busiest.desc).map (fun d => d.parameters.length) = some 0 := by decide +kernel
end
section
-- PART 02: numbers, branches and arithmetic on nI, the world of the class (x), reads, stores, calls
theorem zk_if0 {a : Nat} (h : a < 2 ^ 31) : nI a = 0 ↔ a = 0 := by
  have h1 := nI_eq (a := a) (b := 0) h (by decide)
  rw [nI_0] at h1
  exact h1
theorem zk_le0 {a : Nat} (h : a < 2 ^ 31) : nI a ≤ 0 ↔ a = 0 := by
  have h1 := nI_leI (a := a) (b := 0) h (by decide)
  rw [nI_0] at h1
  exact h1.trans ⟨fun q => by omega, fun q => by omega⟩
theorem zk_gt0 {a : Nat} (h : a < 2 ^ 31) : 0 < nI a ↔ 0 < a := by
  have h1 := nI_ltI (a := 0) (b := a) (by decide) h
  rw [nI_0] at h1
  exact h1
theorem zk_max {a b : Nat} (ha : a < 2 ^ 31) (hb : b < 2 ^ 31) : (if nI a < nI b then nI b else nI a) = nI (max a b) := by
  by_cases h : a < b
  · rw [if_pos ((nI_ltI ha hb).mpr h), Nat.max_eq_right (by omega)]
  · rw [if_neg (fun q => h ((nI_ltI ha hb).mp q)), Nat.max_eq_left (by omega)]
theorem zk_inc (a : Nat) : nI a + Int32.ofInt 1 = nI (a + 1) := nI_1 a
theorem zk_dec (a : Nat) : nI (a + 1) + Int32.ofInt (-1) = nI a := pk_m1 a
theorem zk_m1 (i : Nat) : nI i - nI 1 = nI i + (-1) := by
  rw [Int32.sub_eq_add_neg]; rfl
theorem zk_nar {v : Nat} (h : v ≤ 1) : narrow .boolean (.int (nI v)) = .int (nI v) := by
  rcases (show v = 0 ∨ v = 1 by omega) with rfl | rfl <;> rfl
theorem zk_vnar {v : Nat} (h : v ≤ 1) : vp_nar .boolean (nI v) = nI v := by
  rcases (show v = 0 ∨ v = 1 by omega) with rfl | rfl <;> rfl
theorem zi_eq (x y : Int32) : x = y ↔ x.toInt = y.toInt := Int32.toInt_inj.symm
theorem zi_lt (x y : Int32) : x < y ↔ x.toInt < y.toInt := Int32.lt_iff_toInt_lt
theorem zi_le (x y : Int32) : x ≤ y ↔ x.toInt ≤ y.toInt := Int32.le_iff_toInt_le
theorem zi_nI {x : Int32} {k : Nat} (h : x.toInt = (k : Int)) (hk : k < 2 ^ 31) : x = nI k := Int32.toInt_inj.mp (by rw [h, nI_toInt hk])
theorem zi_of {x : Int32} (h : 0 ≤ x.toInt) : ∃ k : Nat, k < 2 ^ 31 ∧ x = nI k ∧ x.toInt = (k : Int) := by
  have h1 := Int32.toInt_lt x
  refine ⟨x.toInt.toNat, by omega, zi_nI (by omega) (by omega), by omega⟩
section ZB
variable {p : Program} {l : Launch} {e : Env} {R : Room} {s : State} {m : MethodId} {args : Array Value} {below : List Frame} {meth : Method} {c : Code} {H : Heap} {locs : List Loc} {cells slots : Nat} {Q : State → Prop} {cc : ByteArray} {pc : Nat} {ls : Array Slot} {rest : List Value}
theorem zk_top {x y : Int32} (h : x = y) (k : W p l e R s m args below meth c H locs cells slots Q (F0 m pc ls (.int y :: rest))) : W p l e R s m args below meth c H locs cells slots Q (F0 m pc ls (.int x :: rest)) := by
  rw [h]; exact k
theorem zk_add (hx : p.tables.exec = Jvm.exec) (hb : c.code = cc) {a b : Nat} (hd : decode cc pc = .ok (.iadd, 1)) (k : W p l e R s m args below meth c H locs cells slots Q (F0 m (pc + 1) ls (.int (nI (a + b)) :: rest))) : W p l e R s m args below meth c H locs cells slots Q (F0 m pc ls (.int (nI b) :: .int (nI a) :: rest)) :=
  lv_iadd hx hb hd (zk_top (nI_add a b) k)
theorem zk_sub (hx : p.tables.exec = Jvm.exec) (hb : c.code = cc) {a b : Nat} (h : b ≤ a) (hd : decode cc pc = .ok (.isub, 1)) (k : W p l e R s m args below meth c H locs cells slots Q (F0 m (pc + 1) ls (.int (nI (a - b)) :: rest))) : W p l e R s m args below meth c H locs cells slots Q (F0 m pc ls (.int (nI b) :: .int (nI a) :: rest)) :=
  lv_isub hx hb hd (zk_top (pk_sub h) k)
theorem zk_ifeq (hx : p.tables.exec = Jvm.exec) (hb : c.code = cc) {a : Nat} {off : Int} {tgt : Nat} (hd : decode cc pc = .ok (.ifCond .eq off, 3)) (ht : (pc : Int) + off = (tgt : Int)) (ha : a < 2 ^ 31)
    (kt : a = 0 → W p l e R s m args below meth c H locs cells slots Q (F0 m tgt ls rest)) (kf : ¬ a = 0 → W p l e R s m args below meth c H locs cells slots Q (F0 m (pc + 3) ls rest)) : W p l e R s m args below meth c H locs cells slots Q (F0 m pc ls (.int (nI a) :: rest)) :=
  lv_if_eq hx hb hd ht (fun h => kt ((zk_if0 ha).mp h)) (fun h => kf (fun q => h ((zk_if0 ha).mpr q)))
theorem zk_ifne (hx : p.tables.exec = Jvm.exec) (hb : c.code = cc) {a : Nat} {off : Int} {tgt : Nat} (hd : decode cc pc = .ok (.ifCond .ne off, 3)) (ht : (pc : Int) + off = (tgt : Int)) (ha : a < 2 ^ 31)
    (kt : ¬ a = 0 → W p l e R s m args below meth c H locs cells slots Q (F0 m tgt ls rest)) (kf : a = 0 → W p l e R s m args below meth c H locs cells slots Q (F0 m (pc + 3) ls rest)) : W p l e R s m args below meth c H locs cells slots Q (F0 m pc ls (.int (nI a) :: rest)) :=
  lv_if_ne hx hb hd ht (fun h => kt (fun q => h ((zk_if0 ha).mpr q))) (fun h => kf ((zk_if0 ha).mp h))
theorem zk_ifle (hx : p.tables.exec = Jvm.exec) (hb : c.code = cc) {a : Nat} {off : Int} {tgt : Nat} (hd : decode cc pc = .ok (.ifCond .le off, 3)) (ht : (pc : Int) + off = (tgt : Int)) (ha : a < 2 ^ 31)
    (kt : a = 0 → W p l e R s m args below meth c H locs cells slots Q (F0 m tgt ls rest)) (kf : ¬ a = 0 → W p l e R s m args below meth c H locs cells slots Q (F0 m (pc + 3) ls rest)) : W p l e R s m args below meth c H locs cells slots Q (F0 m pc ls (.int (nI a) :: rest)) :=
  lv_if_le hx hb hd ht (fun h => kt ((zk_le0 ha).mp h)) (fun h => kf (fun q => h ((zk_le0 ha).mpr q)))
theorem zk_ifgt (hx : p.tables.exec = Jvm.exec) (hb : c.code = cc) {a : Nat} {off : Int} {tgt : Nat} (hd : decode cc pc = .ok (.ifCond .gt off, 3)) (ht : (pc : Int) + off = (tgt : Int)) (ha : a < 2 ^ 31)
    (kt : 0 < a → W p l e R s m args below meth c H locs cells slots Q (F0 m tgt ls rest)) (kf : ¬ 0 < a → W p l e R s m args below meth c H locs cells slots Q (F0 m (pc + 3) ls rest)) : W p l e R s m args below meth c H locs cells slots Q (F0 m pc ls (.int (nI a) :: rest)) :=
  lv_if_gt hx hb hd ht (fun h => kt ((zk_gt0 ha).mp h)) (fun h => kf (fun q => h ((zk_gt0 ha).mpr q)))
theorem zk_iflt (hx : p.tables.exec = Jvm.exec) (hb : c.code = cc) {a : Nat} {off : Int} {tgt : Nat} (hd : decode cc pc = .ok (.ifCond .lt off, 3)) (ht : (pc : Int) + off = (tgt : Int)) (ha : a < 2 ^ 31)
    (kf : W p l e R s m args below meth c H locs cells slots Q (F0 m (pc + 3) ls rest)) : W p l e R s m args below meth c H locs cells slots Q (F0 m pc ls (.int (nI a) :: rest)) :=
  lv_if_lt hx hb hd ht (fun h => absurd h (nI_pos ha)) (fun _ => kf)
theorem zk_ifge (hx : p.tables.exec = Jvm.exec) (hb : c.code = cc) {a : Nat} {off : Int} {tgt : Nat} (hd : decode cc pc = .ok (.ifCond .ge off, 3)) (ht : (pc : Int) + off = (tgt : Int)) (ha : a < 2 ^ 31)
    (kt : W p l e R s m args below meth c H locs cells slots Q (F0 m tgt ls rest)) : W p l e R s m args below meth c H locs cells slots Q (F0 m pc ls (.int (nI a) :: rest)) :=
  lv_if_ge hx hb hd ht (fun _ => kt) (fun h => absurd (nI_pos' ha) h)
theorem zk_ceq (hx : p.tables.exec = Jvm.exec) (hb : c.code = cc) {a b : Nat} {off : Int} {tgt : Nat} (hd : decode cc pc = .ok (.if_icmp .eq off, 3)) (ht : (pc : Int) + off = (tgt : Int)) (ha : a < 2 ^ 31) (hb' : b < 2 ^ 31)
    (kt : a = b → W p l e R s m args below meth c H locs cells slots Q (F0 m tgt ls rest)) (kf : ¬ a = b → W p l e R s m args below meth c H locs cells slots Q (F0 m (pc + 3) ls rest)) : W p l e R s m args below meth c H locs cells slots Q (F0 m pc ls (.int (nI b) :: .int (nI a) :: rest)) :=
  lv_icmp_eq hx hb hd ht (fun h => kt ((nI_eq ha hb').mp h)) (fun h => kf (fun q => h ((nI_eq ha hb').mpr q)))
theorem zk_cne (hx : p.tables.exec = Jvm.exec) (hb : c.code = cc) {a b : Nat} {off : Int} {tgt : Nat} (hd : decode cc pc = .ok (.if_icmp .ne off, 3)) (ht : (pc : Int) + off = (tgt : Int)) (ha : a < 2 ^ 31) (hb' : b < 2 ^ 31)
    (kt : ¬ a = b → W p l e R s m args below meth c H locs cells slots Q (F0 m tgt ls rest)) (kf : a = b → W p l e R s m args below meth c H locs cells slots Q (F0 m (pc + 3) ls rest)) : W p l e R s m args below meth c H locs cells slots Q (F0 m pc ls (.int (nI b) :: .int (nI a) :: rest)) :=
  lv_icmp_ne hx hb hd ht (fun h => kt (fun q => h ((nI_eq ha hb').mpr q))) (fun h => kf ((nI_eq ha hb').mp h))
theorem zk_clt (hx : p.tables.exec = Jvm.exec) (hb : c.code = cc) {a b : Nat} {off : Int} {tgt : Nat} (hd : decode cc pc = .ok (.if_icmp .lt off, 3)) (ht : (pc : Int) + off = (tgt : Int)) (ha : a < 2 ^ 31) (hb' : b < 2 ^ 31)
    (kt : a < b → W p l e R s m args below meth c H locs cells slots Q (F0 m tgt ls rest)) (kf : ¬ a < b → W p l e R s m args below meth c H locs cells slots Q (F0 m (pc + 3) ls rest)) : W p l e R s m args below meth c H locs cells slots Q (F0 m pc ls (.int (nI b) :: .int (nI a) :: rest)) :=
  lv_icmp_lt hx hb hd ht (fun h => kt ((nI_ltI ha hb').mp h)) (fun h => kf (fun q => h ((nI_ltI ha hb').mpr q)))
theorem zk_cge (hx : p.tables.exec = Jvm.exec) (hb : c.code = cc) {a b : Nat} {off : Int} {tgt : Nat} (hd : decode cc pc = .ok (.if_icmp .ge off, 3)) (ht : (pc : Int) + off = (tgt : Int)) (ha : a < 2 ^ 31) (hb' : b < 2 ^ 31)
    (kt : b ≤ a → W p l e R s m args below meth c H locs cells slots Q (F0 m tgt ls rest)) (kf : ¬ b ≤ a → W p l e R s m args below meth c H locs cells slots Q (F0 m (pc + 3) ls rest)) : W p l e R s m args below meth c H locs cells slots Q (F0 m pc ls (.int (nI b) :: .int (nI a) :: rest)) :=
  lv_icmp_ge hx hb hd ht (fun h => kt ((nI_leI hb' ha).mp h)) (fun h => kf (fun q => h ((nI_leI hb' ha).mpr q)))
theorem zk_cgt (hx : p.tables.exec = Jvm.exec) (hb : c.code = cc) {a b : Nat} {off : Int} {tgt : Nat} (hd : decode cc pc = .ok (.if_icmp .gt off, 3)) (ht : (pc : Int) + off = (tgt : Int)) (ha : a < 2 ^ 31) (hb' : b < 2 ^ 31)
    (kt : b < a → W p l e R s m args below meth c H locs cells slots Q (F0 m tgt ls rest)) (kf : ¬ b < a → W p l e R s m args below meth c H locs cells slots Q (F0 m (pc + 3) ls rest)) : W p l e R s m args below meth c H locs cells slots Q (F0 m pc ls (.int (nI b) :: .int (nI a) :: rest)) :=
  lv_icmp_gt hx hb hd ht (fun h => kt ((nI_ltI hb' ha).mp h)) (fun h => kf (fun q => h ((nI_ltI hb' ha).mpr q)))
theorem zk_cle (hx : p.tables.exec = Jvm.exec) (hb : c.code = cc) {a b : Nat} {off : Int} {tgt : Nat} (hd : decode cc pc = .ok (.if_icmp .le off, 3)) (ht : (pc : Int) + off = (tgt : Int)) (ha : a < 2 ^ 31) (hb' : b < 2 ^ 31)
    (kt : a ≤ b → W p l e R s m args below meth c H locs cells slots Q (F0 m tgt ls rest)) (kf : ¬ a ≤ b → W p l e R s m args below meth c H locs cells slots Q (F0 m (pc + 3) ls rest)) : W p l e R s m args below meth c H locs cells slots Q (F0 m pc ls (.int (nI b) :: .int (nI a) :: rest)) :=
  lv_icmp_le hx hb hd ht (fun h => kt ((nI_leI ha hb').mp h)) (fun h => kf (fun q => h ((nI_leI ha hb').mpr q)))
theorem zi_ifeq (hx : p.tables.exec = Jvm.exec) (hb : c.code = cc) {x : Int32} {off : Int} {tgt : Nat} (hd : decode cc pc = .ok (.ifCond .eq off, 3)) (ht : (pc : Int) + off = (tgt : Int))
    (kt : x.toInt = (0 : Int) → W p l e R s m args below meth c H locs cells slots Q (F0 m tgt ls rest)) (kf : ¬ x.toInt = (0 : Int) → W p l e R s m args below meth c H locs cells slots Q (F0 m (pc + 3) ls rest)) : W p l e R s m args below meth c H locs cells slots Q (F0 m pc ls (.int x :: rest)) :=
  lv_if_eq hx hb hd ht (fun h => kt (by have := ((zi_eq x 0).mp h); simpa using this)) (fun h => kf (by have := (fun q => h ((zi_eq x 0).mpr q)); simpa using this))
theorem zi_ceq (hx : p.tables.exec = Jvm.exec) (hb : c.code = cc) {x y : Int32} {off : Int} {tgt : Nat} (hd : decode cc pc = .ok (.if_icmp .eq off, 3)) (ht : (pc : Int) + off = (tgt : Int))
    (kt : x.toInt = y.toInt → W p l e R s m args below meth c H locs cells slots Q (F0 m tgt ls rest)) (kf : ¬ x.toInt = y.toInt → W p l e R s m args below meth c H locs cells slots Q (F0 m (pc + 3) ls rest)) : W p l e R s m args below meth c H locs cells slots Q (F0 m pc ls (.int y :: .int x :: rest)) :=
  lv_icmp_eq hx hb hd ht (fun h => kt ((zi_eq x y).mp h)) (fun h => kf (fun q => h ((zi_eq x y).mpr q)))
theorem zi_ifne (hx : p.tables.exec = Jvm.exec) (hb : c.code = cc) {x : Int32} {off : Int} {tgt : Nat} (hd : decode cc pc = .ok (.ifCond .ne off, 3)) (ht : (pc : Int) + off = (tgt : Int))
    (kt : ¬ x.toInt = (0 : Int) → W p l e R s m args below meth c H locs cells slots Q (F0 m tgt ls rest)) (kf : x.toInt = (0 : Int) → W p l e R s m args below meth c H locs cells slots Q (F0 m (pc + 3) ls rest)) : W p l e R s m args below meth c H locs cells slots Q (F0 m pc ls (.int x :: rest)) :=
  lv_if_ne hx hb hd ht (fun h => kt (by have := (fun q => h ((zi_eq x 0).mpr q)); simpa using this)) (fun h => kf (by have := ((zi_eq x 0).mp h); simpa using this))
theorem zi_cne (hx : p.tables.exec = Jvm.exec) (hb : c.code = cc) {x y : Int32} {off : Int} {tgt : Nat} (hd : decode cc pc = .ok (.if_icmp .ne off, 3)) (ht : (pc : Int) + off = (tgt : Int))
    (kt : ¬ x.toInt = y.toInt → W p l e R s m args below meth c H locs cells slots Q (F0 m tgt ls rest)) (kf : x.toInt = y.toInt → W p l e R s m args below meth c H locs cells slots Q (F0 m (pc + 3) ls rest)) : W p l e R s m args below meth c H locs cells slots Q (F0 m pc ls (.int y :: .int x :: rest)) :=
  lv_icmp_ne hx hb hd ht (fun h => kt (fun q => h ((zi_eq x y).mpr q))) (fun h => kf ((zi_eq x y).mp h))
theorem zi_iflt (hx : p.tables.exec = Jvm.exec) (hb : c.code = cc) {x : Int32} {off : Int} {tgt : Nat} (hd : decode cc pc = .ok (.ifCond .lt off, 3)) (ht : (pc : Int) + off = (tgt : Int))
    (kt : x.toInt < (0 : Int) → W p l e R s m args below meth c H locs cells slots Q (F0 m tgt ls rest)) (kf : ¬ x.toInt < (0 : Int) → W p l e R s m args below meth c H locs cells slots Q (F0 m (pc + 3) ls rest)) : W p l e R s m args below meth c H locs cells slots Q (F0 m pc ls (.int x :: rest)) :=
  lv_if_lt hx hb hd ht (fun h => kt (by have := ((zi_lt x 0).mp h); simpa using this)) (fun h => kf (by have := (fun q => h ((zi_lt x 0).mpr q)); simpa using this))
theorem zi_clt (hx : p.tables.exec = Jvm.exec) (hb : c.code = cc) {x y : Int32} {off : Int} {tgt : Nat} (hd : decode cc pc = .ok (.if_icmp .lt off, 3)) (ht : (pc : Int) + off = (tgt : Int))
    (kt : x.toInt < y.toInt → W p l e R s m args below meth c H locs cells slots Q (F0 m tgt ls rest)) (kf : ¬ x.toInt < y.toInt → W p l e R s m args below meth c H locs cells slots Q (F0 m (pc + 3) ls rest)) : W p l e R s m args below meth c H locs cells slots Q (F0 m pc ls (.int y :: .int x :: rest)) :=
  lv_icmp_lt hx hb hd ht (fun h => kt ((zi_lt x y).mp h)) (fun h => kf (fun q => h ((zi_lt x y).mpr q)))
theorem zi_ifge (hx : p.tables.exec = Jvm.exec) (hb : c.code = cc) {x : Int32} {off : Int} {tgt : Nat} (hd : decode cc pc = .ok (.ifCond .ge off, 3)) (ht : (pc : Int) + off = (tgt : Int))
    (kt : (0 : Int) ≤ x.toInt → W p l e R s m args below meth c H locs cells slots Q (F0 m tgt ls rest)) (kf : ¬ (0 : Int) ≤ x.toInt → W p l e R s m args below meth c H locs cells slots Q (F0 m (pc + 3) ls rest)) : W p l e R s m args below meth c H locs cells slots Q (F0 m pc ls (.int x :: rest)) :=
  lv_if_ge hx hb hd ht (fun h => kt (by have := ((zi_le 0 x).mp h); simpa using this)) (fun h => kf (by have := (fun q => h ((zi_le 0 x).mpr q)); simpa using this))
theorem zi_cge (hx : p.tables.exec = Jvm.exec) (hb : c.code = cc) {x y : Int32} {off : Int} {tgt : Nat} (hd : decode cc pc = .ok (.if_icmp .ge off, 3)) (ht : (pc : Int) + off = (tgt : Int))
    (kt : y.toInt ≤ x.toInt → W p l e R s m args below meth c H locs cells slots Q (F0 m tgt ls rest)) (kf : ¬ y.toInt ≤ x.toInt → W p l e R s m args below meth c H locs cells slots Q (F0 m (pc + 3) ls rest)) : W p l e R s m args below meth c H locs cells slots Q (F0 m pc ls (.int y :: .int x :: rest)) :=
  lv_icmp_ge hx hb hd ht (fun h => kt ((zi_le y x).mp h)) (fun h => kf (fun q => h ((zi_le y x).mpr q)))
theorem zi_ifgt (hx : p.tables.exec = Jvm.exec) (hb : c.code = cc) {x : Int32} {off : Int} {tgt : Nat} (hd : decode cc pc = .ok (.ifCond .gt off, 3)) (ht : (pc : Int) + off = (tgt : Int))
    (kt : (0 : Int) < x.toInt → W p l e R s m args below meth c H locs cells slots Q (F0 m tgt ls rest)) (kf : ¬ (0 : Int) < x.toInt → W p l e R s m args below meth c H locs cells slots Q (F0 m (pc + 3) ls rest)) : W p l e R s m args below meth c H locs cells slots Q (F0 m pc ls (.int x :: rest)) :=
  lv_if_gt hx hb hd ht (fun h => kt (by have := ((zi_lt 0 x).mp h); simpa using this)) (fun h => kf (by have := (fun q => h ((zi_lt 0 x).mpr q)); simpa using this))
theorem zi_cgt (hx : p.tables.exec = Jvm.exec) (hb : c.code = cc) {x y : Int32} {off : Int} {tgt : Nat} (hd : decode cc pc = .ok (.if_icmp .gt off, 3)) (ht : (pc : Int) + off = (tgt : Int))
    (kt : y.toInt < x.toInt → W p l e R s m args below meth c H locs cells slots Q (F0 m tgt ls rest)) (kf : ¬ y.toInt < x.toInt → W p l e R s m args below meth c H locs cells slots Q (F0 m (pc + 3) ls rest)) : W p l e R s m args below meth c H locs cells slots Q (F0 m pc ls (.int y :: .int x :: rest)) :=
  lv_icmp_gt hx hb hd ht (fun h => kt ((zi_lt y x).mp h)) (fun h => kf (fun q => h ((zi_lt y x).mpr q)))
theorem zi_ifle (hx : p.tables.exec = Jvm.exec) (hb : c.code = cc) {x : Int32} {off : Int} {tgt : Nat} (hd : decode cc pc = .ok (.ifCond .le off, 3)) (ht : (pc : Int) + off = (tgt : Int))
    (kt : x.toInt ≤ (0 : Int) → W p l e R s m args below meth c H locs cells slots Q (F0 m tgt ls rest)) (kf : ¬ x.toInt ≤ (0 : Int) → W p l e R s m args below meth c H locs cells slots Q (F0 m (pc + 3) ls rest)) : W p l e R s m args below meth c H locs cells slots Q (F0 m pc ls (.int x :: rest)) :=
  lv_if_le hx hb hd ht (fun h => kt (by have := ((zi_le x 0).mp h); simpa using this)) (fun h => kf (by have := (fun q => h ((zi_le x 0).mpr q)); simpa using this))
theorem zi_cle (hx : p.tables.exec = Jvm.exec) (hb : c.code = cc) {x y : Int32} {off : Int} {tgt : Nat} (hd : decode cc pc = .ok (.if_icmp .le off, 3)) (ht : (pc : Int) + off = (tgt : Int))
    (kt : x.toInt ≤ y.toInt → W p l e R s m args below meth c H locs cells slots Q (F0 m tgt ls rest)) (kf : ¬ x.toInt ≤ y.toInt → W p l e R s m args below meth c H locs cells slots Q (F0 m (pc + 3) ls rest)) : W p l e R s m args below meth c H locs cells slots Q (F0 m pc ls (.int y :: .int x :: rest)) :=
  lv_icmp_le hx hb hd ht (fun h => kt ((zi_le x y).mp h)) (fun h => kf (fun q => h ((zi_le x y).mpr q)))
/-- a join: the state at pc2 with an abstract number v (P v), locals lv v, stack st v, proved once -/
theorem zk_cut {nL : Nat} (pc2 : Nat) (P : Nat → Prop) (lv : Nat → List (Nat × Value)) (st : Nat → List Value) {g1 : JFrame}
    (h : ∀ (v : Nat) (ls : Array Slot), P v → lv_has ls nL (lv v) → W p l e R s m args below meth c H locs cells slots Q (F0 m pc2 ls (st v)))
    (k : (∀ (v : Nat) (ls : Array Slot), P v → lv_has ls nL (lv v) → W p l e R s m args below meth c H locs cells slots Q (F0 m pc2 ls (st v))) → W p l e R s m args below meth c H locs cells slots Q g1) : W p l e R s m args below meth c H locs cells slots Q g1 := k h
/-- a loop upwards over one heap, with an invariant -/
theorem zk_up {nL : Nat} {pcH : Nat} (k0 e0 : Nat) (P : Nat → Prop) (lv : Nat → List (Nat × Value))
    (hx : P e0 → ∀ ls, lv_has ls nL (lv e0) → W p l e R s m args below meth c H locs cells slots Q (F0 m pcH ls []))
    (hs : ∀ k, k0 ≤ k → k < e0 → (P (k + 1) → ∀ ls, lv_has ls nL (lv (k + 1)) → W p l e R s m args below meth c H locs cells slots Q (F0 m pcH ls [])) → P k → ∀ ls, lv_has ls nL (lv k) → W p l e R s m args below meth c H locs cells slots Q (F0 m pcH ls [])) :
    ∀ d k, k0 ≤ k → k + d = e0 → P k → ∀ ls, lv_has ls nL (lv k) → W p l e R s m args below meth c H locs cells slots Q (F0 m pcH ls []) := by
  intro d
  induction d with
  | zero =>
    intro k h0 hk hP ls hl
    obtain rfl : k = e0 := by omega
    exact hx hP ls hl
  | succ d ih =>
    intro k h0 hk hP ls hl
    exact hs k h0 (by omega) (ih (k + 1) (by omega) (by omega)) hP ls hl
/-- a loop downwards over one heap, with an invariant -/
theorem zk_down {nL : Nat} {pcH : Nat} (P : Nat → Prop) (lv : Nat → List (Nat × Value))
    (hx : P 0 → ∀ ls, lv_has ls nL (lv 0) → W p l e R s m args below meth c H locs cells slots Q (F0 m pcH ls []))
    (e0 : Nat)
    (hs : ∀ k, k < e0 → (P k → ∀ ls, lv_has ls nL (lv k) → W p l e R s m args below meth c H locs cells slots Q (F0 m pcH ls [])) → P (k + 1) → ∀ ls, lv_has ls nL (lv (k + 1)) → W p l e R s m args below meth c H locs cells slots Q (F0 m pcH ls [])) :
    ∀ k, k ≤ e0 → P k → ∀ ls, lv_has ls nL (lv k) → W p l e R s m args below meth c H locs cells slots Q (F0 m pcH ls []) := by
  intro k
  induction k with
  | zero => intro _ hP ls hl; exact hx hP ls hl
  | succ k ih => intro hk hP ls hl; exact hs k (by omega) (ih (by omega)) hP ls hl
/-- a loop upwards over a heap that changes -/
theorem zk_upH {nL : Nat} {pcH : Nat} (e0 : Nat) (I : Nat → Heap → List Loc → Prop) (lv : Nat → List (Nat × Value))
    (hx : ∀ H locs, I e0 H locs → ∀ ls, lv_has ls nL (lv e0) → W p l e R s m args below meth c H locs cells slots Q (F0 m pcH ls []))
    (hs : ∀ k, k < e0 → (∀ H locs, I (k + 1) H locs → ∀ ls, lv_has ls nL (lv (k + 1)) → W p l e R s m args below meth c H locs cells slots Q (F0 m pcH ls [])) → ∀ H locs, I k H locs → ∀ ls, lv_has ls nL (lv k) → W p l e R s m args below meth c H locs cells slots Q (F0 m pcH ls [])) :
    ∀ d k, k + d = e0 → ∀ H locs, I k H locs → ∀ ls, lv_has ls nL (lv k) → W p l e R s m args below meth c H locs cells slots Q (F0 m pcH ls []) := by
  intro d
  induction d with
  | zero =>
    intro k hk H locs hI ls hl
    obtain rfl : k = e0 := by omega
    exact hx H locs hI ls hl
  | succ d ih =>
    intro k hk H locs hI ls hl
    exact hs k (by omega) (ih (k + 1) (by omega)) H locs hI ls hl
end ZB
end
section
-- PART 03: the world of the class
abbrev ia_E : Type := (Nat → ClassId) × (Nat → Nat → Nat) × (Nat → Nat) × ClassId × ClassId
abbrev ia_D (E : ia_E) : va_G := (E.1, E.2.1)
abbrev ia_h (E : ia_E) (k : Nat) : Nat := E.2.2.1 k
abbrev ia_I (E : ia_E) : ClassId := E.2.2.2.1
abbrev ia_Z (E : ia_E) : ClassId := E.2.2.2.2
abbrev ia_fs (E : ia_E) (n : Nat) : List Value := [.int (nI n), .ref (ia_h E 1), .ref (ia_h E 2), .ref (ia_h E 3), .ref (ia_h E 4), .ref (ia_h E 5), .ref (ia_h E 6), .ref (ia_h E 7), .ref (ia_h E 8), .ref (ia_h E 9), .ref (ia_h E 10), .ref (ia_h E 11), .ref (ia_h E 12), .ref (ia_h E 13)]
abbrev ia_w (E : ia_E) (n : Nat) (g : Nat → Nat → Nat) : va_W := [(ia_h E 0, .inr (0, ia_fs E n)), (ia_h E 1, .inl (ia_I E, 400, .inl (fun j => nI (g 1 j)))), (ia_h E 2, .inl (ia_I E, 400, .inl (fun j => nI (g 2 j)))), (ia_h E 3, .inl (ia_I E, 400, .inl (fun j => nI (g 3 j)))), (ia_h E 4, .inl (ia_I E, 400, .inl (fun j => nI (g 4 j)))), (ia_h E 5, .inl (ia_I E, 400, .inl (fun j => nI (g 5 j)))), (ia_h E 6, .inl (ia_Z E, 400, .inl (fun j => nI (g 6 j)))), (ia_h E 7, .inl (ia_Z E, 400, .inl (fun j => nI (g 7 j)))), (ia_h E 8, .inl (ia_Z E, 400, .inl (fun j => nI (g 8 j)))), (ia_h E 9, .inl (ia_Z E, 400, .inl (fun j => nI (g 9 j)))), (ia_h E 10, .inl (ia_Z E, 400, .inl (fun j => nI (g 10 j)))), (ia_h E 11, .inl (ia_I E, 400, .inl (fun j => nI (g 11 j)))), (ia_h E 12, .inl (ia_I E, 400, .inl (fun j => nI (g 12 j)))), (ia_h E 13, .inl (ia_I E, 400, .inl (fun j => nI (g 13 j))))]
abbrev ia_ty (E : ia_E) : List (ClassId × FieldType) := [(ia_I E, .int), (ia_Z E, .boolean)]
def ia_O (E : ia_E) (n : Nat) (g : Nat → Nat → Nat) (U : State) (H : Heap) : Prop := va_K (ia_D E) vwCl (ia_ty E) U ∧ va_P (ia_D E) vwCl (ia_w E n g) H
abbrev ia_up (g : Nat → Nat → Nat) (k j v : Nat) : Nat → Nat → Nat := fun a => if a = k then (fun b => if b = j then v else g a b) else g a
theorem ia_upe (g : Nat → Nat → Nat) (k j v : Nat) : upd (fun b => nI (g k b)) j (nI v) = fun b => nI (ia_up g k j v k b) := by
  funext b
  unfold upd
  by_cases h : b = j <;> simp [ia_up, h]
theorem ia_set1 (E : ia_E) (n : Nat) (g : Nat → Nat → Nat) (j v : Nat) : (ia_w E n g).set 1 (ia_h E 1, .inl (ia_I E, 400, .inl (upd (fun b => nI (g 1 b)) j (nI v)))) = ia_w E n (ia_up g 1 j v) := by
  rw [ia_upe]; rfl
theorem ia_set2 (E : ia_E) (n : Nat) (g : Nat → Nat → Nat) (j v : Nat) : (ia_w E n g).set 2 (ia_h E 2, .inl (ia_I E, 400, .inl (upd (fun b => nI (g 2 b)) j (nI v)))) = ia_w E n (ia_up g 2 j v) := by
  rw [ia_upe]; rfl
theorem ia_set3 (E : ia_E) (n : Nat) (g : Nat → Nat → Nat) (j v : Nat) : (ia_w E n g).set 3 (ia_h E 3, .inl (ia_I E, 400, .inl (upd (fun b => nI (g 3 b)) j (nI v)))) = ia_w E n (ia_up g 3 j v) := by
  rw [ia_upe]; rfl
theorem ia_set4 (E : ia_E) (n : Nat) (g : Nat → Nat → Nat) (j v : Nat) : (ia_w E n g).set 4 (ia_h E 4, .inl (ia_I E, 400, .inl (upd (fun b => nI (g 4 b)) j (nI v)))) = ia_w E n (ia_up g 4 j v) := by
  rw [ia_upe]; rfl
theorem ia_set5 (E : ia_E) (n : Nat) (g : Nat → Nat → Nat) (j v : Nat) : (ia_w E n g).set 5 (ia_h E 5, .inl (ia_I E, 400, .inl (upd (fun b => nI (g 5 b)) j (nI v)))) = ia_w E n (ia_up g 5 j v) := by
  rw [ia_upe]; rfl
theorem ia_set6 (E : ia_E) (n : Nat) (g : Nat → Nat → Nat) (j v : Nat) : (ia_w E n g).set 6 (ia_h E 6, .inl (ia_Z E, 400, .inl (upd (fun b => nI (g 6 b)) j (nI v)))) = ia_w E n (ia_up g 6 j v) := by
  rw [ia_upe]; rfl
theorem ia_set7 (E : ia_E) (n : Nat) (g : Nat → Nat → Nat) (j v : Nat) : (ia_w E n g).set 7 (ia_h E 7, .inl (ia_Z E, 400, .inl (upd (fun b => nI (g 7 b)) j (nI v)))) = ia_w E n (ia_up g 7 j v) := by
  rw [ia_upe]; rfl
theorem ia_set8 (E : ia_E) (n : Nat) (g : Nat → Nat → Nat) (j v : Nat) : (ia_w E n g).set 8 (ia_h E 8, .inl (ia_Z E, 400, .inl (upd (fun b => nI (g 8 b)) j (nI v)))) = ia_w E n (ia_up g 8 j v) := by
  rw [ia_upe]; rfl
theorem ia_set9 (E : ia_E) (n : Nat) (g : Nat → Nat → Nat) (j v : Nat) : (ia_w E n g).set 9 (ia_h E 9, .inl (ia_Z E, 400, .inl (upd (fun b => nI (g 9 b)) j (nI v)))) = ia_w E n (ia_up g 9 j v) := by
  rw [ia_upe]; rfl
theorem ia_set10 (E : ia_E) (n : Nat) (g : Nat → Nat → Nat) (j v : Nat) : (ia_w E n g).set 10 (ia_h E 10, .inl (ia_Z E, 400, .inl (upd (fun b => nI (g 10 b)) j (nI v)))) = ia_w E n (ia_up g 10 j v) := by
  rw [ia_upe]; rfl
theorem ia_set11 (E : ia_E) (n : Nat) (g : Nat → Nat → Nat) (j v : Nat) : (ia_w E n g).set 11 (ia_h E 11, .inl (ia_I E, 400, .inl (upd (fun b => nI (g 11 b)) j (nI v)))) = ia_w E n (ia_up g 11 j v) := by
  rw [ia_upe]; rfl
theorem ia_set12 (E : ia_E) (n : Nat) (g : Nat → Nat → Nat) (j v : Nat) : (ia_w E n g).set 12 (ia_h E 12, .inl (ia_I E, 400, .inl (upd (fun b => nI (g 12 b)) j (nI v)))) = ia_w E n (ia_up g 12 j v) := by
  rw [ia_upe]; rfl
theorem ia_set13 (E : ia_E) (n : Nat) (g : Nat → Nat → Nat) (j v : Nat) : (ia_w E n g).set 13 (ia_h E 13, .inl (ia_I E, 400, .inl (upd (fun b => nI (g 13 b)) j (nI v)))) = ia_w E n (ia_up g 13 j v) := by
  rw [ia_upe]; rfl
section ZX
variable {p : Program} {l : Launch} {e : Env} {R : Room} {s : State} {m : MethodId} {args : Array Value} {below : List Frame} {meth : Method} {c : Code} {H : Heap} {locs : List Loc} {cells slots : Nat} {Q : State → Prop} {cc : ByteArray} {pc : Nat} {ls : Array Slot} {rest : List Value}
variable {E : ia_E} {n : Nat} {g : Nat → Nat → Nat} {A : Nat → Prop} {H0 : Heap}
theorem ia_get (k : Nat) {v : Value} {idx : Nat} (hx : p.tables.exec = Jvm.exec) (hb : c.code = cc) (ht : ∀ w ∈ tb, w.before args s = true) (hown : s.vm.findClass RX0 = some m.cls) (hO : ia_O E n g s H) (hk : k < 14) (hv : (ia_fs E n)[k]? = some v) (hl : Cond.fieldLink RX0 idx RX0 (TX0 k).2.1 (TX0 k).2.2.1 ∈ tb) (hs : (TX0 k).1 = RX0) (hd : decode cc pc = .ok (.getfield idx, 3))
    (kk : W p l e R s m args below meth c H locs cells slots Q (F0 m (pc + 3) ls (v :: rest))) : W p l e R s m args below meth c H locs cells slots Q (F0 m pc ls (.ref (ia_h E 0) :: rest)) :=
  va_get (D := ia_D E) (ci := 0) (v := v) (C := RX0) (T := TX0) (N := 14) hx hb ht inX0 hown hO.1 hO.2 0 rfl rfl k hk (ht _ hl) (fun _ h9 => by rw [hs] at h9; exact h9) hv hd kk
theorem ia_ild (k j : Nat) (hx : p.tables.exec = Jvm.exec) (hb : c.code = cc) (hO : ia_O E n g s H) (ha : (ia_w E n g)[k]? = some (ia_h E k, .inl (ia_I E, 400, .inl (fun j => nI (g k j))))) (hj : j < 400) (hd : decode cc pc = .ok (.iaload, 1))
    (kk : W p l e R s m args below meth c H locs cells slots Q (F0 m (pc + 1) ls (.int (nI (g k j)) :: rest))) : W p l e R s m args below meth c H locs cells slots Q (F0 m pc ls (.int (nI j) :: .ref (ia_h E k) :: rest)) :=
  va_iald hx hb hO.1 hO.2 k 0 ha rfl (vp_in_nI hj (by decide)) hd (by rw [nI_clamp (by omega)]; exact kk)
theorem ia_zld (k j : Nat) (hx : p.tables.exec = Jvm.exec) (hb : c.code = cc) (hO : ia_O E n g s H) (ha : (ia_w E n g)[k]? = some (ia_h E k, .inl (ia_Z E, 400, .inl (fun j => nI (g k j))))) (hj : j < 400) (hd : decode cc pc = .ok (.baload, 1))
    (kk : W p l e R s m args below meth c H locs cells slots Q (F0 m (pc + 1) ls (.int (nI (g k j)) :: rest))) : W p l e R s m args below meth c H locs cells slots Q (F0 m pc ls (.int (nI j) :: .ref (ia_h E k) :: rest)) :=
  va_zald hx hb hO.1 hO.2 k 1 ha rfl (vp_in_nI hj (by decide)) hd (by rw [nI_clamp (by omega)]; exact kk)
theorem ia_ist (k j v : Nat) (hx : p.tables.exec = Jvm.exec) (hb : c.code = cc) (hO : ia_O E n g s H) (hD : va_D A (ia_w E n g)) (hS : va_S A H0 H locs) (ha : (ia_w E n g)[k]? = some (ia_h E k, .inl (ia_I E, 400, .inl (fun j => nI (g k j))))) (hset : (ia_w E n g).set k (ia_h E k, .inl (ia_I E, 400, .inl (upd (fun b => nI (g k b)) j (nI v)))) = ia_w E n (ia_up g k j v)) (hj : j < 400) (hd : decode cc pc = .ok (.iastore, 1))
    (kk : ∀ (H1 : Heap) (locs1 : List Loc), ia_O E n (ia_up g k j v) s H1 → va_D A (ia_w E n (ia_up g k j v)) → va_S A H0 H1 locs1 → W p l e R s m args below meth c H1 locs1 cells slots Q (F0 m (pc + 1) ls rest)) : W p l e R s m args below meth c H locs cells slots Q (F0 m pc ls (.int (nI v) :: .int (nI j) :: .ref (ia_h E k) :: rest)) :=
  va_iast hx hb hO.1 hO.2 hD hS k 0 ha rfl (vp_in_nI hj (by decide)) hd (fun H1 locs1 h1 h2 h3 => by
    rw [nI_clamp (by omega), hset] at h1 h2
    exact kk H1 locs1 ⟨hO.1, h1⟩ h2 h3)
theorem ia_zst (k j v : Nat) (hx : p.tables.exec = Jvm.exec) (hb : c.code = cc) (hO : ia_O E n g s H) (hD : va_D A (ia_w E n g)) (hS : va_S A H0 H locs) (ha : (ia_w E n g)[k]? = some (ia_h E k, .inl (ia_Z E, 400, .inl (fun j => nI (g k j))))) (hset : (ia_w E n g).set k (ia_h E k, .inl (ia_Z E, 400, .inl (upd (fun b => nI (g k b)) j (nI v)))) = ia_w E n (ia_up g k j v)) (hj : j < 400) (hv : v ≤ 1) (hd : decode cc pc = .ok (.bastore, 1))
    (kk : ∀ (H1 : Heap) (locs1 : List Loc), ia_O E n (ia_up g k j v) s H1 → va_D A (ia_w E n (ia_up g k j v)) → va_S A H0 H1 locs1 → W p l e R s m args below meth c H1 locs1 cells slots Q (F0 m (pc + 1) ls rest)) : W p l e R s m args below meth c H locs cells slots Q (F0 m pc ls (.int (nI v) :: .int (nI j) :: .ref (ia_h E k) :: rest)) :=
  va_zast hx hb hO.1 hO.2 hD hS k 1 ha rfl (vp_in_nI hj (by decide)) hd (fun H1 locs1 h1 h2 h3 => by
    rw [nI_clamp (by omega), zk_vnar hv, hset] at h1 h2
    exact kk H1 locs1 ⟨hO.1, h1⟩ h2 h3)
theorem ia_putn (n' : Nat) {idx : Nat} (hx : p.tables.exec = Jvm.exec) (hb : c.code = cc) (ht : ∀ w ∈ tb, w.before args s = true) (hown : s.vm.findClass RX0 = some m.cls) (hO : ia_O E n g s H) (hD : va_D A (ia_w E n g)) (hS : va_S A H0 H locs) (hl : Cond.fieldLink RX0 idx RX0 (TX0 0).2.1 (TX0 0).2.2.1 ∈ tb) (hd : decode cc pc = .ok (.putfield idx, 3))
    (kk : ∀ (H1 : Heap) (locs1 : List Loc), ia_O E n' g s H1 → va_D A (ia_w E n' g) → va_S A H0 H1 locs1 → W p l e R s m args below meth c H1 locs1 cells slots Q (F0 m (pc + 3) ls rest)) : W p l e R s m args below meth c H locs cells slots Q (F0 m pc ls (.int (nI n') :: .ref (ia_h E 0) :: rest)) :=
  va_put (D := ia_D E) (ci := 0) (v := .int (nI n')) (ty := .int) (C := RX0) (T := TX0) (N := 14) hx hb ht inX0 tyX0 tyX0_ok nmX0 hown hO.1 hO.2 hD hS 0 rfl rfl 0 (by decide) (ht _ hl) (fun _ h9 => h9) rfl (by decide +kernel) rfl rfl (Nat.le_of_ble_eq_true rfl) hd (fun H1 locs1 h1 h2 h3 => kk H1 locs1 ⟨hO.1, h1⟩ h2 h3)
theorem ia_max {a b nL : Nat} {idx : Nat} (hx : p.tables.exec = Jvm.exec) (hb : c.code = cc) (hml : c.maxLocals = nL) (hls : ls.size = nL) (ht : ∀ w ∈ tb, w.before args s = true) (hown : s.vm.findClass RX0 = some m.cls) (ha : a < 2 ^ 31) (hb' : b < 2 ^ 31) (hl : Cond.methodLink RX0 idx Lib.Math.max.name ∈ tb) (hf : 1 ≤ R.frames) (hR : (rest.map fun v => v.category).sum + 13 ≤ R.locals) (hc : cells ≤ R.cells ∧ slots ≤ R.slots) (hd : decode cc pc = .ok (.invokestatic idx, 3))
    (kk : W p l e R s m args below meth c H locs cells slots Q (F0 m (pc + 3) ls (.int (nI (max a b)) :: rest))) : W p l e R s m args below meth c H locs cells slots Q (F0 m pc ls (.int (nI b) :: .int (nI a) :: rest)) :=
  va_mmax hx hb (hml.trans hls.symm) hown (ht _ hl) (ht _ ia_max1) (ht _ ia_max2) (ht _ ia_max3) hf hR hc.1 hc.2 hd (zk_top (zk_max ha hb') kk)
end ZX
abbrev ia_rm (d : Nat) : Room := { frames := d, cells := 0, slots := 0, locals := 40 * d }
abbrev ia_ws (y : MethodName) (b : ByteArray) (mL : Nat) (r : Option FieldType) : List Cond := Cond.code y b mL r :: tb
/-- a reading method of the class: it answers v, and no cell changes -/
abbrev ia_R (l : Launch) (y : MethodName) (b : ByteArray) (mL : Nat) (ty : FieldType) (d : Nat) (E : ia_E) (n : Nat) (g : Nat → Nat → Nat) (As : List Value) (v : Int32) : Prop := Met l y (ia_ws y b mL (some ty)) (ia_rm d) (va_Pc (.ref (ia_h E 0) :: As) (fun U => ia_O E n g U U.heap)) (vp_Si (fun r => r = v)) 0 0 (fun _ => False)
/-- a static method that reads nothing -/
abbrev ia_T (l : Launch) (y : MethodName) (b : ByteArray) (mL : Nat) (ty : FieldType) (d : Nat) (As : List Value) (v : Int32) : Prop := Met l y (ia_ws y b mL (some ty)) (ia_rm d) (va_Pc As (fun _ => True)) (vp_Si (fun r => r = v)) 0 0 (fun _ => False)
/-- a changing method of the class: it answers nothing (ret none) / r; the row becomes (n2, g2) -/
abbrev ia_at (E : ia_E) (A : Nat → Prop) (u : Nat × (Nat → Nat → Nat)) (t : State) : Prop := ia_O E u.1 u.2 t t.heap ∧ va_D A (ia_w E u.1 u.2)
abbrev ia_P0 (E : ia_E) (n : Nat) (g : Nat → Nat → Nat) (sz : Nat) : State → Prop := fun U => U.heap.size = sz ∧ ia_O E n g U U.heap ∧ va_D (fun _ => True) (ia_w E n g)
abbrev ia_V (l : Launch) (y : MethodName) (b : ByteArray) (mL : Nat) (d : Nat) (E : ia_E) (n : Nat) (g : Nat → Nat → Nat) (sz : Nat) (As : List Value) (n2 : Nat) (g2 : Nat → Nat → Nat) : Prop := Met l y (ia_ws y b mL none) (ia_rm d) (va_Pc (.ref (ia_h E 0) :: As) (ia_P0 E n g sz)) (va_Qv (fun u : Nat × (Nat → Nat → Nat) => u = (n2, g2)) (ia_at E (va_A (ia_w E n g) sz)) (va_A (ia_w E n g) sz)) 0 0 (va_A (ia_w E n g) sz)
abbrev ia_M (l : Launch) (y : MethodName) (b : ByteArray) (mL : Nat) (ty : FieldType) (d : Nat) (E : ia_E) (n : Nat) (g : Nat → Nat → Nat) (sz : Nat) (As : List Value) (v : Int32) (n2 : Nat) (g2 : Nat → Nat → Nat) : Prop := Met l y (ia_ws y b mL (some ty)) (ia_rm d) (va_Pc (.ref (ia_h E 0) :: As) (ia_P0 E n g sz)) (va_Qi (fun (r : Int32) (u : Nat × (Nat → Nat → Nat)) => r = v ∧ u = (n2, g2)) (ia_at E (va_A (ia_w E n g) sz)) (va_A (ia_w E n g) sz)) 0 0 (va_A (ia_w E n g) sz)
theorem ia_gV {own C : String} {idx : Nat} {y : MethodName} {b : ByteArray} {mL : Nat} {r : Option FieldType} (h1 : Cond.methodLink own idx y ∈ tb) (h2 : Cond.instanceMethod y ∈ tb) (h3 : Cond.selects C y y ∈ tb) (h4 : Cond.initialized C ∈ tb) (h5 : Cond.code y b mL r ∈ tb) : GoodIn tb (wsV own idx C y (ia_ws y b mL r)) := by
  intro w hw
  refine tb_good w ?_
  simp only [wsV, ia_ws, List.cons_append, List.nil_append, List.mem_cons] at hw
  rcases hw with rfl | rfl | rfl | rfl | rfl | hw
  · exact h1
  · exact h2
  · exact h3
  · exact h4
  · exact h5
  · exact hw
theorem ia_gS {own : String} {idx : Nat} {y : MethodName} {b : ByteArray} {mL : Nat} {r : Option FieldType} (h1 : Cond.methodLink own idx y ∈ tb) (h2 : Cond.static y ∈ tb) (h4 : Cond.initialized own ∈ tb) (h5 : Cond.code y b mL r ∈ tb) : GoodIn tb (wsS own idx y (ia_ws y b mL r)) := by
  intro w hw
  refine tb_good w ?_
  simp only [wsS, ia_ws, List.cons_append, List.nil_append, List.mem_cons] at hw
  rcases hw with rfl | rfl | rfl | rfl | hw
  · exact h1
  · exact h2
  · exact h4
  · exact h5
  · exact hw
/-- the beginning of a reading method -/
theorem ia_Rof {l : Launch} {y : MethodName} {b : ByteArray} {mL : Nat} {ty : FieldType} {d : Nat} {E : ia_E} {n : Nat} {g : Nat → Nat → Nat} {As : List Value} {v : Int32} (hy : plainName y.cls = true) (hc : y.cls = RX0) (hle : (lg_sl (.ref (ia_h E 0) :: As)).length ≤ mL)
    (k : ∀ (p : Program) (e : Env) (s : State) (m : MethodId) (args : Array Value) (below : List Frame) (meth : Method) (c : Code) (ls : Array Slot), p.tables.exec = Jvm.exec → c.code = b → meth.sig.returnType = some ty → c.maxLocals = mL → s.vm.findClass RX0 = some m.cls → (∀ w ∈ tb, w.before args s = true) → meth.locks = false → ia_O E n g s s.heap → lv_has ls mL (lv_args 0 (.ref (ia_h E 0) :: As)) →
      W p l e (ia_rm d) s m args below meth c s.heap [] 0 0 (MQ below (vp_Si (fun r => r = v)) args s 0 0 (fun _ => False)) (F0 m 0 ls [])) : ia_R l y b mL ty d E n g As v := by
  refine Met.ofW (cc := b) (maxL := mL) (ret := some ty) hy rfl ?_
  intro p e s m args below meth c s₁ B hml hv
  obtain ⟨rfl, hO⟩ := hv
  have hts := atoms_spec (ws := ia_ws y b mL (some ty)) B.pre
  have hown : s.vm.findClass RX0 = some m.cls := hc ▸ findClass_of_methodNamed B.named
  have hl := lv_entry (.ref (ia_h E 0) :: As) (n := mL) hle
  rw [lg_entry_eq]
  exact k p e s m _ below meth c _ B.exec B.bytes B.returns hml hown (fun w h => hts w (List.mem_cons_of_mem _ h)) B.notSynchronized hO hl
/-- the beginning of a static method that reads nothing -/
theorem ia_Tof {l : Launch} {y : MethodName} {b : ByteArray} {mL : Nat} {ty : FieldType} {d : Nat} {As : List Value} {v : Int32} (hy : plainName y.cls = true) (hle : (lg_sl As).length ≤ mL)
    (k : ∀ (p : Program) (e : Env) (s : State) (m : MethodId) (args : Array Value) (below : List Frame) (meth : Method) (c : Code) (ls : Array Slot), p.tables.exec = Jvm.exec → c.code = b → meth.sig.returnType = some ty → meth.locks = false → lv_has ls mL (lv_args 0 As) →
      W p l e (ia_rm d) s m args below meth c s.heap [] 0 0 (MQ below (vp_Si (fun r => r = v)) args s 0 0 (fun _ => False)) (F0 m 0 ls [])) : ia_T l y b mL ty d As v := by
  refine Met.ofW (cc := b) (maxL := mL) (ret := some ty) hy rfl ?_
  intro p e s m args below meth c s₁ B hml hv
  obtain ⟨rfl, -⟩ := hv
  have hl := lv_entry As (n := mL) hle
  rw [lg_entry_eq]
  exact k p e s m _ below meth c _ B.exec B.bytes B.returns B.notSynchronized hl
/-- the beginning of a changing method that answers nothing -/
theorem ia_Vof {l : Launch} {y : MethodName} {b : ByteArray} {mL : Nat} {d : Nat} {E : ia_E} {n : Nat} {g : Nat → Nat → Nat} {sz : Nat} {As : List Value} {n2 : Nat} {g2 : Nat → Nat → Nat} (hy : plainName y.cls = true) (hc : y.cls = RX0) (hle : (lg_sl (.ref (ia_h E 0) :: As)).length ≤ mL)
    (k : ∀ (p : Program) (e : Env) (s : State) (m : MethodId) (args : Array Value) (below : List Frame) (meth : Method) (c : Code) (ls : Array Slot) (A : Nat → Prop), p.tables.exec = Jvm.exec → c.code = b → meth.sig.returnType = none → c.maxLocals = mL → s.vm.findClass RX0 = some m.cls → (∀ w ∈ tb, w.before args s = true) → meth.locks = false → (∀ q : Nat, s.heap.size ≤ q → A q) → ia_O E n g s s.heap → va_D A (ia_w E n g) → va_S A s.heap s.heap [] → lv_has ls mL (lv_args 0 (.ref (ia_h E 0) :: As)) →
      W p l e (ia_rm d) s m args below meth c s.heap [] 0 0 (MQ below (va_Qv (fun u : Nat × (Nat → Nat → Nat) => u = (n2, g2)) (ia_at E A) A) args s 0 0 A) (F0 m 0 ls [])) : ia_V l y b mL d E n g sz As n2 g2 := by
  refine Met.ofW (cc := b) (maxL := mL) (ret := none) hy rfl ?_
  intro p e s m args below meth c s₁ B hml hv
  obtain ⟨rfl, hsz, hO, hD0⟩ := hv
  have hts := atoms_spec (ws := ia_ws y b mL none) B.pre
  have hown : s.vm.findClass RX0 = some m.cls := hc ▸ findClass_of_methodNamed B.named
  subst hsz
  have hD := hD0.self (sz := s.heap.size)
  have hl := lv_entry (.ref (ia_h E 0) :: As) (n := mL) hle
  rw [lg_entry_eq]
  exact k p e s m _ below meth c _ _ B.exec B.bytes B.returns hml hown (fun w h => hts w (List.mem_cons_of_mem _ h)) B.notSynchronized (fun q h => Or.inr h) hO hD va_S.rf hl
/-- the beginning of a changing method that answers an int -/
theorem ia_Mof {l : Launch} {y : MethodName} {b : ByteArray} {mL : Nat} {ty : FieldType} {d : Nat} {E : ia_E} {n : Nat} {g : Nat → Nat → Nat} {sz : Nat} {As : List Value} {v : Int32} {n2 : Nat} {g2 : Nat → Nat → Nat} (hy : plainName y.cls = true) (hc : y.cls = RX0) (hle : (lg_sl (.ref (ia_h E 0) :: As)).length ≤ mL)
    (k : ∀ (p : Program) (e : Env) (s : State) (m : MethodId) (args : Array Value) (below : List Frame) (meth : Method) (c : Code) (ls : Array Slot) (A : Nat → Prop), p.tables.exec = Jvm.exec → c.code = b → meth.sig.returnType = some ty → c.maxLocals = mL → s.vm.findClass RX0 = some m.cls → (∀ w ∈ tb, w.before args s = true) → meth.locks = false → (∀ q : Nat, s.heap.size ≤ q → A q) → ia_O E n g s s.heap → va_D A (ia_w E n g) → va_S A s.heap s.heap [] → lv_has ls mL (lv_args 0 (.ref (ia_h E 0) :: As)) →
      W p l e (ia_rm d) s m args below meth c s.heap [] 0 0 (MQ below (va_Qi (fun (r : Int32) (u : Nat × (Nat → Nat → Nat)) => r = v ∧ u = (n2, g2)) (ia_at E A) A) args s 0 0 A) (F0 m 0 ls [])) : ia_M l y b mL ty d E n g sz As v n2 g2 := by
  refine Met.ofW (cc := b) (maxL := mL) (ret := some ty) hy rfl ?_
  intro p e s m args below meth c s₁ B hml hv
  obtain ⟨rfl, hsz, hO, hD0⟩ := hv
  have hts := atoms_spec (ws := ia_ws y b mL (some ty)) B.pre
  have hown : s.vm.findClass RX0 = some m.cls := hc ▸ findClass_of_methodNamed B.named
  subst hsz
  have hD := hD0.self (sz := s.heap.size)
  have hl := lv_entry (.ref (ia_h E 0) :: As) (n := mL) hle
  rw [lg_entry_eq]
  exact k p e s m _ below meth c _ _ B.exec B.bytes B.returns hml hown (fun w h => hts w (List.mem_cons_of_mem _ h)) B.notSynchronized (fun q h => Or.inr h) hO hD va_S.rf hl
section ZY
variable {p : Program} {l : Launch} {e : Env} {R : Room} {s : State} {m : MethodId} {args : Array Value} {below : List Frame} {meth : Method} {c : Code} {H : Heap} {locs : List Loc} {cells slots : Nat} {Q : State → Prop} {cc : ByteArray} {pc : Nat} {ls : Array Slot} {rest : List Value}
variable {E : ia_E} {n : Nat} {g : Nat → Nat → Nat} {A : Nat → Prop} {H0 : Heap}
theorem ia_iret {a v : Int32} (hx : p.tables.exec = Jvm.exec) (hb : c.code = cc) (hr : meth.sig.returnType = some .int) (hlk : meth.locks = false) (h : a = v) (hd : decode cc pc = .ok (.ireturn, 1)) : W p l e R s m args below meth c s.heap [] 0 0 (MQ below (vp_Si (fun r => r = v)) args s 0 0 (fun _ => False)) (F0 m pc ls [.int a]) :=
  W.iret (v := a) hx hb hr (fun t ht _ => ⟨_, rfl, h, ht⟩) (fun q h => by cases h) hd
theorem ia_zret {a : Nat} {v : Int32} (hx : p.tables.exec = Jvm.exec) (hb : c.code = cc) (hr : meth.sig.returnType = some .boolean) (hlk : meth.locks = false) (h1 : a ≤ 1) (h : nI a = v) (hd : decode cc pc = .ok (.ireturn, 1)) : W p l e R s m args below meth c s.heap [] 0 0 (MQ below (vp_Si (fun r => r = v)) args s 0 0 (fun _ => False)) (F0 m pc ls [.int (nI a)]) :=
  W.zret (v := nI a) hx hb hr (zk_nar h1) (fun t ht _ => ⟨_, rfl, h, ht⟩) (fun q h => by cases h) hd
theorem ia_vret {n2 : Nat} {g2 : Nat → Nat → Nat} (hx : p.tables.exec = Jvm.exec) (hb : c.code = cc) (hr : meth.sig.returnType = none) (hlk : meth.locks = false) (hO : ia_O E n g s H) (hD : va_D A (ia_w E n g)) (hS : va_S A s.heap H locs) (h : (n, g) = (n2, g2)) (hd : decode cc pc = .ok (.return_, 1)) : W p l e R s m args below meth c H locs 0 0 (MQ below (va_Qv (fun u : Nat × (Nat → Nat → Nat) => u = (n2, g2)) (ia_at E A) A) args s 0 0 A) (F0 m pc ls []) :=
  W.vret hx hb hr (fun t ht hW => ⟨⟨(n, g), rfl, h, ⟨va_K.moved hW.alike hO.1, by rw [ht]; exact hO.2⟩, hD⟩, hS.F ht⟩) hS.2.2 hd
theorem ia_miret {a v : Int32} {n2 : Nat} {g2 : Nat → Nat → Nat} (hx : p.tables.exec = Jvm.exec) (hb : c.code = cc) (hr : meth.sig.returnType = some .int) (hlk : meth.locks = false) (hO : ia_O E n g s H) (hD : va_D A (ia_w E n g)) (hS : va_S A s.heap H locs) (h1 : a = v) (h : (n, g) = (n2, g2)) (hd : decode cc pc = .ok (.ireturn, 1)) : W p l e R s m args below meth c H locs 0 0 (MQ below (va_Qi (fun (r : Int32) (u : Nat × (Nat → Nat → Nat)) => r = v ∧ u = (n2, g2)) (ia_at E A) A) args s 0 0 A) (F0 m pc ls [.int a]) :=
  W.iret (v := a) hx hb hr (fun t ht hW => ⟨⟨a, (n, g), rfl, ⟨h1, h⟩, ⟨va_K.moved hW.alike hO.1, by rw [ht]; exact hO.2⟩, hD⟩, hS.F ht⟩) hS.2.2 hd
theorem ia_mzret {a : Nat} {v : Int32} {n2 : Nat} {g2 : Nat → Nat → Nat} (hx : p.tables.exec = Jvm.exec) (hb : c.code = cc) (hr : meth.sig.returnType = some .boolean) (hlk : meth.locks = false) (hO : ia_O E n g s H) (hD : va_D A (ia_w E n g)) (hS : va_S A s.heap H locs) (ha : a ≤ 1) (h1 : nI a = v) (h : (n, g) = (n2, g2)) (hd : decode cc pc = .ok (.ireturn, 1)) : W p l e R s m args below meth c H locs 0 0 (MQ below (va_Qi (fun (r : Int32) (u : Nat × (Nat → Nat → Nat)) => r = v ∧ u = (n2, g2)) (ia_at E A) A) args s 0 0 A) (F0 m pc ls [.int (nI a)]) :=
  W.zret (v := nI a) hx hb hr (zk_nar ha) (fun t ht hW => ⟨⟨nI a, (n, g), rfl, ⟨h1, h⟩, ⟨va_K.moved hW.alike hO.1, by rw [ht]; exact hO.2⟩, hD⟩, hS.F ht⟩) hS.2.2 hd
theorem ia_call {own : String} {y : MethodName} {b : ByteArray} {mL nL nA idx d : Nat} {ty : FieldType} {As st0 : List Value} {v : Int32} (hx : p.tables.exec = Jvm.exec) (hb : c.code = cc) (hml : c.maxLocals = nL) (hls : ls.size = nL) (hown : s.vm.findClass own = some m.cls) (ht : ∀ w ∈ tb, w.before args s = true) (hO : ia_O E n g s H) (hM : ia_R l y b mL ty d E n g As v) (hG : GoodIn tb (wsV own idx RX0 y (ia_ws y b mL (some ty)))) (hy : y.cls = RX0 ∧ y.cls ≠ "java/lang/invoke/MethodHandle" ∧ y.cls ≠ "java/lang/invoke/VarHandle" ∧ (parseMethodDescriptor y.desc).map (fun d => d.parameters.length) = some nA) (hn : As.length = nA) (hR : d + 1 ≤ R.frames ∧ 8 + (mL + 11) + 40 * d ≤ R.locals) (hc : cells ≤ R.cells ∧ slots ≤ R.slots) (hW : (rest.map fun v => v.category).sum ≤ 8) (hst : st0 = As.reverse ++ .ref (ia_h E 0) :: rest) (hd : decode cc pc = .ok (.invokevirtual idx, 3))
    (kk : W p l e R s m args below meth c H locs cells slots Q (F0 m (pc + 3) ls (.int v :: rest))) : W p l e R s m args below meth c H locs cells slots Q (F0 m pc ls st0) := by
  refine vp_callSi (W.runV (As := As) (rest := rest) ⟨hx, hb, hml, hown, ht⟩ hM (cwV nA ht hG rfl rfl rfl hy hR) ⟨fun a U g mk q => ⟨q.1, va_K.moved (u := U) (U := U.calling g mk a) (Vm.Alike.refl U.vm) q.2.1, q.2.2⟩, va_recv hO.1 hO.2 (ci := 0) (q0 := 0) rfl rfl, fun U hU hW => ⟨rfl, va_K.moved hW.alike hO.1, by rw [hU]; exact hO.2⟩⟩ rfl hn hls hst (lv_room hW) hd hc) (fun r h => ?_)
  rw [h]; exact kk
theorem ia_callS {y : MethodName} {b : ByteArray} {mL nL nA idx d : Nat} {ty : FieldType} {As st0 : List Value} {v : Int32} (hx : p.tables.exec = Jvm.exec) (hb : c.code = cc) (hml : c.maxLocals = nL) (hls : ls.size = nL) (hown : s.vm.findClass RX0 = some m.cls) (ht : ∀ w ∈ tb, w.before args s = true) (hM : ia_T l y b mL ty d As v) (hG : GoodIn tb (wsS RX0 idx y (ia_ws y b mL (some ty)))) (hy : y.cls = RX0 ∧ y.cls ≠ "java/lang/invoke/MethodHandle" ∧ y.cls ≠ "java/lang/invoke/VarHandle" ∧ (parseMethodDescriptor y.desc).map (fun d => d.parameters.length) = some nA) (hn : As.length = nA) (hR : d + 1 ≤ R.frames ∧ 8 + (mL + 11) + 40 * d ≤ R.locals) (hc : cells ≤ R.cells ∧ slots ≤ R.slots) (hW : (rest.map fun v => v.category).sum ≤ 8) (hst : st0 = As.reverse ++ rest) (hd : decode cc pc = .ok (.invokestatic idx, 3))
    (kk : W p l e R s m args below meth c H locs cells slots Q (F0 m (pc + 3) ls (.int v :: rest))) : W p l e R s m args below meth c H locs cells slots Q (F0 m pc ls st0) := by
  refine vp_callSi (W.runS (As := As) (rest := rest) ⟨hx, hb, hml, hown, ht⟩ hM (cwS nA ht hG rfl rfl rfl hy hR) ⟨fun a U g mk q => ⟨q.1, trivial⟩, fun U hU hW => ⟨rfl, trivial⟩⟩ rfl hn hls hst (lv_room hW) hd hc) (fun r h => ?_)
  rw [h]; exact kk
theorem ia_ids (k : Nat) {ws : va_W} (h : ws.length = k) : (List.range k).map (fun i => ws[i]?) = ws.map some := by
  subst h
  apply List.ext_getElem?
  intro i
  by_cases hi : i < ws.length
  · simp [hi]
  · simp [hi]
theorem il_callV {own : String} {y : MethodName} {b : ByteArray} {mL nL nA idx d : Nat} {As st0 : List Value} {n2 : Nat} {g2 : Nat → Nat → Nat} (hx : p.tables.exec = Jvm.exec) (hb : c.code = cc) (hml : c.maxLocals = nL) (hls : ls.size = nL) (hown : s.vm.findClass own = some m.cls) (ht : ∀ w ∈ tb, w.before args s = true) (hO : ia_O E n g s H) (hD : va_D A (ia_w E n g)) (hS : va_S A H0 H locs) (hA : ∀ q, H0.size ≤ q → A q) (hM : ia_V l y b mL d E n g H.size As n2 g2) (hG : GoodIn tb (wsV own idx RX0 y (ia_ws y b mL none))) (hy : y.cls = RX0 ∧ y.cls ≠ "java/lang/invoke/MethodHandle" ∧ y.cls ≠ "java/lang/invoke/VarHandle" ∧ (parseMethodDescriptor y.desc).map (fun d => d.parameters.length) = some nA) (hn : As.length = nA) (hR : d + 1 ≤ R.frames ∧ 8 + (mL + 11) + 40 * d ≤ R.locals) (hc : cells ≤ R.cells ∧ slots ≤ R.slots) (hW : (rest.map fun v => v.category).sum ≤ 8) (hst : st0 = As.reverse ++ .ref (ia_h E 0) :: rest) (hd : decode cc pc = .ok (.invokevirtual idx, 3))
    (kk : ∀ (H1 : Heap) (locs1 : List Loc), ia_O E n2 g2 s H1 → va_D A (ia_w E n2 g2) → va_S A H0 H1 locs1 → (∀ q : Nat, q < H.size → ¬ va_A (ia_w E n g) H.size q → H1[q]? = H[q]?) → va_D (va_A (ia_w E n g) H.size) (ia_w E n2 g2) → W p l e R s m args below meth c H1 locs1 cells slots Q (F0 m (pc + 3) ls rest)) : W p l e R s m args below meth c H locs cells slots Q (F0 m pc ls st0) := by
  have hF := va_free (wc := ia_w E n g) hD hS hA (List.range 14) (ia_ids 14 rfl)
  refine va_callv (va_runV (As := As) (rest := rest) ⟨hx, hb, hml, hown, ht⟩ hM (cwV nA ht hG rfl rfl rfl hy hR) ⟨fun a U g mk q => ⟨q.1, q.2.1, ⟨va_K.moved (u := U) (U := U.calling g mk a) (Vm.Alike.refl U.vm) q.2.2.1.1, q.2.2.1.2⟩, q.2.2.2⟩, va_recv hO.1 hO.2 (ci := 0) (q0 := 0) rfl rfl, fun U hU hW => ⟨rfl, by rw [hU], ⟨va_K.moved hW.alike hO.1, by rw [hU]; exact hO.2⟩, hD.weaken (fun _ _ _ _ => trivial)⟩⟩ rfl hn hls hst (lv_room hW) hd hc) hS (fun q _ h => hF q h) hF (fun u t H1 locs1 hth hvm hw hB hz1 hk1 hS1 => ?_)
  subst hw
  refine kk H1 locs1 ⟨hO.1, ?_⟩ (hB.2.weaken (fun _ q _ h => hF q.1 h)) hS1 hk1 hB.2
  rw [← hth]; exact hB.1.2
theorem ia_callV {y : MethodName} {b : ByteArray} {mL nL nA idx d : Nat} {As st0 : List Value} {n2 : Nat} {g2 : Nat → Nat → Nat} (hx : p.tables.exec = Jvm.exec) (hb : c.code = cc) (hml : c.maxLocals = nL) (hls : ls.size = nL) (hown : s.vm.findClass RX0 = some m.cls) (ht : ∀ w ∈ tb, w.before args s = true) (hO : ia_O E n g s H) (hD : va_D A (ia_w E n g)) (hS : va_S A H0 H locs) (hA : ∀ q, H0.size ≤ q → A q) (hM : ia_V l y b mL d E n g H.size As n2 g2) (hG : GoodIn tb (wsV RX0 idx RX0 y (ia_ws y b mL none))) (hy : y.cls = RX0 ∧ y.cls ≠ "java/lang/invoke/MethodHandle" ∧ y.cls ≠ "java/lang/invoke/VarHandle" ∧ (parseMethodDescriptor y.desc).map (fun d => d.parameters.length) = some nA) (hn : As.length = nA) (hR : d + 1 ≤ R.frames ∧ 8 + (mL + 11) + 40 * d ≤ R.locals) (hc : cells ≤ R.cells ∧ slots ≤ R.slots) (hW : (rest.map fun v => v.category).sum ≤ 8) (hst : st0 = As.reverse ++ .ref (ia_h E 0) :: rest) (hd : decode cc pc = .ok (.invokevirtual idx, 3))
    (kk : ∀ (H1 : Heap) (locs1 : List Loc), ia_O E n2 g2 s H1 → va_D A (ia_w E n2 g2) → va_S A H0 H1 locs1 → W p l e R s m args below meth c H1 locs1 cells slots Q (F0 m (pc + 3) ls rest)) : W p l e R s m args below meth c H locs cells slots Q (F0 m pc ls st0) :=
  il_callV hx hb hml hls hown ht hO hD hS hA hM hG hy hn hR hc hW hst hd (fun H1 locs1 h1 h2 h3 _ _ => kk H1 locs1 h1 h2 h3)
theorem il_callM {own : String} {y : MethodName} {b : ByteArray} {mL nL nA idx d : Nat} {ty : FieldType} {As st0 : List Value} {v : Int32} {n2 : Nat} {g2 : Nat → Nat → Nat} (hx : p.tables.exec = Jvm.exec) (hb : c.code = cc) (hml : c.maxLocals = nL) (hls : ls.size = nL) (hown : s.vm.findClass own = some m.cls) (ht : ∀ w ∈ tb, w.before args s = true) (hO : ia_O E n g s H) (hD : va_D A (ia_w E n g)) (hS : va_S A H0 H locs) (hA : ∀ q, H0.size ≤ q → A q) (hM : ia_M l y b mL ty d E n g H.size As v n2 g2) (hG : GoodIn tb (wsV own idx RX0 y (ia_ws y b mL (some ty)))) (hy : y.cls = RX0 ∧ y.cls ≠ "java/lang/invoke/MethodHandle" ∧ y.cls ≠ "java/lang/invoke/VarHandle" ∧ (parseMethodDescriptor y.desc).map (fun d => d.parameters.length) = some nA) (hn : As.length = nA) (hR : d + 1 ≤ R.frames ∧ 8 + (mL + 11) + 40 * d ≤ R.locals) (hc : cells ≤ R.cells ∧ slots ≤ R.slots) (hW : (rest.map fun v => v.category).sum ≤ 8) (hst : st0 = As.reverse ++ .ref (ia_h E 0) :: rest) (hd : decode cc pc = .ok (.invokevirtual idx, 3))
    (kk : ∀ (H1 : Heap) (locs1 : List Loc), ia_O E n2 g2 s H1 → va_D A (ia_w E n2 g2) → va_S A H0 H1 locs1 → (∀ q : Nat, q < H.size → ¬ va_A (ia_w E n g) H.size q → H1[q]? = H[q]?) → va_D (va_A (ia_w E n g) H.size) (ia_w E n2 g2) → W p l e R s m args below meth c H1 locs1 cells slots Q (F0 m (pc + 3) ls (.int v :: rest))) : W p l e R s m args below meth c H locs cells slots Q (F0 m pc ls st0) := by
  have hF := va_free (wc := ia_w E n g) hD hS hA (List.range 14) (ia_ids 14 rfl)
  refine va_calli (va_runV (As := As) (rest := rest) ⟨hx, hb, hml, hown, ht⟩ hM (cwV nA ht hG rfl rfl rfl hy hR) ⟨fun a U g mk q => ⟨q.1, q.2.1, ⟨va_K.moved (u := U) (U := U.calling g mk a) (Vm.Alike.refl U.vm) q.2.2.1.1, q.2.2.1.2⟩, q.2.2.2⟩, va_recv hO.1 hO.2 (ci := 0) (q0 := 0) rfl rfl, fun U hU hW => ⟨rfl, by rw [hU], ⟨va_K.moved hW.alike hO.1, by rw [hU]; exact hO.2⟩, hD.weaken (fun _ _ _ _ => trivial)⟩⟩ rfl hn hls hst (lv_room hW) hd hc) hS (fun q _ h => hF q h) hF (fun r u t H1 locs1 hth hvm hw hB hz1 hk1 hS1 => ?_)
  obtain ⟨rfl, rfl⟩ := hw
  refine kk H1 locs1 ⟨hO.1, ?_⟩ (hB.2.weaken (fun _ q _ h => hF q.1 h)) hS1 hk1 hB.2
  rw [← hth]; exact hB.1.2
theorem ia_callM {y : MethodName} {b : ByteArray} {mL nL nA idx d : Nat} {ty : FieldType} {As st0 : List Value} {v : Int32} {n2 : Nat} {g2 : Nat → Nat → Nat} (hx : p.tables.exec = Jvm.exec) (hb : c.code = cc) (hml : c.maxLocals = nL) (hls : ls.size = nL) (hown : s.vm.findClass RX0 = some m.cls) (ht : ∀ w ∈ tb, w.before args s = true) (hO : ia_O E n g s H) (hD : va_D A (ia_w E n g)) (hS : va_S A H0 H locs) (hA : ∀ q, H0.size ≤ q → A q) (hM : ia_M l y b mL ty d E n g H.size As v n2 g2) (hG : GoodIn tb (wsV RX0 idx RX0 y (ia_ws y b mL (some ty)))) (hy : y.cls = RX0 ∧ y.cls ≠ "java/lang/invoke/MethodHandle" ∧ y.cls ≠ "java/lang/invoke/VarHandle" ∧ (parseMethodDescriptor y.desc).map (fun d => d.parameters.length) = some nA) (hn : As.length = nA) (hR : d + 1 ≤ R.frames ∧ 8 + (mL + 11) + 40 * d ≤ R.locals) (hc : cells ≤ R.cells ∧ slots ≤ R.slots) (hW : (rest.map fun v => v.category).sum ≤ 8) (hst : st0 = As.reverse ++ .ref (ia_h E 0) :: rest) (hd : decode cc pc = .ok (.invokevirtual idx, 3))
    (kk : ∀ (H1 : Heap) (locs1 : List Loc), ia_O E n2 g2 s H1 → va_D A (ia_w E n2 g2) → va_S A H0 H1 locs1 → W p l e R s m args below meth c H1 locs1 cells slots Q (F0 m (pc + 3) ls (.int v :: rest))) : W p l e R s m args below meth c H locs cells slots Q (F0 m pc ls st0) :=
  il_callM hx hb hml hls hown ht hO hD hS hA hM hG hy hn hR hc hW hst hd (fun H1 locs1 h1 h2 h3 _ _ => kk H1 locs1 h1 h2 h3)
end ZY
/-- two worlds apart -/
def zz_X (w1 w2 : va_W) : Prop := ∀ (i j : Nat) (p q : Nat × va_E), w1[i]? = some p → w2[j]? = some q → p.1 ≠ q.1
theorem zz_X.symm {w1 w2 : va_W} (h : zz_X w1 w2) : zz_X w2 w1 := fun i j p q hp hq e => h j i q p hq hp e.symm
theorem zz_frame {D : va_G} {cl : List vw_C} {wx wm : va_W} {H H1 : Heap} (hP : va_P D cl wm H) (hX : zz_X wx wm) (hk : ∀ q : Nat, q < H.size → ¬ va_A wx H.size q → H1[q]? = H[q]?) : va_P D cl wm H1 :=
  hP.kept (fun k q hq => hk q.1 ((hP k q hq).lt) (fun h => by
    rcases h with ⟨i, e, hi⟩ | h
    · exact hX i k (q.1, e) q hi hq rfl
    · exact absurd ((hP k q hq).lt) (by omega)))
theorem zz_apart {D : va_G} {cl : List vw_C} {wx wx2 wm : va_W} {H : Heap} (hP : va_P D cl wm H) (hX : zz_X wx wm) (hD : va_D (va_A wx H.size) wx2) : zz_X wx2 wm := by
  intro i j p q hp hq e
  have h := hD.2 i p hp
  rw [e] at h
  rcases h with ⟨k, e', hk⟩ | h
  · exact hX k j (q.1, e') q hk hq rfl
  · exact absurd ((hP j q hq).lt) (by omega)
theorem zgX0_54 : GoodIn tb (wsS RX0 54 yX0_isRegister (ia_ws yX0_isRegister cX0_isRegister 1 (some .boolean))) := ia_gS zmX0_54 ztX0_isRegister znX0 zkX0_isRegister
theorem zgX0_58 : GoodIn tb (wsV RX0 58 RX0 yX0_append (ia_ws yX0_append cX0_append 8 (some .int))) := ia_gV zmX0_58 ziX0_append zsX0_append znX0 zkX0_append
theorem zgX0_108 : GoodIn tb (wsV RX0 108 RX0 yX0_settle (ia_ws yX0_settle cX0_settle 2 none)) := ia_gV zmX0_108 ziX0_settle zsX0_settle znX0 zkX0_settle
theorem zgX0_112 : GoodIn tb (wsV RX0 112 RX0 yX0_joinsGroup (ia_ws yX0_joinsGroup cX0_joinsGroup 3 (some .boolean))) := ia_gV zmX0_112 ziX0_joinsGroup zsX0_joinsGroup znX0 zkX0_joinsGroup
theorem zgX0_124 : GoodIn tb (wsV RX0 124 RX0 yX0_isBehindSlot (ia_ws yX0_isBehindSlot cX0_isBehindSlot 2 (some .boolean))) := ia_gV zmX0_124 ziX0_isBehindSlot zsX0_isBehindSlot znX0 zkX0_isBehindSlot
theorem zgX0_82 : GoodIn tb (wsV RX0 82 RX0 yX0_liesBehind (ia_ws yX0_liesBehind cX0_liesBehind 2 (some .boolean))) := ia_gV zmX0_82 ziX0_liesBehind zsX0_liesBehind znX0 zkX0_liesBehind
theorem zgX0_79 : GoodIn tb (wsV RX0 79 RX0 yX0_isRedirected (ia_ws yX0_isRedirected cX0_isRedirected 2 (some .boolean))) := ia_gV zmX0_79 ziX0_isRedirected zsX0_isRedirected znX0 zkX0_isRedirected
theorem zgX0_127 : GoodIn tb (wsV RX0 127 RX0 yX0_isBehindFailingOrSingle (ia_ws yX0_isBehindFailingOrSingle cX0_isBehindFailingOrSingle 2 (some .boolean))) := ia_gV zmX0_127 ziX0_isBehindFailingOrSingle zsX0_isBehindFailingOrSingle znX0 zkX0_isBehindFailingOrSingle
theorem zgX0_130 : GoodIn tb (wsV RX0 130 RX0 yX0_isBehindSlotOfMissedBranch (ia_ws yX0_isBehindSlotOfMissedBranch cX0_isBehindSlotOfMissedBranch 2 (some .boolean))) := ia_gV zmX0_130 ziX0_isBehindSlotOfMissedBranch zsX0_isBehindSlotOfMissedBranch znX0 zkX0_isBehindSlotOfMissedBranch
theorem zgX0_133 : GoodIn tb (wsV RX0 133 RX0 yX0_isMissed (ia_ws yX0_isMissed cX0_isMissed 2 (some .boolean))) := ia_gV zmX0_133 ziX0_isMissed zsX0_isMissed znX0 zkX0_isMissed
theorem zgX0_115 : GoodIn tb (wsV RX0 115 RX0 yX0_leastFetchTime (ia_ws yX0_leastFetchTime cX0_leastFetchTime 3 (some .int))) := ia_gV zmX0_115 ziX0_leastFetchTime zsX0_leastFetchTime znX0 zkX0_leastFetchTime
theorem zgX0_118 : GoodIn tb (wsV RX0 118 RX0 yX0_leastIssueTime (ia_ws yX0_leastIssueTime cX0_leastIssueTime 3 (some .int))) := ia_gV zmX0_118 ziX0_leastIssueTime zsX0_leastIssueTime znX0 zkX0_leastIssueTime
theorem zgX0_141 : GoodIn tb (wsV RX0 141 RX0 yX0_leastInOrder (ia_ws yX0_leastInOrder cX0_leastInOrder 3 (some .int))) := ia_gV zmX0_141 ziX0_leastInOrder zsX0_leastInOrder znX0 zkX0_leastInOrder
theorem zgX0_150 : GoodIn tb (wsV RX0 150 RX0 yX0_makesPair (ia_ws yX0_makesPair cX0_makesPair 4 (some .boolean))) := ia_gV zmX0_150 ziX0_makesPair zsX0_makesPair znX0 zkX0_makesPair
theorem zgX0_153 : GoodIn tb (wsS RX0 153 yX0_usesMemory (ia_ws yX0_usesMemory cX0_usesMemory 1 (some .boolean))) := ia_gS zmX0_153 ztX0_usesMemory znX0 zkX0_usesMemory
theorem zgX0_156 : GoodIn tb (wsS RX0 156 yX0_usesMultiplier (ia_ws yX0_usesMultiplier cX0_usesMultiplier 1 (some .boolean))) := ia_gS zmX0_156 ztX0_usesMultiplier znX0 zkX0_usesMultiplier
theorem zgX0_159 : GoodIn tb (wsV RX0 159 RX0 yX0_reads (ia_ws yX0_reads cX0_reads 3 (some .boolean))) := ia_gV zmX0_159 ziX0_reads zsX0_reads znX0 zkX0_reads
theorem zgX0_144 : GoodIn tb (wsV RX0 144 RX0 yX0_whenReadable (ia_ws yX0_whenReadable cX0_whenReadable 4 (some .int))) := ia_gV zmX0_144 ziX0_whenReadable zsX0_whenReadable znX0 zkX0_whenReadable
theorem zgX0_163 : GoodIn tb (wsS RX0 163 yX0_delayOf (ia_ws yX0_delayOf cX0_delayOf 1 (some .int))) := ia_gS zmX0_163 ztX0_delayOf znX0 zkX0_delayOf
theorem zgX0_147 : GoodIn tb (wsV RX0 147 RX0 yX0_whenDividerIsFree (ia_ws yX0_whenDividerIsFree cX0_whenDividerIsFree 3 (some .int))) := ia_gV zmX0_147 ziX0_whenDividerIsFree zsX0_whenDividerIsFree znX0 zkX0_whenDividerIsFree
theorem zgX0_89 : GoodIn tb (wsV RX0 89 RX0 yX0_doneBefore (ia_ws yX0_doneBefore cX0_doneBefore 2 (some .int))) := ia_gV zmX0_89 ziX0_doneBefore zsX0_doneBefore znX0 zkX0_doneBefore
theorem zgX0_121 : GoodIn tb (wsV RX0 121 RX0 yX0_leastDoneTime (ia_ws yX0_leastDoneTime cX0_leastDoneTime 3 (some .int))) := ia_gV zmX0_121 ziX0_leastDoneTime zsX0_leastDoneTime znX0 zkX0_leastDoneTime
theorem zgX0_166 : GoodIn tb (wsS RX0 166 yX0_workOf (ia_ws yX0_workOf cX0_workOf 1 (some .int))) := ia_gS zmX0_166 ztX0_workOf znX0 zkX0_workOf
theorem zgX0_62 : GoodIn tb (wsV RX0 62 RX0 yX0_failLast (ia_ws yX0_failLast cX0_failLast 2 none)) := ia_gV zmX0_62 ziX0_failLast zsX0_failLast znX0 zkX0_failLast
theorem zgX0_65 : GoodIn tb (wsV RX0 65 RX0 yX0_isInstruction (ia_ws yX0_isInstruction cX0_isInstruction 2 (some .boolean))) := ia_gV zmX0_65 ziX0_isInstruction zsX0_isInstruction znX0 zkX0_isInstruction
theorem zgX0_68 : GoodIn tb (wsV RX0 68 RX0 yX0_groupSize (ia_ws yX0_groupSize cX0_groupSize 2 (some .int))) := ia_gV zmX0_68 ziX0_groupSize zsX0_groupSize znX0 zkX0_groupSize
theorem zgX0_72 : GoodIn tb (wsV RX0 72 RX0 yX0_isIssuedAsSecond (ia_ws yX0_isIssuedAsSecond cX0_isIssuedAsSecond 2 (some .boolean))) := ia_gV zmX0_72 ziX0_isIssuedAsSecond zsX0_isIssuedAsSecond znX0 zkX0_isIssuedAsSecond
theorem zgX0_75 : GoodIn tb (wsS RX0 75 yX0_oneIf (ia_ws yX0_oneIf cX0_oneIf 1 (some .int))) := ia_gS zmX0_75 ztX0_oneIf znX0 zkX0_oneIf
theorem zgX0_85 : GoodIn tb (wsV RX0 85 RX0 yX0_stageAt (ia_ws yX0_stageAt cX0_stageAt 3 (some .int))) := ia_gV zmX0_85 ziX0_stageAt zsX0_stageAt znX0 zkX0_stageAt
theorem zgX0_92 : GoodIn tb (wsV RX0 92 RX0 yX0_cyclesWithTwoDone (ia_ws yX0_cyclesWithTwoDone cX0_cyclesWithTwoDone 3 (some .int))) := ia_gV zmX0_92 ziX0_cyclesWithTwoDone zsX0_cyclesWithTwoDone znX0 zkX0_cyclesWithTwoDone
theorem zgX0_96 : GoodIn tb (wsV RX0 96 RX0 yX0_longestWayBetweenDone (ia_ws yX0_longestWayBetweenDone cX0_longestWayBetweenDone 3 (some .int))) := ia_gV zmX0_96 ziX0_longestWayBetweenDone zsX0_longestWayBetweenDone znX0 zkX0_longestWayBetweenDone
theorem zgX0_99 : GoodIn tb (wsV RX0 99 RX0 yX0_groups (ia_ws yX0_groups cX0_groups 3 (some .int))) := ia_gV zmX0_99 ziX0_groups zsX0_groups znX0 zkX0_groups
theorem zgX0_102 : GoodIn tb (wsV RX0 102 RX0 yX0_pairsIssuedAtOnce (ia_ws yX0_pairsIssuedAtOnce cX0_pairsIssuedAtOnce 3 (some .int))) := ia_gV zmX0_102 ziX0_pairsIssuedAtOnce zsX0_pairsIssuedAtOnce znX0 zkX0_pairsIssuedAtOnce
theorem zgX0_105 : GoodIn tb (wsV RX0 105 RX0 yX0_mostAtWork (ia_ws yX0_mostAtWork cX0_mostAtWork 4 (some .int))) := ia_gV zmX0_105 ziX0_mostAtWork zsX0_mostAtWork znX0 zkX0_mostAtWork
end
section
-- PART 04: what the class's own methods answer, as numbers, over the row's cells g
-- 1 kinds, 2 writes, 3 firstReads, 4 secondReads, 5 foresights, 6 goings, 7 toldToFail, 8 inSlot, 9 failing, 10 beginsGroup, 11 fetchTimes, 12 issueTimes, 13 doneTimes
def zs_bslot (g : Nat → Nat → Nat) (i : Nat) : Nat := if 1 < i ∧ g 8 (i - 1) ≠ 0 then 1 else 0
def zs_lies (g : Nat → Nat → Nat) (i : Nat) : Nat := if 0 < i ∧ g 9 (i - 1) = 0 ∧ ¬ (zs_bslot g i ≠ 0 ∧ g 6 (i - 2) ≠ 0) then 1 else 0
def zs_bfs (g : Nat → Nat → Nat) (i : Nat) : Nat := if 0 < i ∧ (g 9 (i - 1) ≠ 0 ∨ g 1 (i - 1) = 6) then 1 else 0
def zs_missed (g : Nat → Nat → Nat) (i : Nat) : Nat := if g 5 i = 0 then 1 else if (g 5 i = 1 ∧ g 6 i = 1) ∨ (g 5 i ≠ 1 ∧ g 6 i = 0) then 0 else 1
def zs_bsm (g : Nat → Nat → Nat) (i : Nat) : Nat := if zs_bslot g i ≠ 0 ∧ zs_missed g (i - 2) ≠ 0 then 1 else 0
def zs_redir (g : Nat → Nat → Nat) (i : Nat) : Nat := if zs_bfs g i ≠ 0 ∨ zs_bsm g i ≠ 0 then 1 else 0
def zs_joins (g : Nat → Nat → Nat) (i : Nat) : Nat := if i = 0 ∨ g 10 (i - 1) = 0 then 0 else if zs_lies g i ≠ 0 ∧ zs_redir g i = 0 ∧ ¬ (zs_bslot g i ≠ 0 ∧ g 5 (i - 2) = 1) then 1 else 0
def zs_fetch (g : Nat → Nat → Nat) (i : Nat) : Nat := if i = 0 then 1 else if g 10 i = 0 then g 11 (i - 1) else max (max (max (g 11 (i - 1) + 1) (if 5 ≤ i then g 12 (i - 5) + 1 else 0)) (if zs_bfs g i ≠ 0 then g 13 (i - 1) + 1 else 0)) (if zs_bsm g i ≠ 0 then g 12 (i - 2) + 2 else 0)
def zs_gsize (g : Nat → Nat → Nat) (n i : Nat) : Nat := if g 10 i = 0 then 2 else if i + 1 < n ∧ g 10 (i + 1) = 0 then 2 else 1
def zs_mem (k : Nat) : Nat := if k = 1 ∨ k = 2 then 1 else 0
def zs_mul (k : Nat) : Nat := if k = 3 ∨ k = 4 then 1 else 0
def zs_reads (g : Nat → Nat → Nat) (i r : Nat) : Nat := if r ≠ 0 ∧ (g 3 i = r ∨ g 4 i = r) then 1 else 0
def zs_pair (g : Nat → Nat → Nat) (i : Nat) : Nat := if i = 0 then 0 else if g 1 (i - 1) = 6 ∨ g 1 i = 6 ∨ g 1 (i - 1) = 5 then 0 else if zs_mem (g 1 (i - 1)) ≠ 0 ∧ zs_mem (g 1 i) ≠ 0 then 0 else if zs_mul (g 1 (i - 1)) ≠ 0 ∧ zs_mul (g 1 i) ≠ 0 then 0 else if zs_reads g i (g 2 (i - 1)) ≠ 0 then 0 else 1
def zs_order (g : Nat → Nat → Nat) (i : Nat) : Nat := if i = 0 then 1 else if (i = 1 ∨ g 12 (i - 2) < g 12 (i - 1)) ∧ zs_pair g i ≠ 0 then g 12 (i - 1) else g 12 (i - 1) + 1
def zs_delay (k : Nat) : Nat := if k = 1 then 2 else if k = 3 then 3 else if k = 4 then 18 else 1
def zs_work (k : Nat) : Nat := if k = 3 then 5 else if k = 4 then 20 else 3
def zs_wr (g : Nat → Nat → Nat) (r : Nat) : Nat → Nat
  | 0 => 0
  | i + 1 => if g 2 i = r ∧ g 9 i = 0 then g 12 i + zs_delay (g 1 i) else zs_wr g r i
def zs_readable (g : Nat → Nat → Nat) (r i : Nat) : Nat := if r = 0 then 0 else zs_wr g r i
def zs_div (g : Nat → Nat → Nat) : Nat → Nat
  | 0 => 0
  | i + 1 => if g 1 i = 4 then g 12 i + 18 else zs_div g i
def zs_dbef (g : Nat → Nat → Nat) (i : Nat) : Nat := if 0 < i then g 13 (i - 1) else 0
def zs_issue (g : Nat → Nat → Nat) (i : Nat) : Nat := max (max (max (max (max (g 11 i + 2) (zs_order g i)) (zs_readable g (g 3 i) i)) (zs_readable g (g 4 i) i)) (if g 1 i = 4 then zs_div g i else 0)) (if g 1 i = 6 then zs_dbef g i + 1 else 0)
def zs_done (g : Nat → Nat → Nat) (i : Nat) : Nat := max (max (max (g 12 i + zs_work (g 1 i)) (zs_dbef g i)) (if 1 < i then g 13 (i - 2) + 1 else 0)) (if g 9 i ≠ 0 then zs_dbef g i + 1 else 0)
def zs_second (g : Nat → Nat → Nat) (i : Nat) : Nat := if 0 < i ∧ g 12 (i - 1) = g 12 i then 1 else 0
def zs_stage (g : Nat → Nat → Nat) (i c : Nat) : Nat := if c < g 11 i then 0 else if c < g 12 i then 1 else if c < g 13 i then 2 else 3
def zs_many (g : Nat → Nat → Nat) (st c : Nat) : Nat → Nat
  | 0 => 0
  | k + 1 => zs_many g st c k + (if zs_stage g k c = st then 1 else 0)
def zs_two (g : Nat → Nat → Nat) : Nat → Nat
  | 0 => 0
  | k + 1 => zs_two g k + (if 0 < k ∧ g 13 k = g 13 (k - 1) then 1 else 0)
def zs_long (g : Nat → Nat → Nat) : Nat → Nat
  | 0 => 0
  | k + 1 => max (zs_long g k) (g 13 k - zs_dbef g k)
def zs_groups (g : Nat → Nat → Nat) : Nat → Nat
  | 0 => 0
  | k + 1 => zs_groups g k + (if g 10 k ≠ 0 then 1 else 0)
def zs_pairs (g : Nat → Nat → Nat) : Nat → Nat
  | 0 => 0
  | k + 1 => zs_pairs g k + zs_second g k
def zs_old (g : Nat → Nat → Nat) (i : Nat) : Nat → Nat → Nat
  | 0, o => o
  | d + 1, o => if g 13 o ≤ g 12 i then zs_old g i d (o + 1) else o
def zs_oldest (g : Nat → Nat → Nat) : Nat → Nat
  | 0 => 0
  | k + 1 => zs_old g k (k - zs_oldest g k) (zs_oldest g k)
def zs_most (g : Nat → Nat → Nat) : Nat → Nat
  | 0 => 0
  | k + 1 => max (zs_most g k) (k - zs_oldest g (k + 1) + 1)
-- what settle writes
def zs_slot (g : Nat → Nat → Nat) (i : Nat) : Nat := if 0 < i ∧ g 1 (i - 1) = 5 ∧ g 9 (i - 1) = 0 then 1 else 0
def zs_fail (g : Nat → Nat → Nat) (i : Nat) : Nat := if g 7 i ≠ 0 ∨ g 1 i = 7 ∨ (g 1 i = 5 ∧ g 8 i ≠ 0) then 1 else 0
def zs_begin (g : Nat → Nat → Nat) (i : Nat) : Nat := if zs_joins g i ≠ 0 then 0 else 1
def zs_s1 (g : Nat → Nat → Nat) (i : Nat) : Nat → Nat → Nat := ia_up g 8 i (zs_slot g i)
def zs_s2 (g : Nat → Nat → Nat) (i : Nat) : Nat → Nat → Nat := ia_up (zs_s1 g i) 9 i (zs_fail (zs_s1 g i) i)
def zs_s3 (g : Nat → Nat → Nat) (i : Nat) : Nat → Nat → Nat := ia_up (zs_s2 g i) 10 i (zs_begin (zs_s2 g i) i)
def zs_s4 (g : Nat → Nat → Nat) (i : Nat) : Nat → Nat → Nat := ia_up (zs_s3 g i) 11 i (zs_fetch (zs_s3 g i) i)
def zs_s5 (g : Nat → Nat → Nat) (i : Nat) : Nat → Nat → Nat := ia_up (zs_s4 g i) 12 i (zs_issue (zs_s4 g i) i)
def zs_settle (g : Nat → Nat → Nat) (i : Nat) : Nat → Nat → Nat := ia_up (zs_s5 g i) 13 i (zs_done (zs_s5 g i) i)
def zs_put (g : Nat → Nat → Nat) (i k d a b f go : Nat) : Nat → Nat → Nat :=
  ia_up (ia_up (ia_up (ia_up (ia_up (ia_up (ia_up g 1 i k) 2 i d) 3 i a) 4 i b) 5 i f) 6 i go) 7 i 0
def zs_append (g : Nat → Nat → Nat) (i k d a b f go : Nat) : Nat → Nat → Nat := zs_settle (zs_put g i k d a b f go) i
def zs_failLast (g : Nat → Nat → Nat) (i : Nat) : Nat → Nat → Nat := zs_settle (ia_up g 7 i 1) i
-- bounds: nothing in the cells comes near an int's end
def zs_B (g : Nat → Nat → Nat) : Prop := ∀ k j, g k j ≤ 40 * j + 40
theorem zs_B_up {g : Nat → Nat → Nat} {k j v : Nat} (h : zs_B g) (hv : v ≤ 40 * j + 40) : zs_B (ia_up g k j v) := by
  intro a b
  by_cases h1 : a = k
  · by_cases h2 : b = j
    · subst h1; subst h2; simpa [ia_up] using hv
    · have := h a b
      simpa [ia_up, h1, h2] using (h1 ▸ this)
  · have := h a b
    simpa [ia_up, h1] using this
theorem zb_bslot (g : Nat → Nat → Nat) (i : Nat) : zs_bslot g i ≤ 1 ∧ (zs_bslot g i ≠ 0 → 1 < i) := by unfold zs_bslot; (repeat' split) <;> omega
theorem zb_lies (g : Nat → Nat → Nat) (i : Nat) : zs_lies g i ≤ 1 := by unfold zs_lies; (repeat' split) <;> omega
theorem zb_bfs (g : Nat → Nat → Nat) (i : Nat) : zs_bfs g i ≤ 1 := by unfold zs_bfs; (repeat' split) <;> omega
theorem zb_missed (g : Nat → Nat → Nat) (i : Nat) : zs_missed g i ≤ 1 := by unfold zs_missed; (repeat' split) <;> omega
theorem zb_bsm (g : Nat → Nat → Nat) (i : Nat) : zs_bsm g i ≤ 1 ∧ (zs_bsm g i ≠ 0 → 1 < i) := by
  have h := zb_bslot g i
  unfold zs_bsm; (repeat' split) <;> omega
theorem zb_redir (g : Nat → Nat → Nat) (i : Nat) : zs_redir g i ≤ 1 := by unfold zs_redir; (repeat' split) <;> omega
theorem zb_joins (g : Nat → Nat → Nat) (i : Nat) : zs_joins g i ≤ 1 := by unfold zs_joins; (repeat' split) <;> omega
theorem zb_mem (k : Nat) : zs_mem k ≤ 1 := by unfold zs_mem; (repeat' split) <;> omega
theorem zb_mul (k : Nat) : zs_mul k ≤ 1 := by unfold zs_mul; (repeat' split) <;> omega
theorem zb_reads (g : Nat → Nat → Nat) (i r : Nat) : zs_reads g i r ≤ 1 := by unfold zs_reads; (repeat' split) <;> omega
theorem zb_pair (g : Nat → Nat → Nat) (i : Nat) : zs_pair g i ≤ 1 := by unfold zs_pair; (repeat' split) <;> omega
theorem zb_second (g : Nat → Nat → Nat) (i : Nat) : zs_second g i ≤ 1 := by unfold zs_second; (repeat' split) <;> omega
theorem zb_slot (g : Nat → Nat → Nat) (i : Nat) : zs_slot g i ≤ 1 := by unfold zs_slot; (repeat' split) <;> omega
theorem zb_fail (g : Nat → Nat → Nat) (i : Nat) : zs_fail g i ≤ 1 := by unfold zs_fail; (repeat' split) <;> omega
theorem zb_begin (g : Nat → Nat → Nat) (i : Nat) : zs_begin g i ≤ 1 := by unfold zs_begin; (repeat' split) <;> omega
theorem zb_gsize (g : Nat → Nat → Nat) (n i : Nat) : zs_gsize g n i ≤ 2 := by unfold zs_gsize; (repeat' split) <;> omega
theorem zb_stage (g : Nat → Nat → Nat) (i c : Nat) : zs_stage g i c ≤ 3 := by unfold zs_stage; (repeat' split) <;> omega
theorem zb_delay (k : Nat) : zs_delay k ≤ 18 := by unfold zs_delay; (repeat' split) <;> omega
theorem zb_work (k : Nat) : zs_work k ≤ 20 := by unfold zs_work; (repeat' split) <;> omega
theorem zb_dbef {g : Nat → Nat → Nat} (h : zs_B g) (i : Nat) : zs_dbef g i ≤ 40 * i := by
  have h1 := h 13 (i - 1)
  unfold zs_dbef; (repeat' split) <;> omega
theorem zb_order {g : Nat → Nat → Nat} (h : zs_B g) (i : Nat) : zs_order g i ≤ 40 * i + 1 := by
  have h1 := h 12 (i - 1)
  unfold zs_order; (repeat' split) <;> omega
theorem zb_wr {g : Nat → Nat → Nat} (h : zs_B g) (r i : Nat) : zs_wr g r i ≤ 40 * i + 18 := by
  induction i with
  | zero => simp [zs_wr]
  | succ i ih =>
    have h1 := h 12 i
    have h2 := zb_delay (g 1 i)
    unfold zs_wr; (repeat' split) <;> omega
theorem zb_readable {g : Nat → Nat → Nat} (h : zs_B g) (r i : Nat) : zs_readable g r i ≤ 40 * i + 18 := by
  have h1 := zb_wr h r i
  unfold zs_readable; (repeat' split) <;> omega
theorem zb_div {g : Nat → Nat → Nat} (h : zs_B g) (i : Nat) : zs_div g i ≤ 40 * i + 18 := by
  induction i with
  | zero => simp [zs_div]
  | succ i ih =>
    have h1 := h 12 i
    unfold zs_div; (repeat' split) <;> omega
theorem zb_fetch {g : Nat → Nat → Nat} (h : zs_B g) (i : Nat) : zs_fetch g i ≤ 40 * i + 2 := by
  have h1 := h 11 (i - 1)
  have h2 := h 12 (i - 5)
  have h3 := h 13 (i - 1)
  have h4 := h 12 (i - 2)
  unfold zs_fetch; (repeat' split) <;> omega
theorem zb_issue {g : Nat → Nat → Nat} (h : zs_B g) (i : Nat) (hf : g 11 i ≤ 40 * i + 2) : zs_issue g i ≤ 40 * i + 18 := by
  have h1 := zb_order h i
  have h2 := zb_readable h (g 3 i) i
  have h3 := zb_readable h (g 4 i) i
  have h4 := zb_div h i
  have h5 := zb_dbef h i
  unfold zs_issue; (repeat' split) <;> omega
theorem zb_done {g : Nat → Nat → Nat} (h : zs_B g) (i : Nat) (hf : g 12 i ≤ 40 * i + 18) : zs_done g i ≤ 40 * i + 38 := by
  have h1 := zb_work (g 1 i)
  have h2 := zb_dbef h i
  have h3 := h 13 (i - 2)
  unfold zs_done; (repeat' split) <;> omega
theorem zb_many (g : Nat → Nat → Nat) (st c k : Nat) : zs_many g st c k ≤ k := by
  induction k with
  | zero => simp [zs_many]
  | succ k ih => unfold zs_many; (repeat' split) <;> omega
theorem zb_two (g : Nat → Nat → Nat) (k : Nat) : zs_two g k ≤ k := by
  induction k with
  | zero => simp [zs_two]
  | succ k ih => unfold zs_two; (repeat' split) <;> omega
theorem zb_groups (g : Nat → Nat → Nat) (k : Nat) : zs_groups g k ≤ k := by
  induction k with
  | zero => simp [zs_groups]
  | succ k ih => unfold zs_groups; (repeat' split) <;> omega
theorem zb_pairs (g : Nat → Nat → Nat) (k : Nat) : zs_pairs g k ≤ k := by
  induction k with
  | zero => simp [zs_pairs]
  | succ k ih =>
    have := zb_second g k
    unfold zs_pairs; (repeat' split) <;> omega
theorem zb_long {g : Nat → Nat → Nat} (h : zs_B g) (k : Nat) : zs_long g k ≤ 40 * k := by
  induction k with
  | zero => simp [zs_long]
  | succ k ih =>
    have h1 := h 13 k
    unfold zs_long; (repeat' split) <;> omega
theorem zb_old (g : Nat → Nat → Nat) (i d o : Nat) : o ≤ zs_old g i d o ∧ zs_old g i d o ≤ o + d := by
  induction d generalizing o with
  | zero => simp [zs_old]
  | succ d ih =>
    have := ih (o + 1)
    unfold zs_old; split <;> omega
theorem zb_oldest (g : Nat → Nat → Nat) (k : Nat) : zs_oldest g k ≤ k := by
  induction k with
  | zero => simp [zs_oldest]
  | succ k ih =>
    have := zb_old g k (k - zs_oldest g k) (zs_oldest g k)
    unfold zs_oldest; (repeat' split) <;> omega
theorem zb_most (g : Nat → Nat → Nat) (k : Nat) : zs_most g k ≤ k := by
  induction k with
  | zero => simp [zs_most]
  | succ k ih => unfold zs_most; (repeat' split) <;> omega
-- the outer methods
def zs_reg (z : Int) : Nat := if 0 ≤ z ∧ z ≤ 31 then 1 else 0
def zs_ins (n : Nat) (z : Int) : Nat := if 0 ≤ z ∧ z < n then 1 else 0
def zs_one (b : Nat) : Nat := if b = 0 then 0 else 1
theorem zb_reg (z : Int) : (0 ≤ z ∧ z ≤ 31 → zs_reg z = 1) ∧ (¬ (0 ≤ z ∧ z ≤ 31) → zs_reg z = 0) := by
  unfold zs_reg; constructor <;> intro h <;> simp [h]
theorem zb_ins (n : Nat) (z : Int) : (0 ≤ z ∧ z < n → zs_ins n z = 1) ∧ (¬ (0 ≤ z ∧ z < n) → zs_ins n z = 0) := by
  unfold zs_ins; constructor <;> intro h <;> simp [h]
theorem zb_one (b : Nat) : zs_one b ≤ 1 := by unfold zs_one; (repeat' split) <;> omega
def zp_time (g : Nat → Nat → Nat) (n i : Nat) (w : Int) : Int32 := if w = 0 then nI (g 11 i) else if w = 1 then nI (g 12 i) else if w = 2 then nI (g 13 i) else if w = 3 then nI (zs_gsize g n i) else if w = 4 then nI (zs_one (zs_second g i)) else (-1)
def zp_of (g : Nat → Nat → Nat) (i : Nat) (w : Int) : Int32 := if w = 0 then nI (g 1 i) else if w = 1 then nI (g 2 i) else if w = 2 then nI (g 3 i) else if w = 3 then nI (g 4 i) else if w = 4 then nI (zs_one (g 9 i)) else if w = 5 then nI (zs_one (g 8 i)) else if w = 6 then nI (zs_one (zs_redir g i)) else if w = 7 then nI (zs_one (zs_lies g i)) else (-1)
def zp_look (g : Nat → Nat → Nat) (n : Nat) (w : Int) : Int32 := if w = 0 then nI n else if w = 1 then nI (zs_dbef g n) else if w = 2 then nI (zs_two g n) else if w = 3 then nI (zs_long g n) else if w = 4 then nI (zs_groups g n) else if w = 5 then nI (zs_pairs g n) else if w = 6 then nI (zs_most g n) else (-1)
def zs_cell (g : Nat → Nat → Nat) (n j : Nat) : Nat → Nat → Nat :=
  let g1 := zs_append g n (g 1 j) (g 2 j) (g 3 j) (g 4 j) (g 5 j) (g 6 j)
  if g1 7 j = 0 then g1 else zs_failLast g1 n
def zs_again (g : Nat → Nat → Nat) (n i : Nat) : Nat → Nat → Nat → Nat
  | 0 => g
  | k + 1 => zs_cell (zs_again g n i k) (n + k) (i + k)
-- the cells hold kinds, registers, foresights and booleans
def zs_V (g : Nat → Nat → Nat) : Prop := ∀ j, g 1 j ≤ 7 ∧ g 2 j ≤ 31 ∧ g 3 j ≤ 31 ∧ g 4 j ≤ 31 ∧ g 5 j ≤ 2 ∧ g 6 j ≤ 1
theorem zs_up_at (g : Nat → Nat → Nat) (k j v : Nat) : ia_up g k j v k j = v := by simp [ia_up]
theorem zs_up_ne {g : Nat → Nat → Nat} {k j v a b : Nat} (h : a ≠ k ∨ b ≠ j) : ia_up g k j v a b = g a b := by
  by_cases h1 : a = k
  · have h2 : b ≠ j := by rcases h with h | h; exact absurd h1 h; exact h
    simp [ia_up, h1, h2]
  · simp [ia_up, h1]
theorem zs_s1_at (g : Nat → Nat → Nat) (i : Nat) : zs_s1 g i 8 i = zs_slot g i := zs_up_at g 8 i (zs_slot g i)
theorem zs_s1_nn {g : Nat → Nat → Nat} {i a b : Nat} (h : a ≠ 8 ∨ b ≠ i) : zs_s1 g i a b = g a b := zs_up_ne (g := g) (k := 8) (j := i) (v := zs_slot g i) h
theorem zs_s2_at (g : Nat → Nat → Nat) (i : Nat) : zs_s2 g i 9 i = zs_fail (zs_s1 g i) i := zs_up_at (zs_s1 g i) 9 i (zs_fail (zs_s1 g i) i)
theorem zs_s2_nn {g : Nat → Nat → Nat} {i a b : Nat} (h : a ≠ 9 ∨ b ≠ i) : zs_s2 g i a b = (zs_s1 g i) a b := zs_up_ne (g := (zs_s1 g i)) (k := 9) (j := i) (v := zs_fail (zs_s1 g i) i) h
theorem zs_s3_at (g : Nat → Nat → Nat) (i : Nat) : zs_s3 g i 10 i = zs_begin (zs_s2 g i) i := zs_up_at (zs_s2 g i) 10 i (zs_begin (zs_s2 g i) i)
theorem zs_s3_nn {g : Nat → Nat → Nat} {i a b : Nat} (h : a ≠ 10 ∨ b ≠ i) : zs_s3 g i a b = (zs_s2 g i) a b := zs_up_ne (g := (zs_s2 g i)) (k := 10) (j := i) (v := zs_begin (zs_s2 g i) i) h
theorem zs_s4_at (g : Nat → Nat → Nat) (i : Nat) : zs_s4 g i 11 i = zs_fetch (zs_s3 g i) i := zs_up_at (zs_s3 g i) 11 i (zs_fetch (zs_s3 g i) i)
theorem zs_s4_nn {g : Nat → Nat → Nat} {i a b : Nat} (h : a ≠ 11 ∨ b ≠ i) : zs_s4 g i a b = (zs_s3 g i) a b := zs_up_ne (g := (zs_s3 g i)) (k := 11) (j := i) (v := zs_fetch (zs_s3 g i) i) h
theorem zs_s5_at (g : Nat → Nat → Nat) (i : Nat) : zs_s5 g i 12 i = zs_issue (zs_s4 g i) i := zs_up_at (zs_s4 g i) 12 i (zs_issue (zs_s4 g i) i)
theorem zs_s5_nn {g : Nat → Nat → Nat} {i a b : Nat} (h : a ≠ 12 ∨ b ≠ i) : zs_s5 g i a b = (zs_s4 g i) a b := zs_up_ne (g := (zs_s4 g i)) (k := 12) (j := i) (v := zs_issue (zs_s4 g i) i) h
theorem zs_settle_at (g : Nat → Nat → Nat) (i : Nat) : zs_settle g i 13 i = zs_done (zs_s5 g i) i := zs_up_at (zs_s5 g i) 13 i (zs_done (zs_s5 g i) i)
theorem zs_settle_nn {g : Nat → Nat → Nat} {i a b : Nat} (h : a ≠ 13 ∨ b ≠ i) : zs_settle g i a b = (zs_s5 g i) a b := zs_up_ne (g := (zs_s5 g i)) (k := 13) (j := i) (v := zs_done (zs_s5 g i) i) h
theorem zs_B_settle {g : Nat → Nat → Nat} (h : zs_B g) (i : Nat) : zs_B (zs_settle g i) := by
  have h1 : zs_B (zs_s1 g i) := zs_B_up h (by have := zb_slot g i; omega)
  have h2 : zs_B (zs_s2 g i) := zs_B_up h1 (by have := zb_fail (zs_s1 g i) i; omega)
  have h3 : zs_B (zs_s3 g i) := zs_B_up h2 (by have := zb_begin (zs_s2 g i) i; omega)
  have h4 : zs_B (zs_s4 g i) := zs_B_up h3 (by have := zb_fetch h3 i; omega)
  have f4 : zs_s4 g i 11 i ≤ 40 * i + 2 := by
    have := zb_fetch h3 i
    rw [zs_s4_at]; exact this
  have h5 : zs_B (zs_s5 g i) := zs_B_up h4 (by have := zb_issue h4 i f4; omega)
  have f5 : zs_s5 g i 12 i ≤ 40 * i + 18 := by
    have := zb_issue h4 i f4
    rw [zs_s5_at]; exact this
  exact zs_B_up h5 (by have := zb_done h5 i f5; omega)
theorem zs_settle_ne {g : Nat → Nat → Nat} {i k j : Nat} (h : j ≠ i ∨ k ≤ 7) : zs_settle g i k j = g k j := by
  have e : ∀ m, 8 ≤ m → (k ≠ m ∨ j ≠ i) := fun m hm => by omega
  rw [zs_settle_nn (e 13 (by omega)), zs_s5_nn (e 12 (by omega)), zs_s4_nn (e 11 (by omega)), zs_s3_nn (e 10 (by omega)), zs_s2_nn (e 9 (by omega)), zs_s1_nn (e 8 (by omega))]
theorem zs_B_put {g : Nat → Nat → Nat} (h : zs_B g) {i k d a b f go : Nat} (hk : k ≤ 7 ∧ d ≤ 31 ∧ a ≤ 31 ∧ b ≤ 31) (hf : f ≤ 2 ∧ go ≤ 1) : zs_B (zs_put g i k d a b f go) :=
  zs_B_up (zs_B_up (zs_B_up (zs_B_up (zs_B_up (zs_B_up (zs_B_up h (by omega)) (by omega)) (by omega)) (by omega)) (by omega)) (by omega)) (by omega)
theorem zs_B_append {g : Nat → Nat → Nat} (h : zs_B g) {i k d a b f go : Nat} (hk : k ≤ 7 ∧ d ≤ 31 ∧ a ≤ 31 ∧ b ≤ 31) (hf : f ≤ 2 ∧ go ≤ 1) : zs_B (zs_append g i k d a b f go) := zs_B_settle (zs_B_put h hk hf) i
theorem zs_B_failLast {g : Nat → Nat → Nat} (h : zs_B g) (i : Nat) : zs_B (zs_failLast g i) := zs_B_settle (zs_B_up h (by omega)) i
theorem zs_V_settle {g : Nat → Nat → Nat} (h : zs_V g) (i : Nat) : zs_V (zs_settle g i) := by
  intro j
  rw [zs_settle_ne (k := 1) (Or.inr (by decide)), zs_settle_ne (k := 2) (Or.inr (by decide)), zs_settle_ne (k := 3) (Or.inr (by decide)), zs_settle_ne (k := 4) (Or.inr (by decide)), zs_settle_ne (k := 5) (Or.inr (by decide)), zs_settle_ne (k := 6) (Or.inr (by decide))]
  exact h j
theorem zs_put_at (g : Nat → Nat → Nat) (i k d a b f go : Nat) : zs_put g i k d a b f go 1 i = k ∧ zs_put g i k d a b f go 2 i = d ∧ zs_put g i k d a b f go 3 i = a ∧ zs_put g i k d a b f go 4 i = b ∧ zs_put g i k d a b f go 5 i = f ∧ zs_put g i k d a b f go 6 i = go ∧ zs_put g i k d a b f go 7 i = 0 := by
  simp [zs_put, ia_up]
theorem zs_put_ne {g : Nat → Nat → Nat} {i k d a b f go x j : Nat} (h : j ≠ i ∨ 8 ≤ x) : zs_put g i k d a b f go x j = g x j := by
  have e : ∀ m, m ≤ 7 → (x ≠ m ∨ j ≠ i) := fun m hm => by omega
  unfold zs_put
  rw [zs_up_ne (e 7 (by omega)), zs_up_ne (e 6 (by omega)), zs_up_ne (e 5 (by omega)), zs_up_ne (e 4 (by omega)), zs_up_ne (e 3 (by omega)), zs_up_ne (e 2 (by omega)), zs_up_ne (e 1 (by omega))]
theorem zs_V_put {g : Nat → Nat → Nat} (h : zs_V g) {i k d a b f go : Nat} (hk : k ≤ 7 ∧ d ≤ 31 ∧ a ≤ 31 ∧ b ≤ 31) (hf : f ≤ 2 ∧ go ≤ 1) : zs_V (zs_put g i k d a b f go) := by
  intro j
  by_cases hj : j = i
  · subst hj
    obtain ⟨e1, e2, e3, e4, e5, e6, -⟩ := zs_put_at g j k d a b f go
    omega
  · have := h j
    simp only [zs_put_ne (Or.inl hj)]
    exact this
theorem zs_V_append {g : Nat → Nat → Nat} (h : zs_V g) {i k d a b f go : Nat} (hk : k ≤ 7 ∧ d ≤ 31 ∧ a ≤ 31 ∧ b ≤ 31) (hf : f ≤ 2 ∧ go ≤ 1) : zs_V (zs_append g i k d a b f go) := zs_V_settle (zs_V_put h hk hf) i
theorem zs_V_failLast {g : Nat → Nat → Nat} (h : zs_V g) (i : Nat) : zs_V (zs_failLast g i) := by
  refine zs_V_settle (fun j => ?_) i
  have := h j
  simp only [zs_up_ne (g := g) (k := 7) (j := i) (v := 1) (a := 1) (b := j) (Or.inl (by decide)), zs_up_ne (g := g) (k := 7) (j := i) (v := 1) (a := 2) (b := j) (Or.inl (by decide)), zs_up_ne (g := g) (k := 7) (j := i) (v := 1) (a := 3) (b := j) (Or.inl (by decide)), zs_up_ne (g := g) (k := 7) (j := i) (v := 1) (a := 4) (b := j) (Or.inl (by decide)), zs_up_ne (g := g) (k := 7) (j := i) (v := 1) (a := 5) (b := j) (Or.inl (by decide)), zs_up_ne (g := g) (k := 7) (j := i) (v := 1) (a := 6) (b := j) (Or.inl (by decide))]
  exact this
theorem zs_BV_cell {g : Nat → Nat → Nat} (h : zs_B g) (hv : zs_V g) (n j : Nat) : zs_B (zs_cell g n j) ∧ zs_V (zs_cell g n j) := by
  have hj := hv j
  have h1 : zs_B (zs_append g n (g 1 j) (g 2 j) (g 3 j) (g 4 j) (g 5 j) (g 6 j)) := zs_B_append h (by omega) (by omega)
  have h2 : zs_V (zs_append g n (g 1 j) (g 2 j) (g 3 j) (g 4 j) (g 5 j) (g 6 j)) := zs_V_append hv (by omega) (by omega)
  unfold zs_cell
  dsimp only
  split
  · exact ⟨h1, h2⟩
  · exact ⟨zs_B_failLast h1 n, zs_V_failLast h2 n⟩
theorem zs_BV_again {g : Nat → Nat → Nat} (h : zs_B g) (hv : zs_V g) (n i k : Nat) : zs_B (zs_again g n i k) ∧ zs_V (zs_again g n i k) := by
  induction k with
  | zero => exact ⟨h, hv⟩
  | succ k ih => exact zs_BV_cell ih.1 ih.2 (n + k) (i + k)
end
section
-- PART 05: every cell of the row is what its rules say of those ahead of it
def zs_A (g h : Nat → Nat → Nat) (i m : Nat) : Prop := (∀ k j, j < i → g k j = h k j) ∧ ∀ k, k ≤ m → g k i = h k i
theorem zs_A.le {g h : Nat → Nat → Nat} {i m m' : Nat} (a : zs_A g h i m) (hm : m' ≤ m) : zs_A g h i m' := ⟨a.1, fun k hk => a.2 k (by omega)⟩
theorem zq_slot {g h : Nat → Nat → Nat} {i m : Nat} (a : zs_A g h i m) : zs_slot g i = zs_slot h i := by
  unfold zs_slot
  by_cases hi : 0 < i
  · rw [a.1 1 (i - 1) (by omega), a.1 9 (i - 1) (by omega)]
  · simp [hi]
theorem zq_bslot {g h : Nat → Nat → Nat} {i m : Nat} (a : zs_A g h i m) : zs_bslot g i = zs_bslot h i := by
  unfold zs_bslot
  by_cases hi : 1 < i
  · rw [a.1 8 (i - 1) (by omega)]
  · simp [hi]
theorem zq_bslot0 {g : Nat → Nat → Nat} {i : Nat} (hi : ¬ 1 < i) : zs_bslot g i = 0 := by
  unfold zs_bslot; simp [hi]
theorem zq_fail {g h : Nat → Nat → Nat} {i m : Nat} (a : zs_A g h i m) (hm : 8 ≤ m) : zs_fail g i = zs_fail h i := by
  unfold zs_fail
  rw [a.2 7 (by omega), a.2 1 (by omega), a.2 8 (by omega)]
theorem zq_lies {g h : Nat → Nat → Nat} {i m : Nat} (a : zs_A g h i m) : zs_lies g i = zs_lies h i := by
  unfold zs_lies
  rw [zq_bslot a]
  by_cases hi : 0 < i
  · by_cases h1 : 1 < i
    · rw [a.1 9 (i - 1) (by omega), a.1 6 (i - 2) (by omega)]
    · rw [a.1 9 (i - 1) (by omega), zq_bslot0 h1]; simp
  · simp [hi]
theorem zq_bfs {g h : Nat → Nat → Nat} {i m : Nat} (a : zs_A g h i m) : zs_bfs g i = zs_bfs h i := by
  unfold zs_bfs
  by_cases hi : 0 < i
  · rw [a.1 9 (i - 1) (by omega), a.1 1 (i - 1) (by omega)]
  · simp [hi]
theorem zq_bsm {g h : Nat → Nat → Nat} {i m : Nat} (a : zs_A g h i m) : zs_bsm g i = zs_bsm h i := by
  unfold zs_bsm
  rw [zq_bslot a]
  by_cases h1 : 1 < i
  · unfold zs_missed
    rw [a.1 5 (i - 2) (by omega), a.1 6 (i - 2) (by omega)]
  · rw [zq_bslot0 h1]; simp
theorem zq_redir {g h : Nat → Nat → Nat} {i m : Nat} (a : zs_A g h i m) : zs_redir g i = zs_redir h i := by
  unfold zs_redir; rw [zq_bfs a, zq_bsm a]
theorem zq_joins {g h : Nat → Nat → Nat} {i m : Nat} (a : zs_A g h i m) : zs_joins g i = zs_joins h i := by
  unfold zs_joins
  rw [zq_lies a, zq_redir a, zq_bslot a]
  by_cases hi : i = 0
  · simp [hi]
  · rw [a.1 10 (i - 1) (by omega)]
    by_cases h1 : 1 < i
    · rw [a.1 5 (i - 2) (by omega)]
    · rw [zq_bslot0 h1]; simp
theorem zq_begin {g h : Nat → Nat → Nat} {i m : Nat} (a : zs_A g h i m) : zs_begin g i = zs_begin h i := by
  unfold zs_begin; rw [zq_joins a]
theorem zq_fetch {g h : Nat → Nat → Nat} {i m : Nat} (a : zs_A g h i m) (hm : 10 ≤ m) : zs_fetch g i = zs_fetch h i := by
  unfold zs_fetch
  by_cases hi : i = 0
  · simp [hi]
  · rw [a.2 10 (by omega), a.1 11 (i - 1) (by omega), a.1 12 (i - 5) (by omega), a.1 13 (i - 1) (by omega), a.1 12 (i - 2) (by omega), zq_bfs a, zq_bsm a]
theorem zq_pair {g h : Nat → Nat → Nat} {i m : Nat} (a : zs_A g h i m) (hm : 4 ≤ m) : zs_pair g i = zs_pair h i := by
  unfold zs_pair zs_reads
  by_cases hi : i = 0
  · simp [hi]
  · rw [a.1 1 (i - 1) (by omega), a.1 2 (i - 1) (by omega), a.2 1 (by omega), a.2 3 (by omega), a.2 4 (by omega)]
theorem zq_order {g h : Nat → Nat → Nat} {i m : Nat} (a : zs_A g h i m) (hm : 4 ≤ m) : zs_order g i = zs_order h i := by
  unfold zs_order
  by_cases hi : i = 0
  · simp [hi]
  · rw [a.1 12 (i - 1) (by omega), a.1 12 (i - 2) (by omega), zq_pair a hm]
theorem zq_wr {g h : Nat → Nat → Nat} {i : Nat} (a : ∀ k j, j < i → g k j = h k j) (r : Nat) : zs_wr g r i = zs_wr h r i := by
  induction i with
  | zero => rfl
  | succ i ih =>
    unfold zs_wr
    rw [a 2 i (by omega), a 9 i (by omega), a 12 i (by omega), a 1 i (by omega), ih (fun k j hj => a k j (by omega))]
theorem zq_div {g h : Nat → Nat → Nat} {i : Nat} (a : ∀ k j, j < i → g k j = h k j) : zs_div g i = zs_div h i := by
  induction i with
  | zero => rfl
  | succ i ih =>
    unfold zs_div
    rw [a 1 i (by omega), a 12 i (by omega), ih (fun k j hj => a k j (by omega))]
theorem zq_dbef {g h : Nat → Nat → Nat} {i : Nat} (a : ∀ k j, j < i → g k j = h k j) : zs_dbef g i = zs_dbef h i := by
  unfold zs_dbef
  by_cases hi : 0 < i
  · rw [a 13 (i - 1) (by omega)]
  · simp [hi]
theorem zq_issue {g h : Nat → Nat → Nat} {i m : Nat} (a : zs_A g h i m) (hm : 11 ≤ m) : zs_issue g i = zs_issue h i := by
  unfold zs_issue zs_readable
  rw [a.2 11 (by omega), a.2 3 (by omega), a.2 4 (by omega), a.2 1 (by omega), zq_order a (by omega), zq_wr a.1, zq_wr a.1, zq_div a.1, zq_dbef a.1]
theorem zq_done {g h : Nat → Nat → Nat} {i m : Nat} (a : zs_A g h i m) (hm : 12 ≤ m) : zs_done g i = zs_done h i := by
  unfold zs_done
  rw [a.2 12 (by omega), a.2 1 (by omega), a.2 9 (by omega), zq_dbef a.1]
  by_cases h1 : 1 < i
  · rw [a.1 13 (i - 2) (by omega)]
  · simp [h1]
/-- the cell j is what the rules say -/
def zs_ok (g : Nat → Nat → Nat) (j : Nat) : Prop := g 8 j = zs_slot g j ∧ g 9 j = zs_fail g j ∧ g 10 j = zs_begin g j ∧ g 11 j = zs_fetch g j ∧ g 12 j = zs_issue g j ∧ g 13 j = zs_done g j
def zs_I (n : Nat) (g : Nat → Nat → Nat) : Prop := ∀ j, j < n → zs_ok g j
theorem zs_ok_c {g h : Nat → Nat → Nat} {j m : Nat} (a : zs_A g h j m) (hm : 13 ≤ m) (o : zs_ok g j) : zs_ok h j := by
  obtain ⟨o1, o2, o3, o4, o5, o6⟩ := o
  refine ⟨?_, ?_, ?_, ?_, ?_, ?_⟩
  · rw [← a.2 8 (by omega), o1, zq_slot a]
  · rw [← a.2 9 (by omega), o2, zq_fail a (by omega)]
  · rw [← a.2 10 (by omega), o3, zq_begin a]
  · rw [← a.2 11 (by omega), o4, zq_fetch a (by omega)]
  · rw [← a.2 12 (by omega), o5, zq_issue a (by omega)]
  · rw [← a.2 13 (by omega), o6, zq_done a (by omega)]
theorem zs_I_c {g h : Nat → Nat → Nat} {n : Nat} (a : ∀ k j, k ≤ 13 → j < n → g k j = h k j) (b : ∀ k j, j < n → g k j = h k j) (o : zs_I n g) : zs_I n h :=
  fun j hj => zs_ok_c (m := 13) ⟨fun k i hi => b k i (by omega), fun k hk => b k j hj⟩ (Nat.le_refl _) (o j hj)
theorem zs_settle_ok (g : Nat → Nat → Nat) (i : Nat) : zs_ok (zs_settle g i) i := by
  have c5 : ∀ k j, (k ≠ 13 ∨ j ≠ i) → zs_s5 g i k j = zs_settle g i k j := fun k j h => (zs_settle_nn h).symm
  have c4 : ∀ k j, (k ≤ 11 ∨ j ≠ i) → zs_s4 g i k j = zs_settle g i k j := fun k j h => ((zs_s5_nn (show k ≠ 12 ∨ j ≠ i by omega)).symm).trans (c5 k j (by omega))
  have c3 : ∀ k j, (k ≤ 10 ∨ j ≠ i) → zs_s3 g i k j = zs_settle g i k j := fun k j h => ((zs_s4_nn (show k ≠ 11 ∨ j ≠ i by omega)).symm).trans (c4 k j (by omega))
  have c2 : ∀ k j, (k ≤ 9 ∨ j ≠ i) → zs_s2 g i k j = zs_settle g i k j := fun k j h => ((zs_s3_nn (show k ≠ 10 ∨ j ≠ i by omega)).symm).trans (c3 k j (by omega))
  have c1 : ∀ k j, (k ≤ 8 ∨ j ≠ i) → zs_s1 g i k j = zs_settle g i k j := fun k j h => ((zs_s2_nn (show k ≠ 9 ∨ j ≠ i by omega)).symm).trans (c2 k j (by omega))
  have c0 : ∀ k j, (k ≤ 7 ∨ j ≠ i) → g k j = zs_settle g i k j := fun k j h => ((zs_s1_nn (show k ≠ 8 ∨ j ≠ i by omega)).symm).trans (c1 k j (by omega))
  refine ⟨?_, ?_, ?_, ?_, ?_, ?_⟩
  · rw [← c1 8 i (by omega)]
    exact (zs_s1_at g i).trans (zq_slot (m := 7) ⟨fun k j hj => c0 k j (by omega), fun k hk => c0 k i (by omega)⟩)
  · rw [← c2 9 i (by omega)]
    exact (zs_s2_at g i).trans (zq_fail (m := 8) ⟨fun k j hj => c1 k j (by omega), fun k hk => c1 k i (by omega)⟩ (by omega))
  · rw [← c3 10 i (by omega)]
    exact (zs_s3_at g i).trans (zq_begin (m := 9) ⟨fun k j hj => c2 k j (by omega), fun k hk => c2 k i (by omega)⟩)
  · rw [← c4 11 i (by omega)]
    exact (zs_s4_at g i).trans (zq_fetch (m := 10) ⟨fun k j hj => c3 k j (by omega), fun k hk => c3 k i (by omega)⟩ (by omega))
  · rw [← c5 12 i (by omega)]
    exact (zs_s5_at g i).trans (zq_issue (m := 11) ⟨fun k j hj => c4 k j (by omega), fun k hk => c4 k i (by omega)⟩ (by omega))
  · exact (zs_settle_at g i).trans (zq_done (m := 12) ⟨fun k j hj => c5 k j (by omega), fun k hk => c5 k i (by omega)⟩ (by omega))
theorem zs_I_settle {g : Nat → Nat → Nat} {i : Nat} (o : zs_I i g) : zs_I (i + 1) (zs_settle g i) := by
  intro j hj
  by_cases h : j = i
  · subst h; exact zs_settle_ok g j
  · exact zs_I_c (fun k j _ hj => (zs_settle_ne (Or.inl (by omega))).symm) (fun k j hj => (zs_settle_ne (Or.inl (by omega))).symm) o j (by omega)
theorem zs_I_append {g : Nat → Nat → Nat} {n k d a b f go : Nat} (o : zs_I n g) : zs_I (n + 1) (zs_append g n k d a b f go) :=
  zs_I_settle (zs_I_c (fun x j _ hj => (zs_put_ne (Or.inl (by omega))).symm) (fun x j hj => (zs_put_ne (Or.inl (by omega))).symm) o)
theorem zs_I_failLast {g : Nat → Nat → Nat} {n : Nat} (hn : 0 < n) (o : zs_I n g) : zs_I n (zs_failLast g (n - 1)) := by
  have h : zs_I (n - 1 + 1) (zs_failLast g (n - 1)) := zs_I_settle (zs_I_c (g := g) (fun x j _ hj => (zs_up_ne (g := g) (k := 7) (j := n - 1) (v := 1) (Or.inr (by omega))).symm) (fun x j hj => (zs_up_ne (g := g) (k := 7) (j := n - 1) (v := 1) (Or.inr (by omega))).symm) (fun j hj => o j (by omega)))
  rw [show n - 1 + 1 = n by omega] at h
  exact h
theorem zs_I_cell {g : Nat → Nat → Nat} {n : Nat} (o : zs_I n g) (j : Nat) : zs_I (n + 1) (zs_cell g n j) := by
  unfold zs_cell
  dsimp only
  split
  · exact zs_I_append o
  · have h := zs_I_failLast (n := n + 1) (by omega) (zs_I_append (k := g 1 j) (d := g 2 j) (a := g 3 j) (b := g 4 j) (f := g 5 j) (go := g 6 j) o)
    rw [show n + 1 - 1 = n by omega] at h
    exact h
theorem zs_I_again {g : Nat → Nat → Nat} {n : Nat} (o : zs_I n g) (i k : Nat) : zs_I (n + k) (zs_again g n i k) := by
  induction k with
  | zero => exact o
  | succ k ih => exact zs_I_cell ih (i + k)
theorem zs_mono {g : Nat → Nat → Nat} {n : Nat} (o : zs_I n g) (k : Nat) (hk : k < n) : zs_dbef g k ≤ g 13 k := by
  rw [(o k hk).2.2.2.2.2]
  unfold zs_done; (repeat' split) <;> omega
end
section
theorem dX0_init_0 : decode cX0_init 0 = .ok (.aload_n 0, 1) := by decide +kernel
theorem dX0_init_1 : decode cX0_init 1 = .ok (.invokespecial 1, 3) := by decide +kernel
theorem dX0_init_4 : decode cX0_init 4 = .ok (.aload_n 0, 1) := by decide +kernel
theorem dX0_init_5 : decode cX0_init 5 = .ok (.iconst 0, 1) := by decide +kernel
theorem dX0_init_6 : decode cX0_init 6 = .ok (.putfield 7, 3) := by decide +kernel
theorem dX0_init_9 : decode cX0_init 9 = .ok (.aload_n 0, 1) := by decide +kernel
theorem dX0_init_10 : decode cX0_init 10 = .ok (.sipush 400, 3) := by decide +kernel
theorem dX0_init_13 : decode cX0_init 13 = .ok (.newarray .int, 2) := by decide +kernel
theorem dX0_init_15 : decode cX0_init 15 = .ok (.putfield 13, 3) := by decide +kernel
theorem dX0_init_18 : decode cX0_init 18 = .ok (.aload_n 0, 1) := by decide +kernel
theorem dX0_init_19 : decode cX0_init 19 = .ok (.sipush 400, 3) := by decide +kernel
theorem dX0_init_22 : decode cX0_init 22 = .ok (.newarray .int, 2) := by decide +kernel
theorem dX0_init_24 : decode cX0_init 24 = .ok (.putfield 17, 3) := by decide +kernel
theorem dX0_init_27 : decode cX0_init 27 = .ok (.aload_n 0, 1) := by decide +kernel
theorem dX0_init_28 : decode cX0_init 28 = .ok (.sipush 400, 3) := by decide +kernel
theorem dX0_init_31 : decode cX0_init 31 = .ok (.newarray .int, 2) := by decide +kernel
theorem dX0_init_33 : decode cX0_init 33 = .ok (.putfield 20, 3) := by decide +kernel
theorem dX0_init_36 : decode cX0_init 36 = .ok (.aload_n 0, 1) := by decide +kernel
theorem dX0_init_37 : decode cX0_init 37 = .ok (.sipush 400, 3) := by decide +kernel
theorem dX0_init_40 : decode cX0_init 40 = .ok (.newarray .int, 2) := by decide +kernel
theorem dX0_init_42 : decode cX0_init 42 = .ok (.putfield 23, 3) := by decide +kernel
theorem dX0_init_45 : decode cX0_init 45 = .ok (.aload_n 0, 1) := by decide +kernel
theorem dX0_init_46 : decode cX0_init 46 = .ok (.sipush 400, 3) := by decide +kernel
theorem dX0_init_49 : decode cX0_init 49 = .ok (.newarray .int, 2) := by decide +kernel
theorem dX0_init_51 : decode cX0_init 51 = .ok (.putfield 26, 3) := by decide +kernel
theorem dX0_init_54 : decode cX0_init 54 = .ok (.aload_n 0, 1) := by decide +kernel
theorem dX0_init_55 : decode cX0_init 55 = .ok (.sipush 400, 3) := by decide +kernel
theorem dX0_init_58 : decode cX0_init 58 = .ok (.newarray .boolean, 2) := by decide +kernel
theorem dX0_init_60 : decode cX0_init 60 = .ok (.putfield 29, 3) := by decide +kernel
theorem dX0_init_63 : decode cX0_init 63 = .ok (.aload_n 0, 1) := by decide +kernel
theorem dX0_init_64 : decode cX0_init 64 = .ok (.sipush 400, 3) := by decide +kernel
theorem dX0_init_67 : decode cX0_init 67 = .ok (.newarray .boolean, 2) := by decide +kernel
theorem dX0_init_69 : decode cX0_init 69 = .ok (.putfield 33, 3) := by decide +kernel
theorem dX0_init_72 : decode cX0_init 72 = .ok (.aload_n 0, 1) := by decide +kernel
theorem dX0_init_73 : decode cX0_init 73 = .ok (.sipush 400, 3) := by decide +kernel
theorem dX0_init_76 : decode cX0_init 76 = .ok (.newarray .boolean, 2) := by decide +kernel
theorem dX0_init_78 : decode cX0_init 78 = .ok (.putfield 36, 3) := by decide +kernel
theorem dX0_init_81 : decode cX0_init 81 = .ok (.aload_n 0, 1) := by decide +kernel
theorem dX0_init_82 : decode cX0_init 82 = .ok (.sipush 400, 3) := by decide +kernel
theorem dX0_init_85 : decode cX0_init 85 = .ok (.newarray .boolean, 2) := by decide +kernel
theorem dX0_init_87 : decode cX0_init 87 = .ok (.putfield 39, 3) := by decide +kernel
theorem dX0_init_90 : decode cX0_init 90 = .ok (.aload_n 0, 1) := by decide +kernel
theorem dX0_init_91 : decode cX0_init 91 = .ok (.sipush 400, 3) := by decide +kernel
theorem dX0_init_94 : decode cX0_init 94 = .ok (.newarray .boolean, 2) := by decide +kernel
theorem dX0_init_96 : decode cX0_init 96 = .ok (.putfield 42, 3) := by decide +kernel
theorem dX0_init_99 : decode cX0_init 99 = .ok (.aload_n 0, 1) := by decide +kernel
theorem dX0_init_100 : decode cX0_init 100 = .ok (.sipush 400, 3) := by decide +kernel
theorem dX0_init_103 : decode cX0_init 103 = .ok (.newarray .int, 2) := by decide +kernel
theorem dX0_init_105 : decode cX0_init 105 = .ok (.putfield 45, 3) := by decide +kernel
theorem dX0_init_108 : decode cX0_init 108 = .ok (.aload_n 0, 1) := by decide +kernel
theorem dX0_init_109 : decode cX0_init 109 = .ok (.sipush 400, 3) := by decide +kernel
theorem dX0_init_112 : decode cX0_init 112 = .ok (.newarray .int, 2) := by decide +kernel
theorem dX0_init_114 : decode cX0_init 114 = .ok (.putfield 48, 3) := by decide +kernel
theorem dX0_init_117 : decode cX0_init 117 = .ok (.aload_n 0, 1) := by decide +kernel
theorem dX0_init_118 : decode cX0_init 118 = .ok (.sipush 400, 3) := by decide +kernel
theorem dX0_init_121 : decode cX0_init 121 = .ok (.newarray .int, 2) := by decide +kernel
theorem dX0_init_123 : decode cX0_init 123 = .ok (.putfield 51, 3) := by decide +kernel
theorem dX0_init_126 : decode cX0_init 126 = .ok (.return_, 1) := by decide +kernel
theorem dX0_put_0 : decode cX0_put 0 = .ok (.iload_n 1, 1) := by decide +kernel
theorem dX0_put_1 : decode cX0_put 1 = .ok (.ifCond .lt 14, 3) := by decide +kernel
theorem dX0_put_4 : decode cX0_put 4 = .ok (.iload_n 1, 1) := by decide +kernel
theorem dX0_put_5 : decode cX0_put 5 = .ok (.bipush 7, 2) := by decide +kernel
theorem dX0_put_7 : decode cX0_put 7 = .ok (.if_icmp .gt 8, 3) := by decide +kernel
theorem dX0_put_10 : decode cX0_put 10 = .ok (.iload_n 1, 1) := by decide +kernel
theorem dX0_put_11 : decode cX0_put 11 = .ok (.iconst 5, 1) := by decide +kernel
theorem dX0_put_12 : decode cX0_put 12 = .ok (.if_icmp .ne 5, 3) := by decide +kernel
theorem dX0_put_15 : decode cX0_put 15 = .ok (.iconst (-1), 1) := by decide +kernel
theorem dX0_put_16 : decode cX0_put 16 = .ok (.ireturn, 1) := by decide +kernel
theorem dX0_put_17 : decode cX0_put 17 = .ok (.iload_n 2, 1) := by decide +kernel
theorem dX0_put_18 : decode cX0_put 18 = .ok (.invokestatic 54, 3) := by decide +kernel
theorem dX0_put_21 : decode cX0_put 21 = .ok (.ifCond .eq 18, 3) := by decide +kernel
theorem dX0_put_24 : decode cX0_put 24 = .ok (.iload_n 3, 1) := by decide +kernel
theorem dX0_put_25 : decode cX0_put 25 = .ok (.invokestatic 54, 3) := by decide +kernel
theorem dX0_put_28 : decode cX0_put 28 = .ok (.ifCond .eq 11, 3) := by decide +kernel
theorem dX0_put_31 : decode cX0_put 31 = .ok (.iload 4, 2) := by decide +kernel
theorem dX0_put_33 : decode cX0_put 33 = .ok (.invokestatic 54, 3) := by decide +kernel
theorem dX0_put_36 : decode cX0_put 36 = .ok (.ifCond .ne 5, 3) := by decide +kernel
theorem dX0_put_39 : decode cX0_put 39 = .ok (.iconst (-1), 1) := by decide +kernel
theorem dX0_put_40 : decode cX0_put 40 = .ok (.ireturn, 1) := by decide +kernel
theorem dX0_put_41 : decode cX0_put 41 = .ok (.iload_n 1, 1) := by decide +kernel
theorem dX0_put_42 : decode cX0_put 42 = .ok (.bipush 7, 2) := by decide +kernel
theorem dX0_put_44 : decode cX0_put 44 = .ok (.if_icmp .ne 18, 3) := by decide +kernel
theorem dX0_put_47 : decode cX0_put 47 = .ok (.iload_n 2, 1) := by decide +kernel
theorem dX0_put_48 : decode cX0_put 48 = .ok (.ifCond .ne 12, 3) := by decide +kernel
theorem dX0_put_51 : decode cX0_put 51 = .ok (.iload_n 3, 1) := by decide +kernel
theorem dX0_put_52 : decode cX0_put 52 = .ok (.ifCond .ne 8, 3) := by decide +kernel
theorem dX0_put_55 : decode cX0_put 55 = .ok (.iload 4, 2) := by decide +kernel
theorem dX0_put_57 : decode cX0_put 57 = .ok (.ifCond .eq 5, 3) := by decide +kernel
theorem dX0_put_60 : decode cX0_put 60 = .ok (.iconst (-1), 1) := by decide +kernel
theorem dX0_put_61 : decode cX0_put 61 = .ok (.ireturn, 1) := by decide +kernel
theorem dX0_put_62 : decode cX0_put 62 = .ok (.aload_n 0, 1) := by decide +kernel
theorem dX0_put_63 : decode cX0_put 63 = .ok (.iload_n 1, 1) := by decide +kernel
theorem dX0_put_64 : decode cX0_put 64 = .ok (.iload_n 2, 1) := by decide +kernel
theorem dX0_put_65 : decode cX0_put 65 = .ok (.iload_n 3, 1) := by decide +kernel
theorem dX0_put_66 : decode cX0_put 66 = .ok (.iload 4, 2) := by decide +kernel
theorem dX0_put_68 : decode cX0_put 68 = .ok (.iconst 0, 1) := by decide +kernel
theorem dX0_put_69 : decode cX0_put 69 = .ok (.iconst 0, 1) := by decide +kernel
theorem dX0_put_70 : decode cX0_put 70 = .ok (.invokevirtual 58, 3) := by decide +kernel
theorem dX0_put_73 : decode cX0_put 73 = .ok (.ireturn, 1) := by decide +kernel
theorem dX0_branch_0 : decode cX0_branch 0 = .ok (.iload_n 1, 1) := by decide +kernel
theorem dX0_branch_1 : decode cX0_branch 1 = .ok (.ifCond .lt 8, 3) := by decide +kernel
theorem dX0_branch_4 : decode cX0_branch 4 = .ok (.iload_n 1, 1) := by decide +kernel
theorem dX0_branch_5 : decode cX0_branch 5 = .ok (.iconst 2, 1) := by decide +kernel
theorem dX0_branch_6 : decode cX0_branch 6 = .ok (.if_icmp .le 5, 3) := by decide +kernel
theorem dX0_branch_9 : decode cX0_branch 9 = .ok (.iconst (-1), 1) := by decide +kernel
theorem dX0_branch_10 : decode cX0_branch 10 = .ok (.ireturn, 1) := by decide +kernel
theorem dX0_branch_11 : decode cX0_branch 11 = .ok (.iload_n 3, 1) := by decide +kernel
theorem dX0_branch_12 : decode cX0_branch 12 = .ok (.invokestatic 54, 3) := by decide +kernel
theorem dX0_branch_15 : decode cX0_branch 15 = .ok (.ifCond .eq 11, 3) := by decide +kernel
theorem dX0_branch_18 : decode cX0_branch 18 = .ok (.iload 4, 2) := by decide +kernel
theorem dX0_branch_20 : decode cX0_branch 20 = .ok (.invokestatic 54, 3) := by decide +kernel
theorem dX0_branch_23 : decode cX0_branch 23 = .ok (.ifCond .ne 5, 3) := by decide +kernel
theorem dX0_branch_26 : decode cX0_branch 26 = .ok (.iconst (-1), 1) := by decide +kernel
theorem dX0_branch_27 : decode cX0_branch 27 = .ok (.ireturn, 1) := by decide +kernel
theorem dX0_branch_28 : decode cX0_branch 28 = .ok (.aload_n 0, 1) := by decide +kernel
theorem dX0_branch_29 : decode cX0_branch 29 = .ok (.iconst 5, 1) := by decide +kernel
theorem dX0_branch_30 : decode cX0_branch 30 = .ok (.iload_n 3, 1) := by decide +kernel
theorem dX0_branch_31 : decode cX0_branch 31 = .ok (.iload 4, 2) := by decide +kernel
theorem dX0_branch_33 : decode cX0_branch 33 = .ok (.iconst 0, 1) := by decide +kernel
theorem dX0_branch_34 : decode cX0_branch 34 = .ok (.iload_n 1, 1) := by decide +kernel
theorem dX0_branch_35 : decode cX0_branch 35 = .ok (.iload_n 2, 1) := by decide +kernel
theorem dX0_branch_36 : decode cX0_branch 36 = .ok (.invokevirtual 58, 3) := by decide +kernel
theorem dX0_branch_39 : decode cX0_branch 39 = .ok (.ireturn, 1) := by decide +kernel
theorem dX0_fail_0 : decode cX0_fail 0 = .ok (.aload_n 0, 1) := by decide +kernel
theorem dX0_fail_1 : decode cX0_fail 1 = .ok (.getfield 7, 3) := by decide +kernel
theorem dX0_fail_4 : decode cX0_fail 4 = .ok (.ifCond .ne 5, 3) := by decide +kernel
theorem dX0_fail_7 : decode cX0_fail 7 = .ok (.iconst 0, 1) := by decide +kernel
theorem dX0_fail_8 : decode cX0_fail 8 = .ok (.ireturn, 1) := by decide +kernel
theorem dX0_fail_9 : decode cX0_fail 9 = .ok (.aload_n 0, 1) := by decide +kernel
theorem dX0_fail_10 : decode cX0_fail 10 = .ok (.invokevirtual 62, 3) := by decide +kernel
theorem dX0_fail_13 : decode cX0_fail 13 = .ok (.iconst 1, 1) := by decide +kernel
theorem dX0_fail_14 : decode cX0_fail 14 = .ok (.ireturn, 1) := by decide +kernel
theorem dX0_drop_0 : decode cX0_drop 0 = .ok (.iload_n 1, 1) := by decide +kernel
theorem dX0_drop_1 : decode cX0_drop 1 = .ok (.ifCond .lt 11, 3) := by decide +kernel
theorem dX0_drop_4 : decode cX0_drop 4 = .ok (.iload_n 1, 1) := by decide +kernel
theorem dX0_drop_5 : decode cX0_drop 5 = .ok (.aload_n 0, 1) := by decide +kernel
theorem dX0_drop_6 : decode cX0_drop 6 = .ok (.getfield 7, 3) := by decide +kernel
theorem dX0_drop_9 : decode cX0_drop 9 = .ok (.if_icmp .le 5, 3) := by decide +kernel
theorem dX0_drop_12 : decode cX0_drop 12 = .ok (.iconst 0, 1) := by decide +kernel
theorem dX0_drop_13 : decode cX0_drop 13 = .ok (.ireturn, 1) := by decide +kernel
theorem dX0_drop_14 : decode cX0_drop 14 = .ok (.aload_n 0, 1) := by decide +kernel
theorem dX0_drop_15 : decode cX0_drop 15 = .ok (.dup, 1) := by decide +kernel
theorem dX0_drop_16 : decode cX0_drop 16 = .ok (.getfield 7, 3) := by decide +kernel
theorem dX0_drop_19 : decode cX0_drop 19 = .ok (.iload_n 1, 1) := by decide +kernel
theorem dX0_drop_20 : decode cX0_drop 20 = .ok (.isub, 1) := by decide +kernel
theorem dX0_drop_21 : decode cX0_drop 21 = .ok (.putfield 7, 3) := by decide +kernel
theorem dX0_drop_24 : decode cX0_drop 24 = .ok (.iconst 1, 1) := by decide +kernel
theorem dX0_drop_25 : decode cX0_drop 25 = .ok (.ireturn, 1) := by decide +kernel
theorem dX0_clear_0 : decode cX0_clear 0 = .ok (.aload_n 0, 1) := by decide +kernel
theorem dX0_clear_1 : decode cX0_clear 1 = .ok (.iconst 0, 1) := by decide +kernel
theorem dX0_clear_2 : decode cX0_clear 2 = .ok (.putfield 7, 3) := by decide +kernel
theorem dX0_clear_5 : decode cX0_clear 5 = .ok (.return_, 1) := by decide +kernel
theorem dX0_again_0 : decode cX0_again 0 = .ok (.aload_n 0, 1) := by decide +kernel
theorem dX0_again_1 : decode cX0_again 1 = .ok (.iload_n 1, 1) := by decide +kernel
theorem dX0_again_2 : decode cX0_again 2 = .ok (.invokevirtual 65, 3) := by decide +kernel
theorem dX0_again_5 : decode cX0_again 5 = .ok (.ifCond .eq 30, 3) := by decide +kernel
theorem dX0_again_8 : decode cX0_again 8 = .ok (.iload_n 2, 1) := by decide +kernel
theorem dX0_again_9 : decode cX0_again 9 = .ok (.iconst 1, 1) := by decide +kernel
theorem dX0_again_10 : decode cX0_again 10 = .ok (.if_icmp .lt 25, 3) := by decide +kernel
theorem dX0_again_13 : decode cX0_again 13 = .ok (.iload_n 2, 1) := by decide +kernel
theorem dX0_again_14 : decode cX0_again 14 = .ok (.aload_n 0, 1) := by decide +kernel
theorem dX0_again_15 : decode cX0_again 15 = .ok (.getfield 7, 3) := by decide +kernel
theorem dX0_again_18 : decode cX0_again 18 = .ok (.iload_n 1, 1) := by decide +kernel
theorem dX0_again_19 : decode cX0_again 19 = .ok (.isub, 1) := by decide +kernel
theorem dX0_again_20 : decode cX0_again 20 = .ok (.if_icmp .gt 15, 3) := by decide +kernel
theorem dX0_again_23 : decode cX0_again 23 = .ok (.iload_n 2, 1) := by decide +kernel
theorem dX0_again_24 : decode cX0_again 24 = .ok (.sipush 400, 3) := by decide +kernel
theorem dX0_again_27 : decode cX0_again 27 = .ok (.aload_n 0, 1) := by decide +kernel
theorem dX0_again_28 : decode cX0_again 28 = .ok (.getfield 7, 3) := by decide +kernel
theorem dX0_again_31 : decode cX0_again 31 = .ok (.isub, 1) := by decide +kernel
theorem dX0_again_32 : decode cX0_again 32 = .ok (.if_icmp .le 5, 3) := by decide +kernel
theorem dX0_again_35 : decode cX0_again 35 = .ok (.iconst (-1), 1) := by decide +kernel
theorem dX0_again_36 : decode cX0_again 36 = .ok (.ireturn, 1) := by decide +kernel
theorem dX0_again_37 : decode cX0_again 37 = .ok (.iload_n 1, 1) := by decide +kernel
theorem dX0_again_38 : decode cX0_again 38 = .ok (.istore_n 3, 1) := by decide +kernel
theorem dX0_again_39 : decode cX0_again 39 = .ok (.iload_n 3, 1) := by decide +kernel
theorem dX0_again_40 : decode cX0_again 40 = .ok (.iload_n 1, 1) := by decide +kernel
theorem dX0_again_41 : decode cX0_again 41 = .ok (.iload_n 2, 1) := by decide +kernel
theorem dX0_again_42 : decode cX0_again 42 = .ok (.iadd, 1) := by decide +kernel
theorem dX0_again_43 : decode cX0_again 43 = .ok (.if_icmp .ge 63, 3) := by decide +kernel
theorem dX0_again_46 : decode cX0_again 46 = .ok (.aload_n 0, 1) := by decide +kernel
theorem dX0_again_47 : decode cX0_again 47 = .ok (.aload_n 0, 1) := by decide +kernel
theorem dX0_again_48 : decode cX0_again 48 = .ok (.getfield 13, 3) := by decide +kernel
theorem dX0_again_51 : decode cX0_again 51 = .ok (.iload_n 3, 1) := by decide +kernel
theorem dX0_again_52 : decode cX0_again 52 = .ok (.iaload, 1) := by decide +kernel
theorem dX0_again_53 : decode cX0_again 53 = .ok (.aload_n 0, 1) := by decide +kernel
theorem dX0_again_54 : decode cX0_again 54 = .ok (.getfield 17, 3) := by decide +kernel
theorem dX0_again_57 : decode cX0_again 57 = .ok (.iload_n 3, 1) := by decide +kernel
theorem dX0_again_58 : decode cX0_again 58 = .ok (.iaload, 1) := by decide +kernel
theorem dX0_again_59 : decode cX0_again 59 = .ok (.aload_n 0, 1) := by decide +kernel
theorem dX0_again_60 : decode cX0_again 60 = .ok (.getfield 20, 3) := by decide +kernel
theorem dX0_again_63 : decode cX0_again 63 = .ok (.iload_n 3, 1) := by decide +kernel
theorem dX0_again_64 : decode cX0_again 64 = .ok (.iaload, 1) := by decide +kernel
theorem dX0_again_65 : decode cX0_again 65 = .ok (.aload_n 0, 1) := by decide +kernel
theorem dX0_again_66 : decode cX0_again 66 = .ok (.getfield 23, 3) := by decide +kernel
theorem dX0_again_69 : decode cX0_again 69 = .ok (.iload_n 3, 1) := by decide +kernel
theorem dX0_again_70 : decode cX0_again 70 = .ok (.iaload, 1) := by decide +kernel
theorem dX0_again_71 : decode cX0_again 71 = .ok (.aload_n 0, 1) := by decide +kernel
theorem dX0_again_72 : decode cX0_again 72 = .ok (.getfield 26, 3) := by decide +kernel
theorem dX0_again_75 : decode cX0_again 75 = .ok (.iload_n 3, 1) := by decide +kernel
theorem dX0_again_76 : decode cX0_again 76 = .ok (.iaload, 1) := by decide +kernel
theorem dX0_again_77 : decode cX0_again 77 = .ok (.aload_n 0, 1) := by decide +kernel
theorem dX0_again_78 : decode cX0_again 78 = .ok (.getfield 29, 3) := by decide +kernel
theorem dX0_again_81 : decode cX0_again 81 = .ok (.iload_n 3, 1) := by decide +kernel
theorem dX0_again_82 : decode cX0_again 82 = .ok (.baload, 1) := by decide +kernel
theorem dX0_again_83 : decode cX0_again 83 = .ok (.invokevirtual 58, 3) := by decide +kernel
theorem dX0_again_86 : decode cX0_again 86 = .ok (.pop, 1) := by decide +kernel
theorem dX0_again_87 : decode cX0_again 87 = .ok (.aload_n 0, 1) := by decide +kernel
theorem dX0_again_88 : decode cX0_again 88 = .ok (.getfield 33, 3) := by decide +kernel
theorem dX0_again_91 : decode cX0_again 91 = .ok (.iload_n 3, 1) := by decide +kernel
theorem dX0_again_92 : decode cX0_again 92 = .ok (.baload, 1) := by decide +kernel
theorem dX0_again_93 : decode cX0_again 93 = .ok (.ifCond .eq 7, 3) := by decide +kernel
theorem dX0_again_96 : decode cX0_again 96 = .ok (.aload_n 0, 1) := by decide +kernel
theorem dX0_again_97 : decode cX0_again 97 = .ok (.invokevirtual 62, 3) := by decide +kernel
theorem dX0_again_100 : decode cX0_again 100 = .ok (.iinc 3 1, 3) := by decide +kernel
theorem dX0_again_103 : decode cX0_again 103 = .ok (.goto (-64), 3) := by decide +kernel
theorem dX0_again_106 : decode cX0_again 106 = .ok (.aload_n 0, 1) := by decide +kernel
theorem dX0_again_107 : decode cX0_again 107 = .ok (.getfield 7, 3) := by decide +kernel
theorem dX0_again_110 : decode cX0_again 110 = .ok (.ireturn, 1) := by decide +kernel
theorem dX0_time_0 : decode cX0_time 0 = .ok (.aload_n 0, 1) := by decide +kernel
theorem dX0_time_1 : decode cX0_time 1 = .ok (.iload_n 1, 1) := by decide +kernel
theorem dX0_time_2 : decode cX0_time 2 = .ok (.invokevirtual 65, 3) := by decide +kernel
theorem dX0_time_5 : decode cX0_time 5 = .ok (.ifCond .ne 5, 3) := by decide +kernel
theorem dX0_time_8 : decode cX0_time 8 = .ok (.iconst (-1), 1) := by decide +kernel
theorem dX0_time_9 : decode cX0_time 9 = .ok (.ireturn, 1) := by decide +kernel
theorem dX0_time_10 : decode cX0_time 10 = .ok (.iload_n 2, 1) := by decide +kernel
theorem dX0_time_11 : decode cX0_time 11 = .ok (.tableswitch 69 0 4 #[33, 40, 47, 54, 60], 33) := by decide +kernel
theorem dX0_time_44 : decode cX0_time 44 = .ok (.aload_n 0, 1) := by decide +kernel
theorem dX0_time_45 : decode cX0_time 45 = .ok (.getfield 45, 3) := by decide +kernel
theorem dX0_time_48 : decode cX0_time 48 = .ok (.iload_n 1, 1) := by decide +kernel
theorem dX0_time_49 : decode cX0_time 49 = .ok (.iaload, 1) := by decide +kernel
theorem dX0_time_50 : decode cX0_time 50 = .ok (.ireturn, 1) := by decide +kernel
theorem dX0_time_51 : decode cX0_time 51 = .ok (.aload_n 0, 1) := by decide +kernel
theorem dX0_time_52 : decode cX0_time 52 = .ok (.getfield 48, 3) := by decide +kernel
theorem dX0_time_55 : decode cX0_time 55 = .ok (.iload_n 1, 1) := by decide +kernel
theorem dX0_time_56 : decode cX0_time 56 = .ok (.iaload, 1) := by decide +kernel
theorem dX0_time_57 : decode cX0_time 57 = .ok (.ireturn, 1) := by decide +kernel
theorem dX0_time_58 : decode cX0_time 58 = .ok (.aload_n 0, 1) := by decide +kernel
theorem dX0_time_59 : decode cX0_time 59 = .ok (.getfield 51, 3) := by decide +kernel
theorem dX0_time_62 : decode cX0_time 62 = .ok (.iload_n 1, 1) := by decide +kernel
theorem dX0_time_63 : decode cX0_time 63 = .ok (.iaload, 1) := by decide +kernel
theorem dX0_time_64 : decode cX0_time 64 = .ok (.ireturn, 1) := by decide +kernel
theorem dX0_time_65 : decode cX0_time 65 = .ok (.aload_n 0, 1) := by decide +kernel
theorem dX0_time_66 : decode cX0_time 66 = .ok (.iload_n 1, 1) := by decide +kernel
theorem dX0_time_67 : decode cX0_time 67 = .ok (.invokevirtual 68, 3) := by decide +kernel
theorem dX0_time_70 : decode cX0_time 70 = .ok (.ireturn, 1) := by decide +kernel
theorem dX0_time_71 : decode cX0_time 71 = .ok (.aload_n 0, 1) := by decide +kernel
theorem dX0_time_72 : decode cX0_time 72 = .ok (.iload_n 1, 1) := by decide +kernel
theorem dX0_time_73 : decode cX0_time 73 = .ok (.invokevirtual 72, 3) := by decide +kernel
theorem dX0_time_76 : decode cX0_time 76 = .ok (.invokestatic 75, 3) := by decide +kernel
theorem dX0_time_79 : decode cX0_time 79 = .ok (.ireturn, 1) := by decide +kernel
theorem dX0_time_80 : decode cX0_time 80 = .ok (.iconst (-1), 1) := by decide +kernel
theorem dX0_time_81 : decode cX0_time 81 = .ok (.ireturn, 1) := by decide +kernel
theorem dX0_of_0 : decode cX0_of 0 = .ok (.aload_n 0, 1) := by decide +kernel
theorem dX0_of_1 : decode cX0_of 1 = .ok (.iload_n 1, 1) := by decide +kernel
theorem dX0_of_2 : decode cX0_of 2 = .ok (.invokevirtual 65, 3) := by decide +kernel
theorem dX0_of_5 : decode cX0_of 5 = .ok (.ifCond .ne 5, 3) := by decide +kernel
theorem dX0_of_8 : decode cX0_of 8 = .ok (.iconst (-1), 1) := by decide +kernel
theorem dX0_of_9 : decode cX0_of 9 = .ok (.ireturn, 1) := by decide +kernel
theorem dX0_of_10 : decode cX0_of 10 = .ok (.iload_n 2, 1) := by decide +kernel
theorem dX0_of_11 : decode cX0_of 11 = .ok (.tableswitch 111 0 7 #[45, 52, 59, 66, 73, 83, 93, 102], 45) := by decide +kernel
theorem dX0_of_56 : decode cX0_of 56 = .ok (.aload_n 0, 1) := by decide +kernel
theorem dX0_of_57 : decode cX0_of 57 = .ok (.getfield 13, 3) := by decide +kernel
theorem dX0_of_60 : decode cX0_of 60 = .ok (.iload_n 1, 1) := by decide +kernel
theorem dX0_of_61 : decode cX0_of 61 = .ok (.iaload, 1) := by decide +kernel
theorem dX0_of_62 : decode cX0_of 62 = .ok (.ireturn, 1) := by decide +kernel
theorem dX0_of_63 : decode cX0_of 63 = .ok (.aload_n 0, 1) := by decide +kernel
theorem dX0_of_64 : decode cX0_of 64 = .ok (.getfield 17, 3) := by decide +kernel
theorem dX0_of_67 : decode cX0_of 67 = .ok (.iload_n 1, 1) := by decide +kernel
theorem dX0_of_68 : decode cX0_of 68 = .ok (.iaload, 1) := by decide +kernel
theorem dX0_of_69 : decode cX0_of 69 = .ok (.ireturn, 1) := by decide +kernel
theorem dX0_of_70 : decode cX0_of 70 = .ok (.aload_n 0, 1) := by decide +kernel
theorem dX0_of_71 : decode cX0_of 71 = .ok (.getfield 20, 3) := by decide +kernel
theorem dX0_of_74 : decode cX0_of 74 = .ok (.iload_n 1, 1) := by decide +kernel
theorem dX0_of_75 : decode cX0_of 75 = .ok (.iaload, 1) := by decide +kernel
theorem dX0_of_76 : decode cX0_of 76 = .ok (.ireturn, 1) := by decide +kernel
theorem dX0_of_77 : decode cX0_of 77 = .ok (.aload_n 0, 1) := by decide +kernel
theorem dX0_of_78 : decode cX0_of 78 = .ok (.getfield 23, 3) := by decide +kernel
theorem dX0_of_81 : decode cX0_of 81 = .ok (.iload_n 1, 1) := by decide +kernel
theorem dX0_of_82 : decode cX0_of 82 = .ok (.iaload, 1) := by decide +kernel
theorem dX0_of_83 : decode cX0_of 83 = .ok (.ireturn, 1) := by decide +kernel
theorem dX0_of_84 : decode cX0_of 84 = .ok (.aload_n 0, 1) := by decide +kernel
theorem dX0_of_85 : decode cX0_of 85 = .ok (.getfield 39, 3) := by decide +kernel
theorem dX0_of_88 : decode cX0_of 88 = .ok (.iload_n 1, 1) := by decide +kernel
theorem dX0_of_89 : decode cX0_of 89 = .ok (.baload, 1) := by decide +kernel
theorem dX0_of_90 : decode cX0_of 90 = .ok (.invokestatic 75, 3) := by decide +kernel
theorem dX0_of_93 : decode cX0_of 93 = .ok (.ireturn, 1) := by decide +kernel
theorem dX0_of_94 : decode cX0_of 94 = .ok (.aload_n 0, 1) := by decide +kernel
theorem dX0_of_95 : decode cX0_of 95 = .ok (.getfield 36, 3) := by decide +kernel
theorem dX0_of_98 : decode cX0_of 98 = .ok (.iload_n 1, 1) := by decide +kernel
theorem dX0_of_99 : decode cX0_of 99 = .ok (.baload, 1) := by decide +kernel
theorem dX0_of_100 : decode cX0_of 100 = .ok (.invokestatic 75, 3) := by decide +kernel
theorem dX0_of_103 : decode cX0_of 103 = .ok (.ireturn, 1) := by decide +kernel
theorem dX0_of_104 : decode cX0_of 104 = .ok (.aload_n 0, 1) := by decide +kernel
theorem dX0_of_105 : decode cX0_of 105 = .ok (.iload_n 1, 1) := by decide +kernel
theorem dX0_of_106 : decode cX0_of 106 = .ok (.invokevirtual 79, 3) := by decide +kernel
theorem dX0_of_109 : decode cX0_of 109 = .ok (.invokestatic 75, 3) := by decide +kernel
theorem dX0_of_112 : decode cX0_of 112 = .ok (.ireturn, 1) := by decide +kernel
theorem dX0_of_113 : decode cX0_of 113 = .ok (.aload_n 0, 1) := by decide +kernel
theorem dX0_of_114 : decode cX0_of 114 = .ok (.iload_n 1, 1) := by decide +kernel
theorem dX0_of_115 : decode cX0_of 115 = .ok (.invokevirtual 82, 3) := by decide +kernel
theorem dX0_of_118 : decode cX0_of 118 = .ok (.invokestatic 75, 3) := by decide +kernel
theorem dX0_of_121 : decode cX0_of 121 = .ok (.ireturn, 1) := by decide +kernel
theorem dX0_of_122 : decode cX0_of 122 = .ok (.iconst (-1), 1) := by decide +kernel
theorem dX0_of_123 : decode cX0_of 123 = .ok (.ireturn, 1) := by decide +kernel
theorem dX0_stage_0 : decode cX0_stage 0 = .ok (.aload_n 0, 1) := by decide +kernel
theorem dX0_stage_1 : decode cX0_stage 1 = .ok (.iload_n 1, 1) := by decide +kernel
theorem dX0_stage_2 : decode cX0_stage 2 = .ok (.invokevirtual 65, 3) := by decide +kernel
theorem dX0_stage_5 : decode cX0_stage 5 = .ok (.ifCond .eq 7, 3) := by decide +kernel
theorem dX0_stage_8 : decode cX0_stage 8 = .ok (.iload_n 2, 1) := by decide +kernel
theorem dX0_stage_9 : decode cX0_stage 9 = .ok (.ifCond .ge 5, 3) := by decide +kernel
theorem dX0_stage_12 : decode cX0_stage 12 = .ok (.iconst (-1), 1) := by decide +kernel
theorem dX0_stage_13 : decode cX0_stage 13 = .ok (.ireturn, 1) := by decide +kernel
theorem dX0_stage_14 : decode cX0_stage 14 = .ok (.aload_n 0, 1) := by decide +kernel
theorem dX0_stage_15 : decode cX0_stage 15 = .ok (.iload_n 1, 1) := by decide +kernel
theorem dX0_stage_16 : decode cX0_stage 16 = .ok (.iload_n 2, 1) := by decide +kernel
theorem dX0_stage_17 : decode cX0_stage 17 = .ok (.invokevirtual 85, 3) := by decide +kernel
theorem dX0_stage_20 : decode cX0_stage 20 = .ok (.ireturn, 1) := by decide +kernel
theorem dX0_many_0 : decode cX0_many 0 = .ok (.iload_n 1, 1) := by decide +kernel
theorem dX0_many_1 : decode cX0_many 1 = .ok (.ifCond .lt 12, 3) := by decide +kernel
theorem dX0_many_4 : decode cX0_many 4 = .ok (.iload_n 1, 1) := by decide +kernel
theorem dX0_many_5 : decode cX0_many 5 = .ok (.iconst 3, 1) := by decide +kernel
theorem dX0_many_6 : decode cX0_many 6 = .ok (.if_icmp .gt 7, 3) := by decide +kernel
theorem dX0_many_9 : decode cX0_many 9 = .ok (.iload_n 2, 1) := by decide +kernel
theorem dX0_many_10 : decode cX0_many 10 = .ok (.ifCond .ge 5, 3) := by decide +kernel
theorem dX0_many_13 : decode cX0_many 13 = .ok (.iconst (-1), 1) := by decide +kernel
theorem dX0_many_14 : decode cX0_many 14 = .ok (.ireturn, 1) := by decide +kernel
theorem dX0_many_15 : decode cX0_many 15 = .ok (.iconst 0, 1) := by decide +kernel
theorem dX0_many_16 : decode cX0_many 16 = .ok (.istore_n 3, 1) := by decide +kernel
theorem dX0_many_17 : decode cX0_many 17 = .ok (.iconst 0, 1) := by decide +kernel
end
section
theorem dX0_many_18 : decode cX0_many 18 = .ok (.istore 4, 2) := by decide +kernel
theorem dX0_many_20 : decode cX0_many 20 = .ok (.iload 4, 2) := by decide +kernel
theorem dX0_many_22 : decode cX0_many 22 = .ok (.aload_n 0, 1) := by decide +kernel
theorem dX0_many_23 : decode cX0_many 23 = .ok (.getfield 7, 3) := by decide +kernel
theorem dX0_many_26 : decode cX0_many 26 = .ok (.if_icmp .ge 23, 3) := by decide +kernel
theorem dX0_many_29 : decode cX0_many 29 = .ok (.aload_n 0, 1) := by decide +kernel
theorem dX0_many_30 : decode cX0_many 30 = .ok (.iload 4, 2) := by decide +kernel
theorem dX0_many_32 : decode cX0_many 32 = .ok (.iload_n 2, 1) := by decide +kernel
theorem dX0_many_33 : decode cX0_many 33 = .ok (.invokevirtual 85, 3) := by decide +kernel
theorem dX0_many_36 : decode cX0_many 36 = .ok (.iload_n 1, 1) := by decide +kernel
theorem dX0_many_37 : decode cX0_many 37 = .ok (.if_icmp .ne 6, 3) := by decide +kernel
theorem dX0_many_40 : decode cX0_many 40 = .ok (.iinc 3 1, 3) := by decide +kernel
theorem dX0_many_43 : decode cX0_many 43 = .ok (.iinc 4 1, 3) := by decide +kernel
theorem dX0_many_46 : decode cX0_many 46 = .ok (.goto (-26), 3) := by decide +kernel
theorem dX0_many_49 : decode cX0_many 49 = .ok (.iload_n 3, 1) := by decide +kernel
theorem dX0_many_50 : decode cX0_many 50 = .ok (.ireturn, 1) := by decide +kernel
theorem dX0_look_0 : decode cX0_look 0 = .ok (.iload_n 1, 1) := by decide +kernel
theorem dX0_look_1 : decode cX0_look 1 = .ok (.tableswitch 82 0 6 #[43, 48, 57, 62, 67, 72, 77], 43) := by decide +kernel
theorem dX0_look_44 : decode cX0_look 44 = .ok (.aload_n 0, 1) := by decide +kernel
theorem dX0_look_45 : decode cX0_look 45 = .ok (.getfield 7, 3) := by decide +kernel
theorem dX0_look_48 : decode cX0_look 48 = .ok (.ireturn, 1) := by decide +kernel
theorem dX0_look_49 : decode cX0_look 49 = .ok (.aload_n 0, 1) := by decide +kernel
theorem dX0_look_50 : decode cX0_look 50 = .ok (.aload_n 0, 1) := by decide +kernel
theorem dX0_look_51 : decode cX0_look 51 = .ok (.getfield 7, 3) := by decide +kernel
theorem dX0_look_54 : decode cX0_look 54 = .ok (.invokevirtual 89, 3) := by decide +kernel
theorem dX0_look_57 : decode cX0_look 57 = .ok (.ireturn, 1) := by decide +kernel
theorem dX0_look_58 : decode cX0_look 58 = .ok (.aload_n 0, 1) := by decide +kernel
theorem dX0_look_59 : decode cX0_look 59 = .ok (.invokevirtual 92, 3) := by decide +kernel
theorem dX0_look_62 : decode cX0_look 62 = .ok (.ireturn, 1) := by decide +kernel
theorem dX0_look_63 : decode cX0_look 63 = .ok (.aload_n 0, 1) := by decide +kernel
theorem dX0_look_64 : decode cX0_look 64 = .ok (.invokevirtual 96, 3) := by decide +kernel
theorem dX0_look_67 : decode cX0_look 67 = .ok (.ireturn, 1) := by decide +kernel
theorem dX0_look_68 : decode cX0_look 68 = .ok (.aload_n 0, 1) := by decide +kernel
theorem dX0_look_69 : decode cX0_look 69 = .ok (.invokevirtual 99, 3) := by decide +kernel
theorem dX0_look_72 : decode cX0_look 72 = .ok (.ireturn, 1) := by decide +kernel
theorem dX0_look_73 : decode cX0_look 73 = .ok (.aload_n 0, 1) := by decide +kernel
theorem dX0_look_74 : decode cX0_look 74 = .ok (.invokevirtual 102, 3) := by decide +kernel
theorem dX0_look_77 : decode cX0_look 77 = .ok (.ireturn, 1) := by decide +kernel
theorem dX0_look_78 : decode cX0_look 78 = .ok (.aload_n 0, 1) := by decide +kernel
theorem dX0_look_79 : decode cX0_look 79 = .ok (.invokevirtual 105, 3) := by decide +kernel
theorem dX0_look_82 : decode cX0_look 82 = .ok (.ireturn, 1) := by decide +kernel
theorem dX0_look_83 : decode cX0_look 83 = .ok (.iconst (-1), 1) := by decide +kernel
theorem dX0_look_84 : decode cX0_look 84 = .ok (.ireturn, 1) := by decide +kernel
theorem dX0_isRegister_0 : decode cX0_isRegister 0 = .ok (.iload_n 0, 1) := by decide +kernel
theorem dX0_isRegister_1 : decode cX0_isRegister 1 = .ok (.ifCond .lt 13, 3) := by decide +kernel
theorem dX0_isRegister_4 : decode cX0_isRegister 4 = .ok (.iload_n 0, 1) := by decide +kernel
theorem dX0_isRegister_5 : decode cX0_isRegister 5 = .ok (.bipush 31, 2) := by decide +kernel
theorem dX0_isRegister_7 : decode cX0_isRegister 7 = .ok (.if_icmp .gt 7, 3) := by decide +kernel
theorem dX0_isRegister_10 : decode cX0_isRegister 10 = .ok (.iconst 1, 1) := by decide +kernel
theorem dX0_isRegister_11 : decode cX0_isRegister 11 = .ok (.goto 4, 3) := by decide +kernel
theorem dX0_isRegister_14 : decode cX0_isRegister 14 = .ok (.iconst 0, 1) := by decide +kernel
theorem dX0_isRegister_15 : decode cX0_isRegister 15 = .ok (.ireturn, 1) := by decide +kernel
theorem dX0_isInstruction_0 : decode cX0_isInstruction 0 = .ok (.iload_n 1, 1) := by decide +kernel
theorem dX0_isInstruction_1 : decode cX0_isInstruction 1 = .ok (.ifCond .lt 15, 3) := by decide +kernel
theorem dX0_isInstruction_4 : decode cX0_isInstruction 4 = .ok (.iload_n 1, 1) := by decide +kernel
theorem dX0_isInstruction_5 : decode cX0_isInstruction 5 = .ok (.aload_n 0, 1) := by decide +kernel
theorem dX0_isInstruction_6 : decode cX0_isInstruction 6 = .ok (.getfield 7, 3) := by decide +kernel
theorem dX0_isInstruction_9 : decode cX0_isInstruction 9 = .ok (.if_icmp .ge 7, 3) := by decide +kernel
theorem dX0_isInstruction_12 : decode cX0_isInstruction 12 = .ok (.iconst 1, 1) := by decide +kernel
theorem dX0_isInstruction_13 : decode cX0_isInstruction 13 = .ok (.goto 4, 3) := by decide +kernel
theorem dX0_isInstruction_16 : decode cX0_isInstruction 16 = .ok (.iconst 0, 1) := by decide +kernel
theorem dX0_isInstruction_17 : decode cX0_isInstruction 17 = .ok (.ireturn, 1) := by decide +kernel
theorem dX0_oneIf_0 : decode cX0_oneIf 0 = .ok (.iload_n 0, 1) := by decide +kernel
theorem dX0_oneIf_1 : decode cX0_oneIf 1 = .ok (.ifCond .eq 7, 3) := by decide +kernel
theorem dX0_oneIf_4 : decode cX0_oneIf 4 = .ok (.iconst 1, 1) := by decide +kernel
theorem dX0_oneIf_5 : decode cX0_oneIf 5 = .ok (.goto 4, 3) := by decide +kernel
theorem dX0_oneIf_8 : decode cX0_oneIf 8 = .ok (.iconst 0, 1) := by decide +kernel
theorem dX0_oneIf_9 : decode cX0_oneIf 9 = .ok (.ireturn, 1) := by decide +kernel
theorem dX0_append_0 : decode cX0_append 0 = .ok (.aload_n 0, 1) := by decide +kernel
theorem dX0_append_1 : decode cX0_append 1 = .ok (.getfield 7, 3) := by decide +kernel
theorem dX0_append_4 : decode cX0_append 4 = .ok (.sipush 400, 3) := by decide +kernel
theorem dX0_append_7 : decode cX0_append 7 = .ok (.if_icmp .lt 5, 3) := by decide +kernel
theorem dX0_append_10 : decode cX0_append 10 = .ok (.iconst (-1), 1) := by decide +kernel
theorem dX0_append_11 : decode cX0_append 11 = .ok (.ireturn, 1) := by decide +kernel
theorem dX0_append_12 : decode cX0_append 12 = .ok (.aload_n 0, 1) := by decide +kernel
theorem dX0_append_13 : decode cX0_append 13 = .ok (.getfield 7, 3) := by decide +kernel
theorem dX0_append_16 : decode cX0_append 16 = .ok (.istore 7, 2) := by decide +kernel
theorem dX0_append_18 : decode cX0_append 18 = .ok (.aload_n 0, 1) := by decide +kernel
theorem dX0_append_19 : decode cX0_append 19 = .ok (.getfield 13, 3) := by decide +kernel
theorem dX0_append_22 : decode cX0_append 22 = .ok (.iload 7, 2) := by decide +kernel
theorem dX0_append_24 : decode cX0_append 24 = .ok (.iload_n 1, 1) := by decide +kernel
theorem dX0_append_25 : decode cX0_append 25 = .ok (.iastore, 1) := by decide +kernel
theorem dX0_append_26 : decode cX0_append 26 = .ok (.aload_n 0, 1) := by decide +kernel
theorem dX0_append_27 : decode cX0_append 27 = .ok (.getfield 17, 3) := by decide +kernel
theorem dX0_append_30 : decode cX0_append 30 = .ok (.iload 7, 2) := by decide +kernel
theorem dX0_append_32 : decode cX0_append 32 = .ok (.iload_n 2, 1) := by decide +kernel
theorem dX0_append_33 : decode cX0_append 33 = .ok (.iastore, 1) := by decide +kernel
theorem dX0_append_34 : decode cX0_append 34 = .ok (.aload_n 0, 1) := by decide +kernel
theorem dX0_append_35 : decode cX0_append 35 = .ok (.getfield 20, 3) := by decide +kernel
theorem dX0_append_38 : decode cX0_append 38 = .ok (.iload 7, 2) := by decide +kernel
theorem dX0_append_40 : decode cX0_append 40 = .ok (.iload_n 3, 1) := by decide +kernel
theorem dX0_append_41 : decode cX0_append 41 = .ok (.iastore, 1) := by decide +kernel
theorem dX0_append_42 : decode cX0_append 42 = .ok (.aload_n 0, 1) := by decide +kernel
theorem dX0_append_43 : decode cX0_append 43 = .ok (.getfield 23, 3) := by decide +kernel
theorem dX0_append_46 : decode cX0_append 46 = .ok (.iload 7, 2) := by decide +kernel
theorem dX0_append_48 : decode cX0_append 48 = .ok (.iload 4, 2) := by decide +kernel
theorem dX0_append_50 : decode cX0_append 50 = .ok (.iastore, 1) := by decide +kernel
theorem dX0_append_51 : decode cX0_append 51 = .ok (.aload_n 0, 1) := by decide +kernel
theorem dX0_append_52 : decode cX0_append 52 = .ok (.getfield 26, 3) := by decide +kernel
theorem dX0_append_55 : decode cX0_append 55 = .ok (.iload 7, 2) := by decide +kernel
theorem dX0_append_57 : decode cX0_append 57 = .ok (.iload 5, 2) := by decide +kernel
theorem dX0_append_59 : decode cX0_append 59 = .ok (.iastore, 1) := by decide +kernel
theorem dX0_append_60 : decode cX0_append 60 = .ok (.aload_n 0, 1) := by decide +kernel
theorem dX0_append_61 : decode cX0_append 61 = .ok (.getfield 29, 3) := by decide +kernel
theorem dX0_append_64 : decode cX0_append 64 = .ok (.iload 7, 2) := by decide +kernel
theorem dX0_append_66 : decode cX0_append 66 = .ok (.iload 6, 2) := by decide +kernel
theorem dX0_append_68 : decode cX0_append 68 = .ok (.bastore, 1) := by decide +kernel
theorem dX0_append_69 : decode cX0_append 69 = .ok (.aload_n 0, 1) := by decide +kernel
theorem dX0_append_70 : decode cX0_append 70 = .ok (.getfield 33, 3) := by decide +kernel
theorem dX0_append_73 : decode cX0_append 73 = .ok (.iload 7, 2) := by decide +kernel
theorem dX0_append_75 : decode cX0_append 75 = .ok (.iconst 0, 1) := by decide +kernel
theorem dX0_append_76 : decode cX0_append 76 = .ok (.bastore, 1) := by decide +kernel
theorem dX0_append_77 : decode cX0_append 77 = .ok (.aload_n 0, 1) := by decide +kernel
theorem dX0_append_78 : decode cX0_append 78 = .ok (.dup, 1) := by decide +kernel
theorem dX0_append_79 : decode cX0_append 79 = .ok (.getfield 7, 3) := by decide +kernel
theorem dX0_append_82 : decode cX0_append 82 = .ok (.iconst 1, 1) := by decide +kernel
theorem dX0_append_83 : decode cX0_append 83 = .ok (.iadd, 1) := by decide +kernel
theorem dX0_append_84 : decode cX0_append 84 = .ok (.putfield 7, 3) := by decide +kernel
theorem dX0_append_87 : decode cX0_append 87 = .ok (.aload_n 0, 1) := by decide +kernel
theorem dX0_append_88 : decode cX0_append 88 = .ok (.iload 7, 2) := by decide +kernel
theorem dX0_append_90 : decode cX0_append 90 = .ok (.invokevirtual 108, 3) := by decide +kernel
theorem dX0_append_93 : decode cX0_append 93 = .ok (.iload 7, 2) := by decide +kernel
theorem dX0_append_95 : decode cX0_append 95 = .ok (.ireturn, 1) := by decide +kernel
theorem dX0_failLast_0 : decode cX0_failLast 0 = .ok (.aload_n 0, 1) := by decide +kernel
theorem dX0_failLast_1 : decode cX0_failLast 1 = .ok (.getfield 7, 3) := by decide +kernel
theorem dX0_failLast_4 : decode cX0_failLast 4 = .ok (.iconst 1, 1) := by decide +kernel
theorem dX0_failLast_5 : decode cX0_failLast 5 = .ok (.isub, 1) := by decide +kernel
theorem dX0_failLast_6 : decode cX0_failLast 6 = .ok (.istore_n 1, 1) := by decide +kernel
theorem dX0_failLast_7 : decode cX0_failLast 7 = .ok (.iload_n 1, 1) := by decide +kernel
theorem dX0_failLast_8 : decode cX0_failLast 8 = .ok (.ifCond .lt 15, 3) := by decide +kernel
theorem dX0_failLast_11 : decode cX0_failLast 11 = .ok (.aload_n 0, 1) := by decide +kernel
theorem dX0_failLast_12 : decode cX0_failLast 12 = .ok (.getfield 33, 3) := by decide +kernel
theorem dX0_failLast_15 : decode cX0_failLast 15 = .ok (.iload_n 1, 1) := by decide +kernel
theorem dX0_failLast_16 : decode cX0_failLast 16 = .ok (.iconst 1, 1) := by decide +kernel
theorem dX0_failLast_17 : decode cX0_failLast 17 = .ok (.bastore, 1) := by decide +kernel
theorem dX0_failLast_18 : decode cX0_failLast 18 = .ok (.aload_n 0, 1) := by decide +kernel
theorem dX0_failLast_19 : decode cX0_failLast 19 = .ok (.iload_n 1, 1) := by decide +kernel
theorem dX0_failLast_20 : decode cX0_failLast 20 = .ok (.invokevirtual 108, 3) := by decide +kernel
theorem dX0_failLast_23 : decode cX0_failLast 23 = .ok (.return_, 1) := by decide +kernel
theorem dX0_settle_0 : decode cX0_settle 0 = .ok (.aload_n 0, 1) := by decide +kernel
theorem dX0_settle_1 : decode cX0_settle 1 = .ok (.getfield 36, 3) := by decide +kernel
theorem dX0_settle_4 : decode cX0_settle 4 = .ok (.iload_n 1, 1) := by decide +kernel
theorem dX0_settle_5 : decode cX0_settle 5 = .ok (.iload_n 1, 1) := by decide +kernel
theorem dX0_settle_6 : decode cX0_settle 6 = .ok (.ifCond .le 30, 3) := by decide +kernel
theorem dX0_settle_9 : decode cX0_settle 9 = .ok (.aload_n 0, 1) := by decide +kernel
theorem dX0_settle_10 : decode cX0_settle 10 = .ok (.getfield 13, 3) := by decide +kernel
theorem dX0_settle_13 : decode cX0_settle 13 = .ok (.iload_n 1, 1) := by decide +kernel
theorem dX0_settle_14 : decode cX0_settle 14 = .ok (.iconst 1, 1) := by decide +kernel
theorem dX0_settle_15 : decode cX0_settle 15 = .ok (.isub, 1) := by decide +kernel
theorem dX0_settle_16 : decode cX0_settle 16 = .ok (.iaload, 1) := by decide +kernel
theorem dX0_settle_17 : decode cX0_settle 17 = .ok (.iconst 5, 1) := by decide +kernel
theorem dX0_settle_18 : decode cX0_settle 18 = .ok (.if_icmp .ne 18, 3) := by decide +kernel
theorem dX0_settle_21 : decode cX0_settle 21 = .ok (.aload_n 0, 1) := by decide +kernel
theorem dX0_settle_22 : decode cX0_settle 22 = .ok (.getfield 39, 3) := by decide +kernel
theorem dX0_settle_25 : decode cX0_settle 25 = .ok (.iload_n 1, 1) := by decide +kernel
theorem dX0_settle_26 : decode cX0_settle 26 = .ok (.iconst 1, 1) := by decide +kernel
theorem dX0_settle_27 : decode cX0_settle 27 = .ok (.isub, 1) := by decide +kernel
theorem dX0_settle_28 : decode cX0_settle 28 = .ok (.baload, 1) := by decide +kernel
theorem dX0_settle_29 : decode cX0_settle 29 = .ok (.ifCond .ne 7, 3) := by decide +kernel
theorem dX0_settle_32 : decode cX0_settle 32 = .ok (.iconst 1, 1) := by decide +kernel
theorem dX0_settle_33 : decode cX0_settle 33 = .ok (.goto 4, 3) := by decide +kernel
theorem dX0_settle_36 : decode cX0_settle 36 = .ok (.iconst 0, 1) := by decide +kernel
theorem dX0_settle_37 : decode cX0_settle 37 = .ok (.bastore, 1) := by decide +kernel
theorem dX0_settle_38 : decode cX0_settle 38 = .ok (.aload_n 0, 1) := by decide +kernel
theorem dX0_settle_39 : decode cX0_settle 39 = .ok (.getfield 39, 3) := by decide +kernel
theorem dX0_settle_42 : decode cX0_settle 42 = .ok (.iload_n 1, 1) := by decide +kernel
theorem dX0_settle_43 : decode cX0_settle 43 = .ok (.aload_n 0, 1) := by decide +kernel
theorem dX0_settle_44 : decode cX0_settle 44 = .ok (.getfield 33, 3) := by decide +kernel
theorem dX0_settle_47 : decode cX0_settle 47 = .ok (.iload_n 1, 1) := by decide +kernel
theorem dX0_settle_48 : decode cX0_settle 48 = .ok (.baload, 1) := by decide +kernel
theorem dX0_settle_49 : decode cX0_settle 49 = .ok (.ifCond .ne 33, 3) := by decide +kernel
theorem dX0_settle_52 : decode cX0_settle 52 = .ok (.aload_n 0, 1) := by decide +kernel
theorem dX0_settle_53 : decode cX0_settle 53 = .ok (.getfield 13, 3) := by decide +kernel
theorem dX0_settle_56 : decode cX0_settle 56 = .ok (.iload_n 1, 1) := by decide +kernel
theorem dX0_settle_57 : decode cX0_settle 57 = .ok (.iaload, 1) := by decide +kernel
theorem dX0_settle_58 : decode cX0_settle 58 = .ok (.bipush 7, 2) := by decide +kernel
theorem dX0_settle_60 : decode cX0_settle 60 = .ok (.if_icmp .eq 22, 3) := by decide +kernel
theorem dX0_settle_63 : decode cX0_settle 63 = .ok (.aload_n 0, 1) := by decide +kernel
theorem dX0_settle_64 : decode cX0_settle 64 = .ok (.getfield 13, 3) := by decide +kernel
theorem dX0_settle_67 : decode cX0_settle 67 = .ok (.iload_n 1, 1) := by decide +kernel
theorem dX0_settle_68 : decode cX0_settle 68 = .ok (.iaload, 1) := by decide +kernel
theorem dX0_settle_69 : decode cX0_settle 69 = .ok (.iconst 5, 1) := by decide +kernel
theorem dX0_settle_70 : decode cX0_settle 70 = .ok (.if_icmp .ne 16, 3) := by decide +kernel
theorem dX0_settle_73 : decode cX0_settle 73 = .ok (.aload_n 0, 1) := by decide +kernel
theorem dX0_settle_74 : decode cX0_settle 74 = .ok (.getfield 36, 3) := by decide +kernel
theorem dX0_settle_77 : decode cX0_settle 77 = .ok (.iload_n 1, 1) := by decide +kernel
theorem dX0_settle_78 : decode cX0_settle 78 = .ok (.baload, 1) := by decide +kernel
theorem dX0_settle_79 : decode cX0_settle 79 = .ok (.ifCond .eq 7, 3) := by decide +kernel
theorem dX0_settle_82 : decode cX0_settle 82 = .ok (.iconst 1, 1) := by decide +kernel
theorem dX0_settle_83 : decode cX0_settle 83 = .ok (.goto 4, 3) := by decide +kernel
theorem dX0_settle_86 : decode cX0_settle 86 = .ok (.iconst 0, 1) := by decide +kernel
theorem dX0_settle_87 : decode cX0_settle 87 = .ok (.bastore, 1) := by decide +kernel
theorem dX0_settle_88 : decode cX0_settle 88 = .ok (.aload_n 0, 1) := by decide +kernel
theorem dX0_settle_89 : decode cX0_settle 89 = .ok (.getfield 42, 3) := by decide +kernel
theorem dX0_settle_92 : decode cX0_settle 92 = .ok (.iload_n 1, 1) := by decide +kernel
theorem dX0_settle_93 : decode cX0_settle 93 = .ok (.aload_n 0, 1) := by decide +kernel
theorem dX0_settle_94 : decode cX0_settle 94 = .ok (.iload_n 1, 1) := by decide +kernel
theorem dX0_settle_95 : decode cX0_settle 95 = .ok (.invokevirtual 112, 3) := by decide +kernel
theorem dX0_settle_98 : decode cX0_settle 98 = .ok (.ifCond .ne 7, 3) := by decide +kernel
theorem dX0_settle_101 : decode cX0_settle 101 = .ok (.iconst 1, 1) := by decide +kernel
theorem dX0_settle_102 : decode cX0_settle 102 = .ok (.goto 4, 3) := by decide +kernel
theorem dX0_settle_105 : decode cX0_settle 105 = .ok (.iconst 0, 1) := by decide +kernel
theorem dX0_settle_106 : decode cX0_settle 106 = .ok (.bastore, 1) := by decide +kernel
theorem dX0_settle_107 : decode cX0_settle 107 = .ok (.aload_n 0, 1) := by decide +kernel
theorem dX0_settle_108 : decode cX0_settle 108 = .ok (.getfield 45, 3) := by decide +kernel
theorem dX0_settle_111 : decode cX0_settle 111 = .ok (.iload_n 1, 1) := by decide +kernel
theorem dX0_settle_112 : decode cX0_settle 112 = .ok (.aload_n 0, 1) := by decide +kernel
theorem dX0_settle_113 : decode cX0_settle 113 = .ok (.iload_n 1, 1) := by decide +kernel
theorem dX0_settle_114 : decode cX0_settle 114 = .ok (.invokevirtual 115, 3) := by decide +kernel
theorem dX0_settle_117 : decode cX0_settle 117 = .ok (.iastore, 1) := by decide +kernel
theorem dX0_settle_118 : decode cX0_settle 118 = .ok (.aload_n 0, 1) := by decide +kernel
theorem dX0_settle_119 : decode cX0_settle 119 = .ok (.getfield 48, 3) := by decide +kernel
theorem dX0_settle_122 : decode cX0_settle 122 = .ok (.iload_n 1, 1) := by decide +kernel
theorem dX0_settle_123 : decode cX0_settle 123 = .ok (.aload_n 0, 1) := by decide +kernel
theorem dX0_settle_124 : decode cX0_settle 124 = .ok (.iload_n 1, 1) := by decide +kernel
theorem dX0_settle_125 : decode cX0_settle 125 = .ok (.invokevirtual 118, 3) := by decide +kernel
theorem dX0_settle_128 : decode cX0_settle 128 = .ok (.iastore, 1) := by decide +kernel
theorem dX0_settle_129 : decode cX0_settle 129 = .ok (.aload_n 0, 1) := by decide +kernel
theorem dX0_settle_130 : decode cX0_settle 130 = .ok (.getfield 51, 3) := by decide +kernel
theorem dX0_settle_133 : decode cX0_settle 133 = .ok (.iload_n 1, 1) := by decide +kernel
theorem dX0_settle_134 : decode cX0_settle 134 = .ok (.aload_n 0, 1) := by decide +kernel
theorem dX0_settle_135 : decode cX0_settle 135 = .ok (.iload_n 1, 1) := by decide +kernel
theorem dX0_settle_136 : decode cX0_settle 136 = .ok (.invokevirtual 121, 3) := by decide +kernel
theorem dX0_settle_139 : decode cX0_settle 139 = .ok (.iastore, 1) := by decide +kernel
theorem dX0_settle_140 : decode cX0_settle 140 = .ok (.return_, 1) := by decide +kernel
theorem dX0_liesBehind_0 : decode cX0_liesBehind 0 = .ok (.iload_n 1, 1) := by decide +kernel
theorem dX0_liesBehind_1 : decode cX0_liesBehind 1 = .ok (.ifCond .le 37, 3) := by decide +kernel
theorem dX0_liesBehind_4 : decode cX0_liesBehind 4 = .ok (.aload_n 0, 1) := by decide +kernel
theorem dX0_liesBehind_5 : decode cX0_liesBehind 5 = .ok (.getfield 39, 3) := by decide +kernel
theorem dX0_liesBehind_8 : decode cX0_liesBehind 8 = .ok (.iload_n 1, 1) := by decide +kernel
theorem dX0_liesBehind_9 : decode cX0_liesBehind 9 = .ok (.iconst 1, 1) := by decide +kernel
theorem dX0_liesBehind_10 : decode cX0_liesBehind 10 = .ok (.isub, 1) := by decide +kernel
theorem dX0_liesBehind_11 : decode cX0_liesBehind 11 = .ok (.baload, 1) := by decide +kernel
theorem dX0_liesBehind_12 : decode cX0_liesBehind 12 = .ok (.ifCond .ne 26, 3) := by decide +kernel
theorem dX0_liesBehind_15 : decode cX0_liesBehind 15 = .ok (.aload_n 0, 1) := by decide +kernel
theorem dX0_liesBehind_16 : decode cX0_liesBehind 16 = .ok (.iload_n 1, 1) := by decide +kernel
theorem dX0_liesBehind_17 : decode cX0_liesBehind 17 = .ok (.invokevirtual 124, 3) := by decide +kernel
theorem dX0_liesBehind_20 : decode cX0_liesBehind 20 = .ok (.ifCond .eq 14, 3) := by decide +kernel
theorem dX0_liesBehind_23 : decode cX0_liesBehind 23 = .ok (.aload_n 0, 1) := by decide +kernel
theorem dX0_liesBehind_24 : decode cX0_liesBehind 24 = .ok (.getfield 29, 3) := by decide +kernel
theorem dX0_liesBehind_27 : decode cX0_liesBehind 27 = .ok (.iload_n 1, 1) := by decide +kernel
theorem dX0_liesBehind_28 : decode cX0_liesBehind 28 = .ok (.iconst 2, 1) := by decide +kernel
theorem dX0_liesBehind_29 : decode cX0_liesBehind 29 = .ok (.isub, 1) := by decide +kernel
theorem dX0_liesBehind_30 : decode cX0_liesBehind 30 = .ok (.baload, 1) := by decide +kernel
theorem dX0_liesBehind_31 : decode cX0_liesBehind 31 = .ok (.ifCond .ne 7, 3) := by decide +kernel
theorem dX0_liesBehind_34 : decode cX0_liesBehind 34 = .ok (.iconst 1, 1) := by decide +kernel
theorem dX0_liesBehind_35 : decode cX0_liesBehind 35 = .ok (.goto 4, 3) := by decide +kernel
theorem dX0_liesBehind_38 : decode cX0_liesBehind 38 = .ok (.iconst 0, 1) := by decide +kernel
theorem dX0_liesBehind_39 : decode cX0_liesBehind 39 = .ok (.ireturn, 1) := by decide +kernel
theorem dX0_isRedirected_0 : decode cX0_isRedirected 0 = .ok (.aload_n 0, 1) := by decide +kernel
theorem dX0_isRedirected_1 : decode cX0_isRedirected 1 = .ok (.iload_n 1, 1) := by decide +kernel
theorem dX0_isRedirected_2 : decode cX0_isRedirected 2 = .ok (.invokevirtual 127, 3) := by decide +kernel
theorem dX0_isRedirected_5 : decode cX0_isRedirected 5 = .ok (.ifCond .ne 11, 3) := by decide +kernel
theorem dX0_isRedirected_8 : decode cX0_isRedirected 8 = .ok (.aload_n 0, 1) := by decide +kernel
theorem dX0_isRedirected_9 : decode cX0_isRedirected 9 = .ok (.iload_n 1, 1) := by decide +kernel
theorem dX0_isRedirected_10 : decode cX0_isRedirected 10 = .ok (.invokevirtual 130, 3) := by decide +kernel
theorem dX0_isRedirected_13 : decode cX0_isRedirected 13 = .ok (.ifCond .eq 7, 3) := by decide +kernel
theorem dX0_isRedirected_16 : decode cX0_isRedirected 16 = .ok (.iconst 1, 1) := by decide +kernel
theorem dX0_isRedirected_17 : decode cX0_isRedirected 17 = .ok (.goto 4, 3) := by decide +kernel
theorem dX0_isRedirected_20 : decode cX0_isRedirected 20 = .ok (.iconst 0, 1) := by decide +kernel
theorem dX0_isRedirected_21 : decode cX0_isRedirected 21 = .ok (.ireturn, 1) := by decide +kernel
theorem dX0_isBehindSlot_0 : decode cX0_isBehindSlot 0 = .ok (.iload_n 1, 1) := by decide +kernel
theorem dX0_isBehindSlot_1 : decode cX0_isBehindSlot 1 = .ok (.iconst 1, 1) := by decide +kernel
theorem dX0_isBehindSlot_2 : decode cX0_isBehindSlot 2 = .ok (.if_icmp .le 18, 3) := by decide +kernel
theorem dX0_isBehindSlot_5 : decode cX0_isBehindSlot 5 = .ok (.aload_n 0, 1) := by decide +kernel
theorem dX0_isBehindSlot_6 : decode cX0_isBehindSlot 6 = .ok (.getfield 36, 3) := by decide +kernel
theorem dX0_isBehindSlot_9 : decode cX0_isBehindSlot 9 = .ok (.iload_n 1, 1) := by decide +kernel
theorem dX0_isBehindSlot_10 : decode cX0_isBehindSlot 10 = .ok (.iconst 1, 1) := by decide +kernel
theorem dX0_isBehindSlot_11 : decode cX0_isBehindSlot 11 = .ok (.isub, 1) := by decide +kernel
theorem dX0_isBehindSlot_12 : decode cX0_isBehindSlot 12 = .ok (.baload, 1) := by decide +kernel
theorem dX0_isBehindSlot_13 : decode cX0_isBehindSlot 13 = .ok (.ifCond .eq 7, 3) := by decide +kernel
theorem dX0_isBehindSlot_16 : decode cX0_isBehindSlot 16 = .ok (.iconst 1, 1) := by decide +kernel
theorem dX0_isBehindSlot_17 : decode cX0_isBehindSlot 17 = .ok (.goto 4, 3) := by decide +kernel
theorem dX0_isBehindSlot_20 : decode cX0_isBehindSlot 20 = .ok (.iconst 0, 1) := by decide +kernel
theorem dX0_isBehindSlot_21 : decode cX0_isBehindSlot 21 = .ok (.ireturn, 1) := by decide +kernel
theorem dX0_isBehindFailingOrSingle_0 : decode cX0_isBehindFailingOrSingle 0 = .ok (.iload_n 1, 1) := by decide +kernel
theorem dX0_isBehindFailingOrSingle_1 : decode cX0_isBehindFailingOrSingle 1 = .ok (.ifCond .le 31, 3) := by decide +kernel
theorem dX0_isBehindFailingOrSingle_4 : decode cX0_isBehindFailingOrSingle 4 = .ok (.aload_n 0, 1) := by decide +kernel
theorem dX0_isBehindFailingOrSingle_5 : decode cX0_isBehindFailingOrSingle 5 = .ok (.getfield 39, 3) := by decide +kernel
theorem dX0_isBehindFailingOrSingle_8 : decode cX0_isBehindFailingOrSingle 8 = .ok (.iload_n 1, 1) := by decide +kernel
theorem dX0_isBehindFailingOrSingle_9 : decode cX0_isBehindFailingOrSingle 9 = .ok (.iconst 1, 1) := by decide +kernel
theorem dX0_isBehindFailingOrSingle_10 : decode cX0_isBehindFailingOrSingle 10 = .ok (.isub, 1) := by decide +kernel
theorem dX0_isBehindFailingOrSingle_11 : decode cX0_isBehindFailingOrSingle 11 = .ok (.baload, 1) := by decide +kernel
theorem dX0_isBehindFailingOrSingle_12 : decode cX0_isBehindFailingOrSingle 12 = .ok (.ifCond .ne 16, 3) := by decide +kernel
theorem dX0_isBehindFailingOrSingle_15 : decode cX0_isBehindFailingOrSingle 15 = .ok (.aload_n 0, 1) := by decide +kernel
theorem dX0_isBehindFailingOrSingle_16 : decode cX0_isBehindFailingOrSingle 16 = .ok (.getfield 13, 3) := by decide +kernel
theorem dX0_isBehindFailingOrSingle_19 : decode cX0_isBehindFailingOrSingle 19 = .ok (.iload_n 1, 1) := by decide +kernel
theorem dX0_isBehindFailingOrSingle_20 : decode cX0_isBehindFailingOrSingle 20 = .ok (.iconst 1, 1) := by decide +kernel
theorem dX0_isBehindFailingOrSingle_21 : decode cX0_isBehindFailingOrSingle 21 = .ok (.isub, 1) := by decide +kernel
theorem dX0_isBehindFailingOrSingle_22 : decode cX0_isBehindFailingOrSingle 22 = .ok (.iaload, 1) := by decide +kernel
theorem dX0_isBehindFailingOrSingle_23 : decode cX0_isBehindFailingOrSingle 23 = .ok (.bipush 6, 2) := by decide +kernel
theorem dX0_isBehindFailingOrSingle_25 : decode cX0_isBehindFailingOrSingle 25 = .ok (.if_icmp .ne 7, 3) := by decide +kernel
theorem dX0_isBehindFailingOrSingle_28 : decode cX0_isBehindFailingOrSingle 28 = .ok (.iconst 1, 1) := by decide +kernel
theorem dX0_isBehindFailingOrSingle_29 : decode cX0_isBehindFailingOrSingle 29 = .ok (.goto 4, 3) := by decide +kernel
theorem dX0_isBehindFailingOrSingle_32 : decode cX0_isBehindFailingOrSingle 32 = .ok (.iconst 0, 1) := by decide +kernel
theorem dX0_isBehindFailingOrSingle_33 : decode cX0_isBehindFailingOrSingle 33 = .ok (.ireturn, 1) := by decide +kernel
theorem dX0_isBehindSlotOfMissedBranch_0 : decode cX0_isBehindSlotOfMissedBranch 0 = .ok (.aload_n 0, 1) := by decide +kernel
theorem dX0_isBehindSlotOfMissedBranch_1 : decode cX0_isBehindSlotOfMissedBranch 1 = .ok (.iload_n 1, 1) := by decide +kernel
theorem dX0_isBehindSlotOfMissedBranch_2 : decode cX0_isBehindSlotOfMissedBranch 2 = .ok (.invokevirtual 124, 3) := by decide +kernel
theorem dX0_isBehindSlotOfMissedBranch_5 : decode cX0_isBehindSlotOfMissedBranch 5 = .ok (.ifCond .eq 17, 3) := by decide +kernel
theorem dX0_isBehindSlotOfMissedBranch_8 : decode cX0_isBehindSlotOfMissedBranch 8 = .ok (.aload_n 0, 1) := by decide +kernel
theorem dX0_isBehindSlotOfMissedBranch_9 : decode cX0_isBehindSlotOfMissedBranch 9 = .ok (.iload_n 1, 1) := by decide +kernel
theorem dX0_isBehindSlotOfMissedBranch_10 : decode cX0_isBehindSlotOfMissedBranch 10 = .ok (.iconst 2, 1) := by decide +kernel
theorem dX0_isBehindSlotOfMissedBranch_11 : decode cX0_isBehindSlotOfMissedBranch 11 = .ok (.isub, 1) := by decide +kernel
theorem dX0_isBehindSlotOfMissedBranch_12 : decode cX0_isBehindSlotOfMissedBranch 12 = .ok (.invokevirtual 133, 3) := by decide +kernel
theorem dX0_isBehindSlotOfMissedBranch_15 : decode cX0_isBehindSlotOfMissedBranch 15 = .ok (.ifCond .eq 7, 3) := by decide +kernel
theorem dX0_isBehindSlotOfMissedBranch_18 : decode cX0_isBehindSlotOfMissedBranch 18 = .ok (.iconst 1, 1) := by decide +kernel
theorem dX0_isBehindSlotOfMissedBranch_19 : decode cX0_isBehindSlotOfMissedBranch 19 = .ok (.goto 4, 3) := by decide +kernel
theorem dX0_isBehindSlotOfMissedBranch_22 : decode cX0_isBehindSlotOfMissedBranch 22 = .ok (.iconst 0, 1) := by decide +kernel
theorem dX0_isBehindSlotOfMissedBranch_23 : decode cX0_isBehindSlotOfMissedBranch 23 = .ok (.ireturn, 1) := by decide +kernel
theorem dX0_isMissed_0 : decode cX0_isMissed 0 = .ok (.aload_n 0, 1) := by decide +kernel
theorem dX0_isMissed_1 : decode cX0_isMissed 1 = .ok (.getfield 26, 3) := by decide +kernel
theorem dX0_isMissed_4 : decode cX0_isMissed 4 = .ok (.iload_n 1, 1) := by decide +kernel
theorem dX0_isMissed_5 : decode cX0_isMissed 5 = .ok (.iaload, 1) := by decide +kernel
theorem dX0_isMissed_6 : decode cX0_isMissed 6 = .ok (.ifCond .ne 5, 3) := by decide +kernel
theorem dX0_isMissed_9 : decode cX0_isMissed 9 = .ok (.iconst 1, 1) := by decide +kernel
theorem dX0_isMissed_10 : decode cX0_isMissed 10 = .ok (.ireturn, 1) := by decide +kernel
theorem dX0_isMissed_11 : decode cX0_isMissed 11 = .ok (.aload_n 0, 1) := by decide +kernel
theorem dX0_isMissed_12 : decode cX0_isMissed 12 = .ok (.getfield 26, 3) := by decide +kernel
theorem dX0_isMissed_15 : decode cX0_isMissed 15 = .ok (.iload_n 1, 1) := by decide +kernel
theorem dX0_isMissed_16 : decode cX0_isMissed 16 = .ok (.iaload, 1) := by decide +kernel
theorem dX0_isMissed_17 : decode cX0_isMissed 17 = .ok (.iconst 1, 1) := by decide +kernel
theorem dX0_isMissed_18 : decode cX0_isMissed 18 = .ok (.if_icmp .ne 7, 3) := by decide +kernel
theorem dX0_isMissed_21 : decode cX0_isMissed 21 = .ok (.iconst 1, 1) := by decide +kernel
theorem dX0_isMissed_22 : decode cX0_isMissed 22 = .ok (.goto 4, 3) := by decide +kernel
theorem dX0_isMissed_25 : decode cX0_isMissed 25 = .ok (.iconst 0, 1) := by decide +kernel
theorem dX0_isMissed_26 : decode cX0_isMissed 26 = .ok (.aload_n 0, 1) := by decide +kernel
theorem dX0_isMissed_27 : decode cX0_isMissed 27 = .ok (.getfield 29, 3) := by decide +kernel
theorem dX0_isMissed_30 : decode cX0_isMissed 30 = .ok (.iload_n 1, 1) := by decide +kernel
theorem dX0_isMissed_31 : decode cX0_isMissed 31 = .ok (.baload, 1) := by decide +kernel
end
section
theorem dX0_isMissed_32 : decode cX0_isMissed 32 = .ok (.if_icmp .eq 7, 3) := by decide +kernel
theorem dX0_isMissed_35 : decode cX0_isMissed 35 = .ok (.iconst 1, 1) := by decide +kernel
theorem dX0_isMissed_36 : decode cX0_isMissed 36 = .ok (.goto 4, 3) := by decide +kernel
theorem dX0_isMissed_39 : decode cX0_isMissed 39 = .ok (.iconst 0, 1) := by decide +kernel
theorem dX0_isMissed_40 : decode cX0_isMissed 40 = .ok (.ireturn, 1) := by decide +kernel
theorem dX0_joinsGroup_0 : decode cX0_joinsGroup 0 = .ok (.iload_n 1, 1) := by decide +kernel
theorem dX0_joinsGroup_1 : decode cX0_joinsGroup 1 = .ok (.ifCond .eq 14, 3) := by decide +kernel
theorem dX0_joinsGroup_4 : decode cX0_joinsGroup 4 = .ok (.aload_n 0, 1) := by decide +kernel
theorem dX0_joinsGroup_5 : decode cX0_joinsGroup 5 = .ok (.getfield 42, 3) := by decide +kernel
theorem dX0_joinsGroup_8 : decode cX0_joinsGroup 8 = .ok (.iload_n 1, 1) := by decide +kernel
theorem dX0_joinsGroup_9 : decode cX0_joinsGroup 9 = .ok (.iconst 1, 1) := by decide +kernel
theorem dX0_joinsGroup_10 : decode cX0_joinsGroup 10 = .ok (.isub, 1) := by decide +kernel
theorem dX0_joinsGroup_11 : decode cX0_joinsGroup 11 = .ok (.baload, 1) := by decide +kernel
theorem dX0_joinsGroup_12 : decode cX0_joinsGroup 12 = .ok (.ifCond .ne 5, 3) := by decide +kernel
theorem dX0_joinsGroup_15 : decode cX0_joinsGroup 15 = .ok (.iconst 0, 1) := by decide +kernel
theorem dX0_joinsGroup_16 : decode cX0_joinsGroup 16 = .ok (.ireturn, 1) := by decide +kernel
theorem dX0_joinsGroup_17 : decode cX0_joinsGroup 17 = .ok (.aload_n 0, 1) := by decide +kernel
theorem dX0_joinsGroup_18 : decode cX0_joinsGroup 18 = .ok (.iload_n 1, 1) := by decide +kernel
theorem dX0_joinsGroup_19 : decode cX0_joinsGroup 19 = .ok (.invokevirtual 124, 3) := by decide +kernel
theorem dX0_joinsGroup_22 : decode cX0_joinsGroup 22 = .ok (.ifCond .eq 19, 3) := by decide +kernel
theorem dX0_joinsGroup_25 : decode cX0_joinsGroup 25 = .ok (.aload_n 0, 1) := by decide +kernel
theorem dX0_joinsGroup_26 : decode cX0_joinsGroup 26 = .ok (.getfield 26, 3) := by decide +kernel
theorem dX0_joinsGroup_29 : decode cX0_joinsGroup 29 = .ok (.iload_n 1, 1) := by decide +kernel
theorem dX0_joinsGroup_30 : decode cX0_joinsGroup 30 = .ok (.iconst 2, 1) := by decide +kernel
theorem dX0_joinsGroup_31 : decode cX0_joinsGroup 31 = .ok (.isub, 1) := by decide +kernel
theorem dX0_joinsGroup_32 : decode cX0_joinsGroup 32 = .ok (.iaload, 1) := by decide +kernel
theorem dX0_joinsGroup_33 : decode cX0_joinsGroup 33 = .ok (.iconst 1, 1) := by decide +kernel
theorem dX0_joinsGroup_34 : decode cX0_joinsGroup 34 = .ok (.if_icmp .ne 7, 3) := by decide +kernel
theorem dX0_joinsGroup_37 : decode cX0_joinsGroup 37 = .ok (.iconst 1, 1) := by decide +kernel
theorem dX0_joinsGroup_38 : decode cX0_joinsGroup 38 = .ok (.goto 4, 3) := by decide +kernel
theorem dX0_joinsGroup_41 : decode cX0_joinsGroup 41 = .ok (.iconst 0, 1) := by decide +kernel
theorem dX0_joinsGroup_42 : decode cX0_joinsGroup 42 = .ok (.istore_n 2, 1) := by decide +kernel
theorem dX0_joinsGroup_43 : decode cX0_joinsGroup 43 = .ok (.aload_n 0, 1) := by decide +kernel
theorem dX0_joinsGroup_44 : decode cX0_joinsGroup 44 = .ok (.iload_n 1, 1) := by decide +kernel
theorem dX0_joinsGroup_45 : decode cX0_joinsGroup 45 = .ok (.invokevirtual 82, 3) := by decide +kernel
theorem dX0_joinsGroup_48 : decode cX0_joinsGroup 48 = .ok (.ifCond .eq 19, 3) := by decide +kernel
theorem dX0_joinsGroup_51 : decode cX0_joinsGroup 51 = .ok (.aload_n 0, 1) := by decide +kernel
theorem dX0_joinsGroup_52 : decode cX0_joinsGroup 52 = .ok (.iload_n 1, 1) := by decide +kernel
theorem dX0_joinsGroup_53 : decode cX0_joinsGroup 53 = .ok (.invokevirtual 79, 3) := by decide +kernel
theorem dX0_joinsGroup_56 : decode cX0_joinsGroup 56 = .ok (.ifCond .ne 11, 3) := by decide +kernel
theorem dX0_joinsGroup_59 : decode cX0_joinsGroup 59 = .ok (.iload_n 2, 1) := by decide +kernel
theorem dX0_joinsGroup_60 : decode cX0_joinsGroup 60 = .ok (.ifCond .ne 7, 3) := by decide +kernel
theorem dX0_joinsGroup_63 : decode cX0_joinsGroup 63 = .ok (.iconst 1, 1) := by decide +kernel
theorem dX0_joinsGroup_64 : decode cX0_joinsGroup 64 = .ok (.goto 4, 3) := by decide +kernel
theorem dX0_joinsGroup_67 : decode cX0_joinsGroup 67 = .ok (.iconst 0, 1) := by decide +kernel
theorem dX0_joinsGroup_68 : decode cX0_joinsGroup 68 = .ok (.ireturn, 1) := by decide +kernel
theorem dX0_leastFetchTime_0 : decode cX0_leastFetchTime 0 = .ok (.iload_n 1, 1) := by decide +kernel
theorem dX0_leastFetchTime_1 : decode cX0_leastFetchTime 1 = .ok (.ifCond .ne 5, 3) := by decide +kernel
theorem dX0_leastFetchTime_4 : decode cX0_leastFetchTime 4 = .ok (.iconst 1, 1) := by decide +kernel
theorem dX0_leastFetchTime_5 : decode cX0_leastFetchTime 5 = .ok (.ireturn, 1) := by decide +kernel
theorem dX0_leastFetchTime_6 : decode cX0_leastFetchTime 6 = .ok (.aload_n 0, 1) := by decide +kernel
theorem dX0_leastFetchTime_7 : decode cX0_leastFetchTime 7 = .ok (.getfield 42, 3) := by decide +kernel
theorem dX0_leastFetchTime_10 : decode cX0_leastFetchTime 10 = .ok (.iload_n 1, 1) := by decide +kernel
theorem dX0_leastFetchTime_11 : decode cX0_leastFetchTime 11 = .ok (.baload, 1) := by decide +kernel
theorem dX0_leastFetchTime_12 : decode cX0_leastFetchTime 12 = .ok (.ifCond .ne 12, 3) := by decide +kernel
theorem dX0_leastFetchTime_15 : decode cX0_leastFetchTime 15 = .ok (.aload_n 0, 1) := by decide +kernel
theorem dX0_leastFetchTime_16 : decode cX0_leastFetchTime 16 = .ok (.getfield 45, 3) := by decide +kernel
theorem dX0_leastFetchTime_19 : decode cX0_leastFetchTime 19 = .ok (.iload_n 1, 1) := by decide +kernel
theorem dX0_leastFetchTime_20 : decode cX0_leastFetchTime 20 = .ok (.iconst 1, 1) := by decide +kernel
theorem dX0_leastFetchTime_21 : decode cX0_leastFetchTime 21 = .ok (.isub, 1) := by decide +kernel
theorem dX0_leastFetchTime_22 : decode cX0_leastFetchTime 22 = .ok (.iaload, 1) := by decide +kernel
theorem dX0_leastFetchTime_23 : decode cX0_leastFetchTime 23 = .ok (.ireturn, 1) := by decide +kernel
theorem dX0_leastFetchTime_24 : decode cX0_leastFetchTime 24 = .ok (.aload_n 0, 1) := by decide +kernel
theorem dX0_leastFetchTime_25 : decode cX0_leastFetchTime 25 = .ok (.getfield 45, 3) := by decide +kernel
theorem dX0_leastFetchTime_28 : decode cX0_leastFetchTime 28 = .ok (.iload_n 1, 1) := by decide +kernel
theorem dX0_leastFetchTime_29 : decode cX0_leastFetchTime 29 = .ok (.iconst 1, 1) := by decide +kernel
theorem dX0_leastFetchTime_30 : decode cX0_leastFetchTime 30 = .ok (.isub, 1) := by decide +kernel
theorem dX0_leastFetchTime_31 : decode cX0_leastFetchTime 31 = .ok (.iaload, 1) := by decide +kernel
theorem dX0_leastFetchTime_32 : decode cX0_leastFetchTime 32 = .ok (.iconst 1, 1) := by decide +kernel
theorem dX0_leastFetchTime_33 : decode cX0_leastFetchTime 33 = .ok (.iadd, 1) := by decide +kernel
theorem dX0_leastFetchTime_34 : decode cX0_leastFetchTime 34 = .ok (.istore_n 2, 1) := by decide +kernel
theorem dX0_leastFetchTime_35 : decode cX0_leastFetchTime 35 = .ok (.iload_n 1, 1) := by decide +kernel
theorem dX0_leastFetchTime_36 : decode cX0_leastFetchTime 36 = .ok (.iconst 5, 1) := by decide +kernel
theorem dX0_leastFetchTime_37 : decode cX0_leastFetchTime 37 = .ok (.if_icmp .lt 18, 3) := by decide +kernel
theorem dX0_leastFetchTime_40 : decode cX0_leastFetchTime 40 = .ok (.iload_n 2, 1) := by decide +kernel
theorem dX0_leastFetchTime_41 : decode cX0_leastFetchTime 41 = .ok (.aload_n 0, 1) := by decide +kernel
theorem dX0_leastFetchTime_42 : decode cX0_leastFetchTime 42 = .ok (.getfield 48, 3) := by decide +kernel
theorem dX0_leastFetchTime_45 : decode cX0_leastFetchTime 45 = .ok (.iload_n 1, 1) := by decide +kernel
theorem dX0_leastFetchTime_46 : decode cX0_leastFetchTime 46 = .ok (.iconst 5, 1) := by decide +kernel
theorem dX0_leastFetchTime_47 : decode cX0_leastFetchTime 47 = .ok (.isub, 1) := by decide +kernel
theorem dX0_leastFetchTime_48 : decode cX0_leastFetchTime 48 = .ok (.iaload, 1) := by decide +kernel
theorem dX0_leastFetchTime_49 : decode cX0_leastFetchTime 49 = .ok (.iconst 1, 1) := by decide +kernel
theorem dX0_leastFetchTime_50 : decode cX0_leastFetchTime 50 = .ok (.iadd, 1) := by decide +kernel
theorem dX0_leastFetchTime_51 : decode cX0_leastFetchTime 51 = .ok (.invokestatic 136, 3) := by decide +kernel
theorem dX0_leastFetchTime_54 : decode cX0_leastFetchTime 54 = .ok (.istore_n 2, 1) := by decide +kernel
theorem dX0_leastFetchTime_55 : decode cX0_leastFetchTime 55 = .ok (.aload_n 0, 1) := by decide +kernel
theorem dX0_leastFetchTime_56 : decode cX0_leastFetchTime 56 = .ok (.iload_n 1, 1) := by decide +kernel
theorem dX0_leastFetchTime_57 : decode cX0_leastFetchTime 57 = .ok (.invokevirtual 127, 3) := by decide +kernel
theorem dX0_leastFetchTime_60 : decode cX0_leastFetchTime 60 = .ok (.ifCond .eq 18, 3) := by decide +kernel
theorem dX0_leastFetchTime_63 : decode cX0_leastFetchTime 63 = .ok (.iload_n 2, 1) := by decide +kernel
theorem dX0_leastFetchTime_64 : decode cX0_leastFetchTime 64 = .ok (.aload_n 0, 1) := by decide +kernel
theorem dX0_leastFetchTime_65 : decode cX0_leastFetchTime 65 = .ok (.getfield 51, 3) := by decide +kernel
theorem dX0_leastFetchTime_68 : decode cX0_leastFetchTime 68 = .ok (.iload_n 1, 1) := by decide +kernel
theorem dX0_leastFetchTime_69 : decode cX0_leastFetchTime 69 = .ok (.iconst 1, 1) := by decide +kernel
theorem dX0_leastFetchTime_70 : decode cX0_leastFetchTime 70 = .ok (.isub, 1) := by decide +kernel
theorem dX0_leastFetchTime_71 : decode cX0_leastFetchTime 71 = .ok (.iaload, 1) := by decide +kernel
theorem dX0_leastFetchTime_72 : decode cX0_leastFetchTime 72 = .ok (.iconst 1, 1) := by decide +kernel
theorem dX0_leastFetchTime_73 : decode cX0_leastFetchTime 73 = .ok (.iadd, 1) := by decide +kernel
theorem dX0_leastFetchTime_74 : decode cX0_leastFetchTime 74 = .ok (.invokestatic 136, 3) := by decide +kernel
theorem dX0_leastFetchTime_77 : decode cX0_leastFetchTime 77 = .ok (.istore_n 2, 1) := by decide +kernel
theorem dX0_leastFetchTime_78 : decode cX0_leastFetchTime 78 = .ok (.aload_n 0, 1) := by decide +kernel
theorem dX0_leastFetchTime_79 : decode cX0_leastFetchTime 79 = .ok (.iload_n 1, 1) := by decide +kernel
theorem dX0_leastFetchTime_80 : decode cX0_leastFetchTime 80 = .ok (.invokevirtual 130, 3) := by decide +kernel
theorem dX0_leastFetchTime_83 : decode cX0_leastFetchTime 83 = .ok (.ifCond .eq 18, 3) := by decide +kernel
theorem dX0_leastFetchTime_86 : decode cX0_leastFetchTime 86 = .ok (.iload_n 2, 1) := by decide +kernel
theorem dX0_leastFetchTime_87 : decode cX0_leastFetchTime 87 = .ok (.aload_n 0, 1) := by decide +kernel
theorem dX0_leastFetchTime_88 : decode cX0_leastFetchTime 88 = .ok (.getfield 48, 3) := by decide +kernel
theorem dX0_leastFetchTime_91 : decode cX0_leastFetchTime 91 = .ok (.iload_n 1, 1) := by decide +kernel
theorem dX0_leastFetchTime_92 : decode cX0_leastFetchTime 92 = .ok (.iconst 2, 1) := by decide +kernel
theorem dX0_leastFetchTime_93 : decode cX0_leastFetchTime 93 = .ok (.isub, 1) := by decide +kernel
theorem dX0_leastFetchTime_94 : decode cX0_leastFetchTime 94 = .ok (.iaload, 1) := by decide +kernel
theorem dX0_leastFetchTime_95 : decode cX0_leastFetchTime 95 = .ok (.iconst 2, 1) := by decide +kernel
theorem dX0_leastFetchTime_96 : decode cX0_leastFetchTime 96 = .ok (.iadd, 1) := by decide +kernel
theorem dX0_leastFetchTime_97 : decode cX0_leastFetchTime 97 = .ok (.invokestatic 136, 3) := by decide +kernel
theorem dX0_leastFetchTime_100 : decode cX0_leastFetchTime 100 = .ok (.istore_n 2, 1) := by decide +kernel
theorem dX0_leastFetchTime_101 : decode cX0_leastFetchTime 101 = .ok (.iload_n 2, 1) := by decide +kernel
theorem dX0_leastFetchTime_102 : decode cX0_leastFetchTime 102 = .ok (.ireturn, 1) := by decide +kernel
theorem dX0_groupSize_0 : decode cX0_groupSize 0 = .ok (.aload_n 0, 1) := by decide +kernel
theorem dX0_groupSize_1 : decode cX0_groupSize 1 = .ok (.getfield 42, 3) := by decide +kernel
theorem dX0_groupSize_4 : decode cX0_groupSize 4 = .ok (.iload_n 1, 1) := by decide +kernel
theorem dX0_groupSize_5 : decode cX0_groupSize 5 = .ok (.baload, 1) := by decide +kernel
theorem dX0_groupSize_6 : decode cX0_groupSize 6 = .ok (.ifCond .ne 5, 3) := by decide +kernel
theorem dX0_groupSize_9 : decode cX0_groupSize 9 = .ok (.iconst 2, 1) := by decide +kernel
theorem dX0_groupSize_10 : decode cX0_groupSize 10 = .ok (.ireturn, 1) := by decide +kernel
theorem dX0_groupSize_11 : decode cX0_groupSize 11 = .ok (.iload_n 1, 1) := by decide +kernel
theorem dX0_groupSize_12 : decode cX0_groupSize 12 = .ok (.iconst 1, 1) := by decide +kernel
theorem dX0_groupSize_13 : decode cX0_groupSize 13 = .ok (.iadd, 1) := by decide +kernel
theorem dX0_groupSize_14 : decode cX0_groupSize 14 = .ok (.aload_n 0, 1) := by decide +kernel
theorem dX0_groupSize_15 : decode cX0_groupSize 15 = .ok (.getfield 7, 3) := by decide +kernel
theorem dX0_groupSize_18 : decode cX0_groupSize 18 = .ok (.if_icmp .ge 18, 3) := by decide +kernel
theorem dX0_groupSize_21 : decode cX0_groupSize 21 = .ok (.aload_n 0, 1) := by decide +kernel
theorem dX0_groupSize_22 : decode cX0_groupSize 22 = .ok (.getfield 42, 3) := by decide +kernel
theorem dX0_groupSize_25 : decode cX0_groupSize 25 = .ok (.iload_n 1, 1) := by decide +kernel
theorem dX0_groupSize_26 : decode cX0_groupSize 26 = .ok (.iconst 1, 1) := by decide +kernel
theorem dX0_groupSize_27 : decode cX0_groupSize 27 = .ok (.iadd, 1) := by decide +kernel
theorem dX0_groupSize_28 : decode cX0_groupSize 28 = .ok (.baload, 1) := by decide +kernel
theorem dX0_groupSize_29 : decode cX0_groupSize 29 = .ok (.ifCond .ne 7, 3) := by decide +kernel
theorem dX0_groupSize_32 : decode cX0_groupSize 32 = .ok (.iconst 2, 1) := by decide +kernel
theorem dX0_groupSize_33 : decode cX0_groupSize 33 = .ok (.goto 4, 3) := by decide +kernel
theorem dX0_groupSize_36 : decode cX0_groupSize 36 = .ok (.iconst 1, 1) := by decide +kernel
theorem dX0_groupSize_37 : decode cX0_groupSize 37 = .ok (.ireturn, 1) := by decide +kernel
theorem dX0_leastIssueTime_0 : decode cX0_leastIssueTime 0 = .ok (.aload_n 0, 1) := by decide +kernel
theorem dX0_leastIssueTime_1 : decode cX0_leastIssueTime 1 = .ok (.getfield 45, 3) := by decide +kernel
theorem dX0_leastIssueTime_4 : decode cX0_leastIssueTime 4 = .ok (.iload_n 1, 1) := by decide +kernel
theorem dX0_leastIssueTime_5 : decode cX0_leastIssueTime 5 = .ok (.iaload, 1) := by decide +kernel
theorem dX0_leastIssueTime_6 : decode cX0_leastIssueTime 6 = .ok (.iconst 2, 1) := by decide +kernel
theorem dX0_leastIssueTime_7 : decode cX0_leastIssueTime 7 = .ok (.iadd, 1) := by decide +kernel
theorem dX0_leastIssueTime_8 : decode cX0_leastIssueTime 8 = .ok (.aload_n 0, 1) := by decide +kernel
theorem dX0_leastIssueTime_9 : decode cX0_leastIssueTime 9 = .ok (.iload_n 1, 1) := by decide +kernel
theorem dX0_leastIssueTime_10 : decode cX0_leastIssueTime 10 = .ok (.invokevirtual 141, 3) := by decide +kernel
theorem dX0_leastIssueTime_13 : decode cX0_leastIssueTime 13 = .ok (.invokestatic 136, 3) := by decide +kernel
theorem dX0_leastIssueTime_16 : decode cX0_leastIssueTime 16 = .ok (.istore_n 2, 1) := by decide +kernel
theorem dX0_leastIssueTime_17 : decode cX0_leastIssueTime 17 = .ok (.iload_n 2, 1) := by decide +kernel
theorem dX0_leastIssueTime_18 : decode cX0_leastIssueTime 18 = .ok (.aload_n 0, 1) := by decide +kernel
theorem dX0_leastIssueTime_19 : decode cX0_leastIssueTime 19 = .ok (.aload_n 0, 1) := by decide +kernel
theorem dX0_leastIssueTime_20 : decode cX0_leastIssueTime 20 = .ok (.getfield 20, 3) := by decide +kernel
theorem dX0_leastIssueTime_23 : decode cX0_leastIssueTime 23 = .ok (.iload_n 1, 1) := by decide +kernel
theorem dX0_leastIssueTime_24 : decode cX0_leastIssueTime 24 = .ok (.iaload, 1) := by decide +kernel
theorem dX0_leastIssueTime_25 : decode cX0_leastIssueTime 25 = .ok (.iload_n 1, 1) := by decide +kernel
theorem dX0_leastIssueTime_26 : decode cX0_leastIssueTime 26 = .ok (.invokevirtual 144, 3) := by decide +kernel
theorem dX0_leastIssueTime_29 : decode cX0_leastIssueTime 29 = .ok (.invokestatic 136, 3) := by decide +kernel
theorem dX0_leastIssueTime_32 : decode cX0_leastIssueTime 32 = .ok (.istore_n 2, 1) := by decide +kernel
theorem dX0_leastIssueTime_33 : decode cX0_leastIssueTime 33 = .ok (.iload_n 2, 1) := by decide +kernel
theorem dX0_leastIssueTime_34 : decode cX0_leastIssueTime 34 = .ok (.aload_n 0, 1) := by decide +kernel
theorem dX0_leastIssueTime_35 : decode cX0_leastIssueTime 35 = .ok (.aload_n 0, 1) := by decide +kernel
theorem dX0_leastIssueTime_36 : decode cX0_leastIssueTime 36 = .ok (.getfield 23, 3) := by decide +kernel
theorem dX0_leastIssueTime_39 : decode cX0_leastIssueTime 39 = .ok (.iload_n 1, 1) := by decide +kernel
theorem dX0_leastIssueTime_40 : decode cX0_leastIssueTime 40 = .ok (.iaload, 1) := by decide +kernel
theorem dX0_leastIssueTime_41 : decode cX0_leastIssueTime 41 = .ok (.iload_n 1, 1) := by decide +kernel
theorem dX0_leastIssueTime_42 : decode cX0_leastIssueTime 42 = .ok (.invokevirtual 144, 3) := by decide +kernel
theorem dX0_leastIssueTime_45 : decode cX0_leastIssueTime 45 = .ok (.invokestatic 136, 3) := by decide +kernel
theorem dX0_leastIssueTime_48 : decode cX0_leastIssueTime 48 = .ok (.istore_n 2, 1) := by decide +kernel
theorem dX0_leastIssueTime_49 : decode cX0_leastIssueTime 49 = .ok (.aload_n 0, 1) := by decide +kernel
theorem dX0_leastIssueTime_50 : decode cX0_leastIssueTime 50 = .ok (.getfield 13, 3) := by decide +kernel
theorem dX0_leastIssueTime_53 : decode cX0_leastIssueTime 53 = .ok (.iload_n 1, 1) := by decide +kernel
theorem dX0_leastIssueTime_54 : decode cX0_leastIssueTime 54 = .ok (.iaload, 1) := by decide +kernel
theorem dX0_leastIssueTime_55 : decode cX0_leastIssueTime 55 = .ok (.iconst 4, 1) := by decide +kernel
theorem dX0_leastIssueTime_56 : decode cX0_leastIssueTime 56 = .ok (.if_icmp .ne 13, 3) := by decide +kernel
theorem dX0_leastIssueTime_59 : decode cX0_leastIssueTime 59 = .ok (.iload_n 2, 1) := by decide +kernel
theorem dX0_leastIssueTime_60 : decode cX0_leastIssueTime 60 = .ok (.aload_n 0, 1) := by decide +kernel
theorem dX0_leastIssueTime_61 : decode cX0_leastIssueTime 61 = .ok (.iload_n 1, 1) := by decide +kernel
theorem dX0_leastIssueTime_62 : decode cX0_leastIssueTime 62 = .ok (.invokevirtual 147, 3) := by decide +kernel
theorem dX0_leastIssueTime_65 : decode cX0_leastIssueTime 65 = .ok (.invokestatic 136, 3) := by decide +kernel
theorem dX0_leastIssueTime_68 : decode cX0_leastIssueTime 68 = .ok (.istore_n 2, 1) := by decide +kernel
theorem dX0_leastIssueTime_69 : decode cX0_leastIssueTime 69 = .ok (.aload_n 0, 1) := by decide +kernel
theorem dX0_leastIssueTime_70 : decode cX0_leastIssueTime 70 = .ok (.getfield 13, 3) := by decide +kernel
theorem dX0_leastIssueTime_73 : decode cX0_leastIssueTime 73 = .ok (.iload_n 1, 1) := by decide +kernel
theorem dX0_leastIssueTime_74 : decode cX0_leastIssueTime 74 = .ok (.iaload, 1) := by decide +kernel
theorem dX0_leastIssueTime_75 : decode cX0_leastIssueTime 75 = .ok (.bipush 6, 2) := by decide +kernel
theorem dX0_leastIssueTime_77 : decode cX0_leastIssueTime 77 = .ok (.if_icmp .ne 15, 3) := by decide +kernel
theorem dX0_leastIssueTime_80 : decode cX0_leastIssueTime 80 = .ok (.iload_n 2, 1) := by decide +kernel
theorem dX0_leastIssueTime_81 : decode cX0_leastIssueTime 81 = .ok (.aload_n 0, 1) := by decide +kernel
theorem dX0_leastIssueTime_82 : decode cX0_leastIssueTime 82 = .ok (.iload_n 1, 1) := by decide +kernel
theorem dX0_leastIssueTime_83 : decode cX0_leastIssueTime 83 = .ok (.invokevirtual 89, 3) := by decide +kernel
theorem dX0_leastIssueTime_86 : decode cX0_leastIssueTime 86 = .ok (.iconst 1, 1) := by decide +kernel
theorem dX0_leastIssueTime_87 : decode cX0_leastIssueTime 87 = .ok (.iadd, 1) := by decide +kernel
theorem dX0_leastIssueTime_88 : decode cX0_leastIssueTime 88 = .ok (.invokestatic 136, 3) := by decide +kernel
theorem dX0_leastIssueTime_91 : decode cX0_leastIssueTime 91 = .ok (.istore_n 2, 1) := by decide +kernel
theorem dX0_leastIssueTime_92 : decode cX0_leastIssueTime 92 = .ok (.iload_n 2, 1) := by decide +kernel
theorem dX0_leastIssueTime_93 : decode cX0_leastIssueTime 93 = .ok (.ireturn, 1) := by decide +kernel
theorem dX0_leastInOrder_0 : decode cX0_leastInOrder 0 = .ok (.iload_n 1, 1) := by decide +kernel
theorem dX0_leastInOrder_1 : decode cX0_leastInOrder 1 = .ok (.ifCond .ne 5, 3) := by decide +kernel
theorem dX0_leastInOrder_4 : decode cX0_leastInOrder 4 = .ok (.iconst 1, 1) := by decide +kernel
theorem dX0_leastInOrder_5 : decode cX0_leastInOrder 5 = .ok (.ireturn, 1) := by decide +kernel
theorem dX0_leastInOrder_6 : decode cX0_leastInOrder 6 = .ok (.iload_n 1, 1) := by decide +kernel
theorem dX0_leastInOrder_7 : decode cX0_leastInOrder 7 = .ok (.iconst 1, 1) := by decide +kernel
theorem dX0_leastInOrder_8 : decode cX0_leastInOrder 8 = .ok (.if_icmp .eq 22, 3) := by decide +kernel
theorem dX0_leastInOrder_11 : decode cX0_leastInOrder 11 = .ok (.aload_n 0, 1) := by decide +kernel
theorem dX0_leastInOrder_12 : decode cX0_leastInOrder 12 = .ok (.getfield 48, 3) := by decide +kernel
theorem dX0_leastInOrder_15 : decode cX0_leastInOrder 15 = .ok (.iload_n 1, 1) := by decide +kernel
theorem dX0_leastInOrder_16 : decode cX0_leastInOrder 16 = .ok (.iconst 2, 1) := by decide +kernel
theorem dX0_leastInOrder_17 : decode cX0_leastInOrder 17 = .ok (.isub, 1) := by decide +kernel
theorem dX0_leastInOrder_18 : decode cX0_leastInOrder 18 = .ok (.iaload, 1) := by decide +kernel
theorem dX0_leastInOrder_19 : decode cX0_leastInOrder 19 = .ok (.aload_n 0, 1) := by decide +kernel
theorem dX0_leastInOrder_20 : decode cX0_leastInOrder 20 = .ok (.getfield 48, 3) := by decide +kernel
theorem dX0_leastInOrder_23 : decode cX0_leastInOrder 23 = .ok (.iload_n 1, 1) := by decide +kernel
theorem dX0_leastInOrder_24 : decode cX0_leastInOrder 24 = .ok (.iconst 1, 1) := by decide +kernel
theorem dX0_leastInOrder_25 : decode cX0_leastInOrder 25 = .ok (.isub, 1) := by decide +kernel
theorem dX0_leastInOrder_26 : decode cX0_leastInOrder 26 = .ok (.iaload, 1) := by decide +kernel
theorem dX0_leastInOrder_27 : decode cX0_leastInOrder 27 = .ok (.if_icmp .ge 7, 3) := by decide +kernel
theorem dX0_leastInOrder_30 : decode cX0_leastInOrder 30 = .ok (.iconst 1, 1) := by decide +kernel
theorem dX0_leastInOrder_31 : decode cX0_leastInOrder 31 = .ok (.goto 4, 3) := by decide +kernel
theorem dX0_leastInOrder_34 : decode cX0_leastInOrder 34 = .ok (.iconst 0, 1) := by decide +kernel
theorem dX0_leastInOrder_35 : decode cX0_leastInOrder 35 = .ok (.istore_n 2, 1) := by decide +kernel
theorem dX0_leastInOrder_36 : decode cX0_leastInOrder 36 = .ok (.iload_n 2, 1) := by decide +kernel
theorem dX0_leastInOrder_37 : decode cX0_leastInOrder 37 = .ok (.ifCond .eq 22, 3) := by decide +kernel
theorem dX0_leastInOrder_40 : decode cX0_leastInOrder 40 = .ok (.aload_n 0, 1) := by decide +kernel
theorem dX0_leastInOrder_41 : decode cX0_leastInOrder 41 = .ok (.iload_n 1, 1) := by decide +kernel
theorem dX0_leastInOrder_42 : decode cX0_leastInOrder 42 = .ok (.invokevirtual 150, 3) := by decide +kernel
theorem dX0_leastInOrder_45 : decode cX0_leastInOrder 45 = .ok (.ifCond .eq 14, 3) := by decide +kernel
theorem dX0_leastInOrder_48 : decode cX0_leastInOrder 48 = .ok (.aload_n 0, 1) := by decide +kernel
theorem dX0_leastInOrder_49 : decode cX0_leastInOrder 49 = .ok (.getfield 48, 3) := by decide +kernel
theorem dX0_leastInOrder_52 : decode cX0_leastInOrder 52 = .ok (.iload_n 1, 1) := by decide +kernel
theorem dX0_leastInOrder_53 : decode cX0_leastInOrder 53 = .ok (.iconst 1, 1) := by decide +kernel
theorem dX0_leastInOrder_54 : decode cX0_leastInOrder 54 = .ok (.isub, 1) := by decide +kernel
theorem dX0_leastInOrder_55 : decode cX0_leastInOrder 55 = .ok (.iaload, 1) := by decide +kernel
theorem dX0_leastInOrder_56 : decode cX0_leastInOrder 56 = .ok (.goto 13, 3) := by decide +kernel
theorem dX0_leastInOrder_59 : decode cX0_leastInOrder 59 = .ok (.aload_n 0, 1) := by decide +kernel
theorem dX0_leastInOrder_60 : decode cX0_leastInOrder 60 = .ok (.getfield 48, 3) := by decide +kernel
theorem dX0_leastInOrder_63 : decode cX0_leastInOrder 63 = .ok (.iload_n 1, 1) := by decide +kernel
theorem dX0_leastInOrder_64 : decode cX0_leastInOrder 64 = .ok (.iconst 1, 1) := by decide +kernel
theorem dX0_leastInOrder_65 : decode cX0_leastInOrder 65 = .ok (.isub, 1) := by decide +kernel
theorem dX0_leastInOrder_66 : decode cX0_leastInOrder 66 = .ok (.iaload, 1) := by decide +kernel
theorem dX0_leastInOrder_67 : decode cX0_leastInOrder 67 = .ok (.iconst 1, 1) := by decide +kernel
theorem dX0_leastInOrder_68 : decode cX0_leastInOrder 68 = .ok (.iadd, 1) := by decide +kernel
theorem dX0_leastInOrder_69 : decode cX0_leastInOrder 69 = .ok (.ireturn, 1) := by decide +kernel
theorem dX0_makesPair_0 : decode cX0_makesPair 0 = .ok (.iload_n 1, 1) := by decide +kernel
theorem dX0_makesPair_1 : decode cX0_makesPair 1 = .ok (.ifCond .ne 5, 3) := by decide +kernel
theorem dX0_makesPair_4 : decode cX0_makesPair 4 = .ok (.iconst 0, 1) := by decide +kernel
theorem dX0_makesPair_5 : decode cX0_makesPair 5 = .ok (.ireturn, 1) := by decide +kernel
theorem dX0_makesPair_6 : decode cX0_makesPair 6 = .ok (.aload_n 0, 1) := by decide +kernel
theorem dX0_makesPair_7 : decode cX0_makesPair 7 = .ok (.getfield 13, 3) := by decide +kernel
theorem dX0_makesPair_10 : decode cX0_makesPair 10 = .ok (.iload_n 1, 1) := by decide +kernel
theorem dX0_makesPair_11 : decode cX0_makesPair 11 = .ok (.iconst 1, 1) := by decide +kernel
theorem dX0_makesPair_12 : decode cX0_makesPair 12 = .ok (.isub, 1) := by decide +kernel
theorem dX0_makesPair_13 : decode cX0_makesPair 13 = .ok (.iaload, 1) := by decide +kernel
theorem dX0_makesPair_14 : decode cX0_makesPair 14 = .ok (.istore_n 2, 1) := by decide +kernel
theorem dX0_makesPair_15 : decode cX0_makesPair 15 = .ok (.aload_n 0, 1) := by decide +kernel
theorem dX0_makesPair_16 : decode cX0_makesPair 16 = .ok (.getfield 13, 3) := by decide +kernel
theorem dX0_makesPair_19 : decode cX0_makesPair 19 = .ok (.iload_n 1, 1) := by decide +kernel
theorem dX0_makesPair_20 : decode cX0_makesPair 20 = .ok (.iaload, 1) := by decide +kernel
theorem dX0_makesPair_21 : decode cX0_makesPair 21 = .ok (.istore_n 3, 1) := by decide +kernel
theorem dX0_makesPair_22 : decode cX0_makesPair 22 = .ok (.iload_n 2, 1) := by decide +kernel
theorem dX0_makesPair_23 : decode cX0_makesPair 23 = .ok (.bipush 6, 2) := by decide +kernel
theorem dX0_makesPair_25 : decode cX0_makesPair 25 = .ok (.if_icmp .eq 14, 3) := by decide +kernel
theorem dX0_makesPair_28 : decode cX0_makesPair 28 = .ok (.iload_n 3, 1) := by decide +kernel
theorem dX0_makesPair_29 : decode cX0_makesPair 29 = .ok (.bipush 6, 2) := by decide +kernel
theorem dX0_makesPair_31 : decode cX0_makesPair 31 = .ok (.if_icmp .eq 8, 3) := by decide +kernel
theorem dX0_makesPair_34 : decode cX0_makesPair 34 = .ok (.iload_n 2, 1) := by decide +kernel
theorem dX0_makesPair_35 : decode cX0_makesPair 35 = .ok (.iconst 5, 1) := by decide +kernel
theorem dX0_makesPair_36 : decode cX0_makesPair 36 = .ok (.if_icmp .ne 5, 3) := by decide +kernel
theorem dX0_makesPair_39 : decode cX0_makesPair 39 = .ok (.iconst 0, 1) := by decide +kernel
theorem dX0_makesPair_40 : decode cX0_makesPair 40 = .ok (.ireturn, 1) := by decide +kernel
theorem dX0_makesPair_41 : decode cX0_makesPair 41 = .ok (.iload_n 2, 1) := by decide +kernel
theorem dX0_makesPair_42 : decode cX0_makesPair 42 = .ok (.invokestatic 153, 3) := by decide +kernel
theorem dX0_makesPair_45 : decode cX0_makesPair 45 = .ok (.ifCond .eq 12, 3) := by decide +kernel
theorem dX0_makesPair_48 : decode cX0_makesPair 48 = .ok (.iload_n 3, 1) := by decide +kernel
theorem dX0_makesPair_49 : decode cX0_makesPair 49 = .ok (.invokestatic 153, 3) := by decide +kernel
theorem dX0_makesPair_52 : decode cX0_makesPair 52 = .ok (.ifCond .eq 5, 3) := by decide +kernel
theorem dX0_makesPair_55 : decode cX0_makesPair 55 = .ok (.iconst 0, 1) := by decide +kernel
theorem dX0_makesPair_56 : decode cX0_makesPair 56 = .ok (.ireturn, 1) := by decide +kernel
theorem dX0_makesPair_57 : decode cX0_makesPair 57 = .ok (.iload_n 2, 1) := by decide +kernel
theorem dX0_makesPair_58 : decode cX0_makesPair 58 = .ok (.invokestatic 156, 3) := by decide +kernel
theorem dX0_makesPair_61 : decode cX0_makesPair 61 = .ok (.ifCond .eq 12, 3) := by decide +kernel
theorem dX0_makesPair_64 : decode cX0_makesPair 64 = .ok (.iload_n 3, 1) := by decide +kernel
theorem dX0_makesPair_65 : decode cX0_makesPair 65 = .ok (.invokestatic 156, 3) := by decide +kernel
theorem dX0_makesPair_68 : decode cX0_makesPair 68 = .ok (.ifCond .eq 5, 3) := by decide +kernel
theorem dX0_makesPair_71 : decode cX0_makesPair 71 = .ok (.iconst 0, 1) := by decide +kernel
theorem dX0_makesPair_72 : decode cX0_makesPair 72 = .ok (.ireturn, 1) := by decide +kernel
theorem dX0_makesPair_73 : decode cX0_makesPair 73 = .ok (.aload_n 0, 1) := by decide +kernel
theorem dX0_makesPair_74 : decode cX0_makesPair 74 = .ok (.iload_n 1, 1) := by decide +kernel
theorem dX0_makesPair_75 : decode cX0_makesPair 75 = .ok (.aload_n 0, 1) := by decide +kernel
theorem dX0_makesPair_76 : decode cX0_makesPair 76 = .ok (.getfield 17, 3) := by decide +kernel
theorem dX0_makesPair_79 : decode cX0_makesPair 79 = .ok (.iload_n 1, 1) := by decide +kernel
theorem dX0_makesPair_80 : decode cX0_makesPair 80 = .ok (.iconst 1, 1) := by decide +kernel
theorem dX0_makesPair_81 : decode cX0_makesPair 81 = .ok (.isub, 1) := by decide +kernel
theorem dX0_makesPair_82 : decode cX0_makesPair 82 = .ok (.iaload, 1) := by decide +kernel
theorem dX0_makesPair_83 : decode cX0_makesPair 83 = .ok (.invokevirtual 159, 3) := by decide +kernel
theorem dX0_makesPair_86 : decode cX0_makesPair 86 = .ok (.ifCond .ne 7, 3) := by decide +kernel
theorem dX0_makesPair_89 : decode cX0_makesPair 89 = .ok (.iconst 1, 1) := by decide +kernel
theorem dX0_makesPair_90 : decode cX0_makesPair 90 = .ok (.goto 4, 3) := by decide +kernel
theorem dX0_makesPair_93 : decode cX0_makesPair 93 = .ok (.iconst 0, 1) := by decide +kernel
theorem dX0_makesPair_94 : decode cX0_makesPair 94 = .ok (.ireturn, 1) := by decide +kernel
theorem dX0_usesMemory_0 : decode cX0_usesMemory 0 = .ok (.iload_n 0, 1) := by decide +kernel
theorem dX0_usesMemory_1 : decode cX0_usesMemory 1 = .ok (.iconst 1, 1) := by decide +kernel
theorem dX0_usesMemory_2 : decode cX0_usesMemory 2 = .ok (.if_icmp .eq 8, 3) := by decide +kernel
theorem dX0_usesMemory_5 : decode cX0_usesMemory 5 = .ok (.iload_n 0, 1) := by decide +kernel
theorem dX0_usesMemory_6 : decode cX0_usesMemory 6 = .ok (.iconst 2, 1) := by decide +kernel
theorem dX0_usesMemory_7 : decode cX0_usesMemory 7 = .ok (.if_icmp .ne 7, 3) := by decide +kernel
theorem dX0_usesMemory_10 : decode cX0_usesMemory 10 = .ok (.iconst 1, 1) := by decide +kernel
theorem dX0_usesMemory_11 : decode cX0_usesMemory 11 = .ok (.goto 4, 3) := by decide +kernel
theorem dX0_usesMemory_14 : decode cX0_usesMemory 14 = .ok (.iconst 0, 1) := by decide +kernel
theorem dX0_usesMemory_15 : decode cX0_usesMemory 15 = .ok (.ireturn, 1) := by decide +kernel
theorem dX0_usesMultiplier_0 : decode cX0_usesMultiplier 0 = .ok (.iload_n 0, 1) := by decide +kernel
theorem dX0_usesMultiplier_1 : decode cX0_usesMultiplier 1 = .ok (.iconst 3, 1) := by decide +kernel
theorem dX0_usesMultiplier_2 : decode cX0_usesMultiplier 2 = .ok (.if_icmp .eq 8, 3) := by decide +kernel
theorem dX0_usesMultiplier_5 : decode cX0_usesMultiplier 5 = .ok (.iload_n 0, 1) := by decide +kernel
theorem dX0_usesMultiplier_6 : decode cX0_usesMultiplier 6 = .ok (.iconst 4, 1) := by decide +kernel
theorem dX0_usesMultiplier_7 : decode cX0_usesMultiplier 7 = .ok (.if_icmp .ne 7, 3) := by decide +kernel
theorem dX0_usesMultiplier_10 : decode cX0_usesMultiplier 10 = .ok (.iconst 1, 1) := by decide +kernel
theorem dX0_usesMultiplier_11 : decode cX0_usesMultiplier 11 = .ok (.goto 4, 3) := by decide +kernel
theorem dX0_usesMultiplier_14 : decode cX0_usesMultiplier 14 = .ok (.iconst 0, 1) := by decide +kernel
theorem dX0_usesMultiplier_15 : decode cX0_usesMultiplier 15 = .ok (.ireturn, 1) := by decide +kernel
theorem dX0_reads_0 : decode cX0_reads 0 = .ok (.iload_n 2, 1) := by decide +kernel
theorem dX0_reads_1 : decode cX0_reads 1 = .ok (.ifCond .eq 27, 3) := by decide +kernel
theorem dX0_reads_4 : decode cX0_reads 4 = .ok (.aload_n 0, 1) := by decide +kernel
theorem dX0_reads_5 : decode cX0_reads 5 = .ok (.getfield 20, 3) := by decide +kernel
theorem dX0_reads_8 : decode cX0_reads 8 = .ok (.iload_n 1, 1) := by decide +kernel
theorem dX0_reads_9 : decode cX0_reads 9 = .ok (.iaload, 1) := by decide +kernel
theorem dX0_reads_10 : decode cX0_reads 10 = .ok (.iload_n 2, 1) := by decide +kernel
end
section
theorem dX0_reads_11 : decode cX0_reads 11 = .ok (.if_icmp .eq 13, 3) := by decide +kernel
theorem dX0_reads_14 : decode cX0_reads 14 = .ok (.aload_n 0, 1) := by decide +kernel
theorem dX0_reads_15 : decode cX0_reads 15 = .ok (.getfield 23, 3) := by decide +kernel
theorem dX0_reads_18 : decode cX0_reads 18 = .ok (.iload_n 1, 1) := by decide +kernel
theorem dX0_reads_19 : decode cX0_reads 19 = .ok (.iaload, 1) := by decide +kernel
theorem dX0_reads_20 : decode cX0_reads 20 = .ok (.iload_n 2, 1) := by decide +kernel
theorem dX0_reads_21 : decode cX0_reads 21 = .ok (.if_icmp .ne 7, 3) := by decide +kernel
theorem dX0_reads_24 : decode cX0_reads 24 = .ok (.iconst 1, 1) := by decide +kernel
theorem dX0_reads_25 : decode cX0_reads 25 = .ok (.goto 4, 3) := by decide +kernel
theorem dX0_reads_28 : decode cX0_reads 28 = .ok (.iconst 0, 1) := by decide +kernel
theorem dX0_reads_29 : decode cX0_reads 29 = .ok (.ireturn, 1) := by decide +kernel
theorem dX0_whenReadable_0 : decode cX0_whenReadable 0 = .ok (.iload_n 1, 1) := by decide +kernel
theorem dX0_whenReadable_1 : decode cX0_whenReadable 1 = .ok (.ifCond .ne 5, 3) := by decide +kernel
theorem dX0_whenReadable_4 : decode cX0_whenReadable 4 = .ok (.iconst 0, 1) := by decide +kernel
theorem dX0_whenReadable_5 : decode cX0_whenReadable 5 = .ok (.ireturn, 1) := by decide +kernel
theorem dX0_whenReadable_6 : decode cX0_whenReadable 6 = .ok (.iload_n 2, 1) := by decide +kernel
theorem dX0_whenReadable_7 : decode cX0_whenReadable 7 = .ok (.iconst 1, 1) := by decide +kernel
theorem dX0_whenReadable_8 : decode cX0_whenReadable 8 = .ok (.isub, 1) := by decide +kernel
theorem dX0_whenReadable_9 : decode cX0_whenReadable 9 = .ok (.istore_n 3, 1) := by decide +kernel
theorem dX0_whenReadable_10 : decode cX0_whenReadable 10 = .ok (.iload_n 3, 1) := by decide +kernel
theorem dX0_whenReadable_11 : decode cX0_whenReadable 11 = .ok (.ifCond .lt 45, 3) := by decide +kernel
theorem dX0_whenReadable_14 : decode cX0_whenReadable 14 = .ok (.aload_n 0, 1) := by decide +kernel
theorem dX0_whenReadable_15 : decode cX0_whenReadable 15 = .ok (.getfield 17, 3) := by decide +kernel
theorem dX0_whenReadable_18 : decode cX0_whenReadable 18 = .ok (.iload_n 3, 1) := by decide +kernel
theorem dX0_whenReadable_19 : decode cX0_whenReadable 19 = .ok (.iaload, 1) := by decide +kernel
theorem dX0_whenReadable_20 : decode cX0_whenReadable 20 = .ok (.iload_n 1, 1) := by decide +kernel
theorem dX0_whenReadable_21 : decode cX0_whenReadable 21 = .ok (.if_icmp .ne 29, 3) := by decide +kernel
theorem dX0_whenReadable_24 : decode cX0_whenReadable 24 = .ok (.aload_n 0, 1) := by decide +kernel
theorem dX0_whenReadable_25 : decode cX0_whenReadable 25 = .ok (.getfield 39, 3) := by decide +kernel
theorem dX0_whenReadable_28 : decode cX0_whenReadable 28 = .ok (.iload_n 3, 1) := by decide +kernel
theorem dX0_whenReadable_29 : decode cX0_whenReadable 29 = .ok (.baload, 1) := by decide +kernel
theorem dX0_whenReadable_30 : decode cX0_whenReadable 30 = .ok (.ifCond .ne 20, 3) := by decide +kernel
theorem dX0_whenReadable_33 : decode cX0_whenReadable 33 = .ok (.aload_n 0, 1) := by decide +kernel
theorem dX0_whenReadable_34 : decode cX0_whenReadable 34 = .ok (.getfield 48, 3) := by decide +kernel
theorem dX0_whenReadable_37 : decode cX0_whenReadable 37 = .ok (.iload_n 3, 1) := by decide +kernel
theorem dX0_whenReadable_38 : decode cX0_whenReadable 38 = .ok (.iaload, 1) := by decide +kernel
theorem dX0_whenReadable_39 : decode cX0_whenReadable 39 = .ok (.aload_n 0, 1) := by decide +kernel
theorem dX0_whenReadable_40 : decode cX0_whenReadable 40 = .ok (.getfield 13, 3) := by decide +kernel
theorem dX0_whenReadable_43 : decode cX0_whenReadable 43 = .ok (.iload_n 3, 1) := by decide +kernel
theorem dX0_whenReadable_44 : decode cX0_whenReadable 44 = .ok (.iaload, 1) := by decide +kernel
theorem dX0_whenReadable_45 : decode cX0_whenReadable 45 = .ok (.invokestatic 163, 3) := by decide +kernel
theorem dX0_whenReadable_48 : decode cX0_whenReadable 48 = .ok (.iadd, 1) := by decide +kernel
theorem dX0_whenReadable_49 : decode cX0_whenReadable 49 = .ok (.ireturn, 1) := by decide +kernel
theorem dX0_whenReadable_50 : decode cX0_whenReadable 50 = .ok (.iinc 3 (-1), 3) := by decide +kernel
theorem dX0_whenReadable_53 : decode cX0_whenReadable 53 = .ok (.goto (-43), 3) := by decide +kernel
theorem dX0_whenReadable_56 : decode cX0_whenReadable 56 = .ok (.iconst 0, 1) := by decide +kernel
theorem dX0_whenReadable_57 : decode cX0_whenReadable 57 = .ok (.ireturn, 1) := by decide +kernel
theorem dX0_delayOf_0 : decode cX0_delayOf 0 = .ok (.iload_n 0, 1) := by decide +kernel
theorem dX0_delayOf_1 : decode cX0_delayOf 1 = .ok (.tableswitch 38 1 4 #[31, 38, 33, 35], 31) := by decide +kernel
theorem dX0_delayOf_32 : decode cX0_delayOf 32 = .ok (.iconst 2, 1) := by decide +kernel
theorem dX0_delayOf_33 : decode cX0_delayOf 33 = .ok (.ireturn, 1) := by decide +kernel
theorem dX0_delayOf_34 : decode cX0_delayOf 34 = .ok (.iconst 3, 1) := by decide +kernel
theorem dX0_delayOf_35 : decode cX0_delayOf 35 = .ok (.ireturn, 1) := by decide +kernel
theorem dX0_delayOf_36 : decode cX0_delayOf 36 = .ok (.bipush 18, 2) := by decide +kernel
theorem dX0_delayOf_38 : decode cX0_delayOf 38 = .ok (.ireturn, 1) := by decide +kernel
theorem dX0_delayOf_39 : decode cX0_delayOf 39 = .ok (.iconst 1, 1) := by decide +kernel
theorem dX0_delayOf_40 : decode cX0_delayOf 40 = .ok (.ireturn, 1) := by decide +kernel
theorem dX0_whenDividerIsFree_0 : decode cX0_whenDividerIsFree 0 = .ok (.iload_n 1, 1) := by decide +kernel
theorem dX0_whenDividerIsFree_1 : decode cX0_whenDividerIsFree 1 = .ok (.iconst 1, 1) := by decide +kernel
theorem dX0_whenDividerIsFree_2 : decode cX0_whenDividerIsFree 2 = .ok (.isub, 1) := by decide +kernel
theorem dX0_whenDividerIsFree_3 : decode cX0_whenDividerIsFree 3 = .ok (.istore_n 2, 1) := by decide +kernel
theorem dX0_whenDividerIsFree_4 : decode cX0_whenDividerIsFree 4 = .ok (.iload_n 2, 1) := by decide +kernel
theorem dX0_whenDividerIsFree_5 : decode cX0_whenDividerIsFree 5 = .ok (.ifCond .lt 29, 3) := by decide +kernel
theorem dX0_whenDividerIsFree_8 : decode cX0_whenDividerIsFree 8 = .ok (.aload_n 0, 1) := by decide +kernel
theorem dX0_whenDividerIsFree_9 : decode cX0_whenDividerIsFree 9 = .ok (.getfield 13, 3) := by decide +kernel
theorem dX0_whenDividerIsFree_12 : decode cX0_whenDividerIsFree 12 = .ok (.iload_n 2, 1) := by decide +kernel
theorem dX0_whenDividerIsFree_13 : decode cX0_whenDividerIsFree 13 = .ok (.iaload, 1) := by decide +kernel
theorem dX0_whenDividerIsFree_14 : decode cX0_whenDividerIsFree 14 = .ok (.iconst 4, 1) := by decide +kernel
theorem dX0_whenDividerIsFree_15 : decode cX0_whenDividerIsFree 15 = .ok (.if_icmp .ne 13, 3) := by decide +kernel
theorem dX0_whenDividerIsFree_18 : decode cX0_whenDividerIsFree 18 = .ok (.aload_n 0, 1) := by decide +kernel
theorem dX0_whenDividerIsFree_19 : decode cX0_whenDividerIsFree 19 = .ok (.getfield 48, 3) := by decide +kernel
theorem dX0_whenDividerIsFree_22 : decode cX0_whenDividerIsFree 22 = .ok (.iload_n 2, 1) := by decide +kernel
theorem dX0_whenDividerIsFree_23 : decode cX0_whenDividerIsFree 23 = .ok (.iaload, 1) := by decide +kernel
theorem dX0_whenDividerIsFree_24 : decode cX0_whenDividerIsFree 24 = .ok (.bipush 18, 2) := by decide +kernel
theorem dX0_whenDividerIsFree_26 : decode cX0_whenDividerIsFree 26 = .ok (.iadd, 1) := by decide +kernel
theorem dX0_whenDividerIsFree_27 : decode cX0_whenDividerIsFree 27 = .ok (.ireturn, 1) := by decide +kernel
theorem dX0_whenDividerIsFree_28 : decode cX0_whenDividerIsFree 28 = .ok (.iinc 2 (-1), 3) := by decide +kernel
theorem dX0_whenDividerIsFree_31 : decode cX0_whenDividerIsFree 31 = .ok (.goto (-27), 3) := by decide +kernel
theorem dX0_whenDividerIsFree_34 : decode cX0_whenDividerIsFree 34 = .ok (.iconst 0, 1) := by decide +kernel
theorem dX0_whenDividerIsFree_35 : decode cX0_whenDividerIsFree 35 = .ok (.ireturn, 1) := by decide +kernel
theorem dX0_isIssuedAsSecond_0 : decode cX0_isIssuedAsSecond 0 = .ok (.iload_n 1, 1) := by decide +kernel
theorem dX0_isIssuedAsSecond_1 : decode cX0_isIssuedAsSecond 1 = .ok (.ifCond .le 24, 3) := by decide +kernel
theorem dX0_isIssuedAsSecond_4 : decode cX0_isIssuedAsSecond 4 = .ok (.aload_n 0, 1) := by decide +kernel
theorem dX0_isIssuedAsSecond_5 : decode cX0_isIssuedAsSecond 5 = .ok (.getfield 48, 3) := by decide +kernel
theorem dX0_isIssuedAsSecond_8 : decode cX0_isIssuedAsSecond 8 = .ok (.iload_n 1, 1) := by decide +kernel
theorem dX0_isIssuedAsSecond_9 : decode cX0_isIssuedAsSecond 9 = .ok (.iconst 1, 1) := by decide +kernel
theorem dX0_isIssuedAsSecond_10 : decode cX0_isIssuedAsSecond 10 = .ok (.isub, 1) := by decide +kernel
theorem dX0_isIssuedAsSecond_11 : decode cX0_isIssuedAsSecond 11 = .ok (.iaload, 1) := by decide +kernel
theorem dX0_isIssuedAsSecond_12 : decode cX0_isIssuedAsSecond 12 = .ok (.aload_n 0, 1) := by decide +kernel
theorem dX0_isIssuedAsSecond_13 : decode cX0_isIssuedAsSecond 13 = .ok (.getfield 48, 3) := by decide +kernel
theorem dX0_isIssuedAsSecond_16 : decode cX0_isIssuedAsSecond 16 = .ok (.iload_n 1, 1) := by decide +kernel
theorem dX0_isIssuedAsSecond_17 : decode cX0_isIssuedAsSecond 17 = .ok (.iaload, 1) := by decide +kernel
theorem dX0_isIssuedAsSecond_18 : decode cX0_isIssuedAsSecond 18 = .ok (.if_icmp .ne 7, 3) := by decide +kernel
theorem dX0_isIssuedAsSecond_21 : decode cX0_isIssuedAsSecond 21 = .ok (.iconst 1, 1) := by decide +kernel
theorem dX0_isIssuedAsSecond_22 : decode cX0_isIssuedAsSecond 22 = .ok (.goto 4, 3) := by decide +kernel
theorem dX0_isIssuedAsSecond_25 : decode cX0_isIssuedAsSecond 25 = .ok (.iconst 0, 1) := by decide +kernel
theorem dX0_isIssuedAsSecond_26 : decode cX0_isIssuedAsSecond 26 = .ok (.ireturn, 1) := by decide +kernel
theorem dX0_leastDoneTime_0 : decode cX0_leastDoneTime 0 = .ok (.aload_n 0, 1) := by decide +kernel
theorem dX0_leastDoneTime_1 : decode cX0_leastDoneTime 1 = .ok (.getfield 48, 3) := by decide +kernel
theorem dX0_leastDoneTime_4 : decode cX0_leastDoneTime 4 = .ok (.iload_n 1, 1) := by decide +kernel
theorem dX0_leastDoneTime_5 : decode cX0_leastDoneTime 5 = .ok (.iaload, 1) := by decide +kernel
theorem dX0_leastDoneTime_6 : decode cX0_leastDoneTime 6 = .ok (.aload_n 0, 1) := by decide +kernel
theorem dX0_leastDoneTime_7 : decode cX0_leastDoneTime 7 = .ok (.getfield 13, 3) := by decide +kernel
theorem dX0_leastDoneTime_10 : decode cX0_leastDoneTime 10 = .ok (.iload_n 1, 1) := by decide +kernel
theorem dX0_leastDoneTime_11 : decode cX0_leastDoneTime 11 = .ok (.iaload, 1) := by decide +kernel
theorem dX0_leastDoneTime_12 : decode cX0_leastDoneTime 12 = .ok (.invokestatic 166, 3) := by decide +kernel
theorem dX0_leastDoneTime_15 : decode cX0_leastDoneTime 15 = .ok (.iadd, 1) := by decide +kernel
theorem dX0_leastDoneTime_16 : decode cX0_leastDoneTime 16 = .ok (.aload_n 0, 1) := by decide +kernel
theorem dX0_leastDoneTime_17 : decode cX0_leastDoneTime 17 = .ok (.iload_n 1, 1) := by decide +kernel
theorem dX0_leastDoneTime_18 : decode cX0_leastDoneTime 18 = .ok (.invokevirtual 89, 3) := by decide +kernel
theorem dX0_leastDoneTime_21 : decode cX0_leastDoneTime 21 = .ok (.invokestatic 136, 3) := by decide +kernel
theorem dX0_leastDoneTime_24 : decode cX0_leastDoneTime 24 = .ok (.istore_n 2, 1) := by decide +kernel
theorem dX0_leastDoneTime_25 : decode cX0_leastDoneTime 25 = .ok (.iload_n 1, 1) := by decide +kernel
theorem dX0_leastDoneTime_26 : decode cX0_leastDoneTime 26 = .ok (.iconst 1, 1) := by decide +kernel
theorem dX0_leastDoneTime_27 : decode cX0_leastDoneTime 27 = .ok (.if_icmp .le 18, 3) := by decide +kernel
theorem dX0_leastDoneTime_30 : decode cX0_leastDoneTime 30 = .ok (.iload_n 2, 1) := by decide +kernel
theorem dX0_leastDoneTime_31 : decode cX0_leastDoneTime 31 = .ok (.aload_n 0, 1) := by decide +kernel
theorem dX0_leastDoneTime_32 : decode cX0_leastDoneTime 32 = .ok (.getfield 51, 3) := by decide +kernel
theorem dX0_leastDoneTime_35 : decode cX0_leastDoneTime 35 = .ok (.iload_n 1, 1) := by decide +kernel
theorem dX0_leastDoneTime_36 : decode cX0_leastDoneTime 36 = .ok (.iconst 2, 1) := by decide +kernel
theorem dX0_leastDoneTime_37 : decode cX0_leastDoneTime 37 = .ok (.isub, 1) := by decide +kernel
theorem dX0_leastDoneTime_38 : decode cX0_leastDoneTime 38 = .ok (.iaload, 1) := by decide +kernel
theorem dX0_leastDoneTime_39 : decode cX0_leastDoneTime 39 = .ok (.iconst 1, 1) := by decide +kernel
theorem dX0_leastDoneTime_40 : decode cX0_leastDoneTime 40 = .ok (.iadd, 1) := by decide +kernel
theorem dX0_leastDoneTime_41 : decode cX0_leastDoneTime 41 = .ok (.invokestatic 136, 3) := by decide +kernel
theorem dX0_leastDoneTime_44 : decode cX0_leastDoneTime 44 = .ok (.istore_n 2, 1) := by decide +kernel
theorem dX0_leastDoneTime_45 : decode cX0_leastDoneTime 45 = .ok (.aload_n 0, 1) := by decide +kernel
theorem dX0_leastDoneTime_46 : decode cX0_leastDoneTime 46 = .ok (.getfield 39, 3) := by decide +kernel
theorem dX0_leastDoneTime_49 : decode cX0_leastDoneTime 49 = .ok (.iload_n 1, 1) := by decide +kernel
theorem dX0_leastDoneTime_50 : decode cX0_leastDoneTime 50 = .ok (.baload, 1) := by decide +kernel
theorem dX0_leastDoneTime_51 : decode cX0_leastDoneTime 51 = .ok (.ifCond .eq 15, 3) := by decide +kernel
theorem dX0_leastDoneTime_54 : decode cX0_leastDoneTime 54 = .ok (.iload_n 2, 1) := by decide +kernel
theorem dX0_leastDoneTime_55 : decode cX0_leastDoneTime 55 = .ok (.aload_n 0, 1) := by decide +kernel
theorem dX0_leastDoneTime_56 : decode cX0_leastDoneTime 56 = .ok (.iload_n 1, 1) := by decide +kernel
theorem dX0_leastDoneTime_57 : decode cX0_leastDoneTime 57 = .ok (.invokevirtual 89, 3) := by decide +kernel
theorem dX0_leastDoneTime_60 : decode cX0_leastDoneTime 60 = .ok (.iconst 1, 1) := by decide +kernel
theorem dX0_leastDoneTime_61 : decode cX0_leastDoneTime 61 = .ok (.iadd, 1) := by decide +kernel
theorem dX0_leastDoneTime_62 : decode cX0_leastDoneTime 62 = .ok (.invokestatic 136, 3) := by decide +kernel
theorem dX0_leastDoneTime_65 : decode cX0_leastDoneTime 65 = .ok (.istore_n 2, 1) := by decide +kernel
theorem dX0_leastDoneTime_66 : decode cX0_leastDoneTime 66 = .ok (.iload_n 2, 1) := by decide +kernel
theorem dX0_leastDoneTime_67 : decode cX0_leastDoneTime 67 = .ok (.ireturn, 1) := by decide +kernel
theorem dX0_workOf_0 : decode cX0_workOf 0 = .ok (.iload_n 0, 1) := by decide +kernel
theorem dX0_workOf_1 : decode cX0_workOf 1 = .ok (.lookupswitch 32 #[(3, 27), (4, 29)], 27) := by decide +kernel
theorem dX0_workOf_28 : decode cX0_workOf 28 = .ok (.iconst 5, 1) := by decide +kernel
theorem dX0_workOf_29 : decode cX0_workOf 29 = .ok (.ireturn, 1) := by decide +kernel
theorem dX0_workOf_30 : decode cX0_workOf 30 = .ok (.bipush 20, 2) := by decide +kernel
theorem dX0_workOf_32 : decode cX0_workOf 32 = .ok (.ireturn, 1) := by decide +kernel
theorem dX0_workOf_33 : decode cX0_workOf 33 = .ok (.iconst 3, 1) := by decide +kernel
theorem dX0_workOf_34 : decode cX0_workOf 34 = .ok (.ireturn, 1) := by decide +kernel
theorem dX0_doneBefore_0 : decode cX0_doneBefore 0 = .ok (.iload_n 1, 1) := by decide +kernel
theorem dX0_doneBefore_1 : decode cX0_doneBefore 1 = .ok (.ifCond .le 14, 3) := by decide +kernel
theorem dX0_doneBefore_4 : decode cX0_doneBefore 4 = .ok (.aload_n 0, 1) := by decide +kernel
theorem dX0_doneBefore_5 : decode cX0_doneBefore 5 = .ok (.getfield 51, 3) := by decide +kernel
theorem dX0_doneBefore_8 : decode cX0_doneBefore 8 = .ok (.iload_n 1, 1) := by decide +kernel
theorem dX0_doneBefore_9 : decode cX0_doneBefore 9 = .ok (.iconst 1, 1) := by decide +kernel
theorem dX0_doneBefore_10 : decode cX0_doneBefore 10 = .ok (.isub, 1) := by decide +kernel
theorem dX0_doneBefore_11 : decode cX0_doneBefore 11 = .ok (.iaload, 1) := by decide +kernel
theorem dX0_doneBefore_12 : decode cX0_doneBefore 12 = .ok (.goto 4, 3) := by decide +kernel
theorem dX0_doneBefore_15 : decode cX0_doneBefore 15 = .ok (.iconst 0, 1) := by decide +kernel
theorem dX0_doneBefore_16 : decode cX0_doneBefore 16 = .ok (.ireturn, 1) := by decide +kernel
theorem dX0_stageAt_0 : decode cX0_stageAt 0 = .ok (.iload_n 2, 1) := by decide +kernel
theorem dX0_stageAt_1 : decode cX0_stageAt 1 = .ok (.aload_n 0, 1) := by decide +kernel
theorem dX0_stageAt_2 : decode cX0_stageAt 2 = .ok (.getfield 45, 3) := by decide +kernel
theorem dX0_stageAt_5 : decode cX0_stageAt 5 = .ok (.iload_n 1, 1) := by decide +kernel
theorem dX0_stageAt_6 : decode cX0_stageAt 6 = .ok (.iaload, 1) := by decide +kernel
theorem dX0_stageAt_7 : decode cX0_stageAt 7 = .ok (.if_icmp .ge 5, 3) := by decide +kernel
theorem dX0_stageAt_10 : decode cX0_stageAt 10 = .ok (.iconst 0, 1) := by decide +kernel
theorem dX0_stageAt_11 : decode cX0_stageAt 11 = .ok (.ireturn, 1) := by decide +kernel
theorem dX0_stageAt_12 : decode cX0_stageAt 12 = .ok (.iload_n 2, 1) := by decide +kernel
theorem dX0_stageAt_13 : decode cX0_stageAt 13 = .ok (.aload_n 0, 1) := by decide +kernel
theorem dX0_stageAt_14 : decode cX0_stageAt 14 = .ok (.getfield 48, 3) := by decide +kernel
theorem dX0_stageAt_17 : decode cX0_stageAt 17 = .ok (.iload_n 1, 1) := by decide +kernel
theorem dX0_stageAt_18 : decode cX0_stageAt 18 = .ok (.iaload, 1) := by decide +kernel
theorem dX0_stageAt_19 : decode cX0_stageAt 19 = .ok (.if_icmp .ge 5, 3) := by decide +kernel
theorem dX0_stageAt_22 : decode cX0_stageAt 22 = .ok (.iconst 1, 1) := by decide +kernel
theorem dX0_stageAt_23 : decode cX0_stageAt 23 = .ok (.ireturn, 1) := by decide +kernel
theorem dX0_stageAt_24 : decode cX0_stageAt 24 = .ok (.iload_n 2, 1) := by decide +kernel
theorem dX0_stageAt_25 : decode cX0_stageAt 25 = .ok (.aload_n 0, 1) := by decide +kernel
theorem dX0_stageAt_26 : decode cX0_stageAt 26 = .ok (.getfield 51, 3) := by decide +kernel
theorem dX0_stageAt_29 : decode cX0_stageAt 29 = .ok (.iload_n 1, 1) := by decide +kernel
theorem dX0_stageAt_30 : decode cX0_stageAt 30 = .ok (.iaload, 1) := by decide +kernel
theorem dX0_stageAt_31 : decode cX0_stageAt 31 = .ok (.if_icmp .ge 7, 3) := by decide +kernel
theorem dX0_stageAt_34 : decode cX0_stageAt 34 = .ok (.iconst 2, 1) := by decide +kernel
theorem dX0_stageAt_35 : decode cX0_stageAt 35 = .ok (.goto 4, 3) := by decide +kernel
theorem dX0_stageAt_38 : decode cX0_stageAt 38 = .ok (.iconst 3, 1) := by decide +kernel
theorem dX0_stageAt_39 : decode cX0_stageAt 39 = .ok (.ireturn, 1) := by decide +kernel
theorem dX0_cyclesWithTwoDone_0 : decode cX0_cyclesWithTwoDone 0 = .ok (.iconst 0, 1) := by decide +kernel
theorem dX0_cyclesWithTwoDone_1 : decode cX0_cyclesWithTwoDone 1 = .ok (.istore_n 1, 1) := by decide +kernel
theorem dX0_cyclesWithTwoDone_2 : decode cX0_cyclesWithTwoDone 2 = .ok (.iconst 1, 1) := by decide +kernel
theorem dX0_cyclesWithTwoDone_3 : decode cX0_cyclesWithTwoDone 3 = .ok (.istore_n 2, 1) := by decide +kernel
theorem dX0_cyclesWithTwoDone_4 : decode cX0_cyclesWithTwoDone 4 = .ok (.iload_n 2, 1) := by decide +kernel
theorem dX0_cyclesWithTwoDone_5 : decode cX0_cyclesWithTwoDone 5 = .ok (.aload_n 0, 1) := by decide +kernel
theorem dX0_cyclesWithTwoDone_6 : decode cX0_cyclesWithTwoDone 6 = .ok (.getfield 7, 3) := by decide +kernel
theorem dX0_cyclesWithTwoDone_9 : decode cX0_cyclesWithTwoDone 9 = .ok (.if_icmp .ge 29, 3) := by decide +kernel
theorem dX0_cyclesWithTwoDone_12 : decode cX0_cyclesWithTwoDone 12 = .ok (.aload_n 0, 1) := by decide +kernel
theorem dX0_cyclesWithTwoDone_13 : decode cX0_cyclesWithTwoDone 13 = .ok (.getfield 51, 3) := by decide +kernel
theorem dX0_cyclesWithTwoDone_16 : decode cX0_cyclesWithTwoDone 16 = .ok (.iload_n 2, 1) := by decide +kernel
theorem dX0_cyclesWithTwoDone_17 : decode cX0_cyclesWithTwoDone 17 = .ok (.iaload, 1) := by decide +kernel
theorem dX0_cyclesWithTwoDone_18 : decode cX0_cyclesWithTwoDone 18 = .ok (.aload_n 0, 1) := by decide +kernel
theorem dX0_cyclesWithTwoDone_19 : decode cX0_cyclesWithTwoDone 19 = .ok (.getfield 51, 3) := by decide +kernel
theorem dX0_cyclesWithTwoDone_22 : decode cX0_cyclesWithTwoDone 22 = .ok (.iload_n 2, 1) := by decide +kernel
theorem dX0_cyclesWithTwoDone_23 : decode cX0_cyclesWithTwoDone 23 = .ok (.iconst 1, 1) := by decide +kernel
theorem dX0_cyclesWithTwoDone_24 : decode cX0_cyclesWithTwoDone 24 = .ok (.isub, 1) := by decide +kernel
theorem dX0_cyclesWithTwoDone_25 : decode cX0_cyclesWithTwoDone 25 = .ok (.iaload, 1) := by decide +kernel
theorem dX0_cyclesWithTwoDone_26 : decode cX0_cyclesWithTwoDone 26 = .ok (.if_icmp .ne 6, 3) := by decide +kernel
theorem dX0_cyclesWithTwoDone_29 : decode cX0_cyclesWithTwoDone 29 = .ok (.iinc 1 1, 3) := by decide +kernel
theorem dX0_cyclesWithTwoDone_32 : decode cX0_cyclesWithTwoDone 32 = .ok (.iinc 2 1, 3) := by decide +kernel
theorem dX0_cyclesWithTwoDone_35 : decode cX0_cyclesWithTwoDone 35 = .ok (.goto (-31), 3) := by decide +kernel
theorem dX0_cyclesWithTwoDone_38 : decode cX0_cyclesWithTwoDone 38 = .ok (.iload_n 1, 1) := by decide +kernel
theorem dX0_cyclesWithTwoDone_39 : decode cX0_cyclesWithTwoDone 39 = .ok (.ireturn, 1) := by decide +kernel
theorem dX0_longestWayBetweenDone_0 : decode cX0_longestWayBetweenDone 0 = .ok (.iconst 0, 1) := by decide +kernel
theorem dX0_longestWayBetweenDone_1 : decode cX0_longestWayBetweenDone 1 = .ok (.istore_n 1, 1) := by decide +kernel
theorem dX0_longestWayBetweenDone_2 : decode cX0_longestWayBetweenDone 2 = .ok (.iconst 0, 1) := by decide +kernel
theorem dX0_longestWayBetweenDone_3 : decode cX0_longestWayBetweenDone 3 = .ok (.istore_n 2, 1) := by decide +kernel
theorem dX0_longestWayBetweenDone_4 : decode cX0_longestWayBetweenDone 4 = .ok (.iload_n 2, 1) := by decide +kernel
theorem dX0_longestWayBetweenDone_5 : decode cX0_longestWayBetweenDone 5 = .ok (.aload_n 0, 1) := by decide +kernel
theorem dX0_longestWayBetweenDone_6 : decode cX0_longestWayBetweenDone 6 = .ok (.getfield 7, 3) := by decide +kernel
theorem dX0_longestWayBetweenDone_9 : decode cX0_longestWayBetweenDone 9 = .ok (.if_icmp .ge 26, 3) := by decide +kernel
theorem dX0_longestWayBetweenDone_12 : decode cX0_longestWayBetweenDone 12 = .ok (.iload_n 1, 1) := by decide +kernel
theorem dX0_longestWayBetweenDone_13 : decode cX0_longestWayBetweenDone 13 = .ok (.aload_n 0, 1) := by decide +kernel
theorem dX0_longestWayBetweenDone_14 : decode cX0_longestWayBetweenDone 14 = .ok (.getfield 51, 3) := by decide +kernel
theorem dX0_longestWayBetweenDone_17 : decode cX0_longestWayBetweenDone 17 = .ok (.iload_n 2, 1) := by decide +kernel
theorem dX0_longestWayBetweenDone_18 : decode cX0_longestWayBetweenDone 18 = .ok (.iaload, 1) := by decide +kernel
theorem dX0_longestWayBetweenDone_19 : decode cX0_longestWayBetweenDone 19 = .ok (.aload_n 0, 1) := by decide +kernel
theorem dX0_longestWayBetweenDone_20 : decode cX0_longestWayBetweenDone 20 = .ok (.iload_n 2, 1) := by decide +kernel
theorem dX0_longestWayBetweenDone_21 : decode cX0_longestWayBetweenDone 21 = .ok (.invokevirtual 89, 3) := by decide +kernel
theorem dX0_longestWayBetweenDone_24 : decode cX0_longestWayBetweenDone 24 = .ok (.isub, 1) := by decide +kernel
theorem dX0_longestWayBetweenDone_25 : decode cX0_longestWayBetweenDone 25 = .ok (.invokestatic 136, 3) := by decide +kernel
theorem dX0_longestWayBetweenDone_28 : decode cX0_longestWayBetweenDone 28 = .ok (.istore_n 1, 1) := by decide +kernel
theorem dX0_longestWayBetweenDone_29 : decode cX0_longestWayBetweenDone 29 = .ok (.iinc 2 1, 3) := by decide +kernel
theorem dX0_longestWayBetweenDone_32 : decode cX0_longestWayBetweenDone 32 = .ok (.goto (-28), 3) := by decide +kernel
theorem dX0_longestWayBetweenDone_35 : decode cX0_longestWayBetweenDone 35 = .ok (.iload_n 1, 1) := by decide +kernel
theorem dX0_longestWayBetweenDone_36 : decode cX0_longestWayBetweenDone 36 = .ok (.ireturn, 1) := by decide +kernel
theorem dX0_groups_0 : decode cX0_groups 0 = .ok (.iconst 0, 1) := by decide +kernel
theorem dX0_groups_1 : decode cX0_groups 1 = .ok (.istore_n 1, 1) := by decide +kernel
theorem dX0_groups_2 : decode cX0_groups 2 = .ok (.iconst 0, 1) := by decide +kernel
theorem dX0_groups_3 : decode cX0_groups 3 = .ok (.istore_n 2, 1) := by decide +kernel
theorem dX0_groups_4 : decode cX0_groups 4 = .ok (.iload_n 2, 1) := by decide +kernel
theorem dX0_groups_5 : decode cX0_groups 5 = .ok (.aload_n 0, 1) := by decide +kernel
theorem dX0_groups_6 : decode cX0_groups 6 = .ok (.getfield 7, 3) := by decide +kernel
theorem dX0_groups_9 : decode cX0_groups 9 = .ok (.if_icmp .ge 21, 3) := by decide +kernel
theorem dX0_groups_12 : decode cX0_groups 12 = .ok (.aload_n 0, 1) := by decide +kernel
theorem dX0_groups_13 : decode cX0_groups 13 = .ok (.getfield 42, 3) := by decide +kernel
theorem dX0_groups_16 : decode cX0_groups 16 = .ok (.iload_n 2, 1) := by decide +kernel
theorem dX0_groups_17 : decode cX0_groups 17 = .ok (.baload, 1) := by decide +kernel
theorem dX0_groups_18 : decode cX0_groups 18 = .ok (.ifCond .eq 6, 3) := by decide +kernel
theorem dX0_groups_21 : decode cX0_groups 21 = .ok (.iinc 1 1, 3) := by decide +kernel
theorem dX0_groups_24 : decode cX0_groups 24 = .ok (.iinc 2 1, 3) := by decide +kernel
theorem dX0_groups_27 : decode cX0_groups 27 = .ok (.goto (-23), 3) := by decide +kernel
theorem dX0_groups_30 : decode cX0_groups 30 = .ok (.iload_n 1, 1) := by decide +kernel
theorem dX0_groups_31 : decode cX0_groups 31 = .ok (.ireturn, 1) := by decide +kernel
theorem dX0_pairsIssuedAtOnce_0 : decode cX0_pairsIssuedAtOnce 0 = .ok (.iconst 0, 1) := by decide +kernel
theorem dX0_pairsIssuedAtOnce_1 : decode cX0_pairsIssuedAtOnce 1 = .ok (.istore_n 1, 1) := by decide +kernel
theorem dX0_pairsIssuedAtOnce_2 : decode cX0_pairsIssuedAtOnce 2 = .ok (.iconst 1, 1) := by decide +kernel
theorem dX0_pairsIssuedAtOnce_3 : decode cX0_pairsIssuedAtOnce 3 = .ok (.istore_n 2, 1) := by decide +kernel
theorem dX0_pairsIssuedAtOnce_4 : decode cX0_pairsIssuedAtOnce 4 = .ok (.iload_n 2, 1) := by decide +kernel
theorem dX0_pairsIssuedAtOnce_5 : decode cX0_pairsIssuedAtOnce 5 = .ok (.aload_n 0, 1) := by decide +kernel
theorem dX0_pairsIssuedAtOnce_6 : decode cX0_pairsIssuedAtOnce 6 = .ok (.getfield 7, 3) := by decide +kernel
theorem dX0_pairsIssuedAtOnce_9 : decode cX0_pairsIssuedAtOnce 9 = .ok (.if_icmp .ge 20, 3) := by decide +kernel
theorem dX0_pairsIssuedAtOnce_12 : decode cX0_pairsIssuedAtOnce 12 = .ok (.aload_n 0, 1) := by decide +kernel
theorem dX0_pairsIssuedAtOnce_13 : decode cX0_pairsIssuedAtOnce 13 = .ok (.iload_n 2, 1) := by decide +kernel
theorem dX0_pairsIssuedAtOnce_14 : decode cX0_pairsIssuedAtOnce 14 = .ok (.invokevirtual 72, 3) := by decide +kernel
theorem dX0_pairsIssuedAtOnce_17 : decode cX0_pairsIssuedAtOnce 17 = .ok (.ifCond .eq 6, 3) := by decide +kernel
theorem dX0_pairsIssuedAtOnce_20 : decode cX0_pairsIssuedAtOnce 20 = .ok (.iinc 1 1, 3) := by decide +kernel
theorem dX0_pairsIssuedAtOnce_23 : decode cX0_pairsIssuedAtOnce 23 = .ok (.iinc 2 1, 3) := by decide +kernel
theorem dX0_pairsIssuedAtOnce_26 : decode cX0_pairsIssuedAtOnce 26 = .ok (.goto (-22), 3) := by decide +kernel
theorem dX0_pairsIssuedAtOnce_29 : decode cX0_pairsIssuedAtOnce 29 = .ok (.iload_n 1, 1) := by decide +kernel
theorem dX0_pairsIssuedAtOnce_30 : decode cX0_pairsIssuedAtOnce 30 = .ok (.ireturn, 1) := by decide +kernel
theorem dX0_mostAtWork_0 : decode cX0_mostAtWork 0 = .ok (.iconst 0, 1) := by decide +kernel
theorem dX0_mostAtWork_1 : decode cX0_mostAtWork 1 = .ok (.istore_n 1, 1) := by decide +kernel
theorem dX0_mostAtWork_2 : decode cX0_mostAtWork 2 = .ok (.iconst 0, 1) := by decide +kernel
theorem dX0_mostAtWork_3 : decode cX0_mostAtWork 3 = .ok (.istore_n 2, 1) := by decide +kernel
theorem dX0_mostAtWork_4 : decode cX0_mostAtWork 4 = .ok (.iconst 0, 1) := by decide +kernel
theorem dX0_mostAtWork_5 : decode cX0_mostAtWork 5 = .ok (.istore_n 3, 1) := by decide +kernel
theorem dX0_mostAtWork_6 : decode cX0_mostAtWork 6 = .ok (.iload_n 3, 1) := by decide +kernel
theorem dX0_mostAtWork_7 : decode cX0_mostAtWork 7 = .ok (.aload_n 0, 1) := by decide +kernel
theorem dX0_mostAtWork_8 : decode cX0_mostAtWork 8 = .ok (.getfield 7, 3) := by decide +kernel
theorem dX0_mostAtWork_11 : decode cX0_mostAtWork 11 = .ok (.if_icmp .ge 45, 3) := by decide +kernel
theorem dX0_mostAtWork_14 : decode cX0_mostAtWork 14 = .ok (.iload_n 2, 1) := by decide +kernel
theorem dX0_mostAtWork_15 : decode cX0_mostAtWork 15 = .ok (.iload_n 3, 1) := by decide +kernel
theorem dX0_mostAtWork_16 : decode cX0_mostAtWork 16 = .ok (.if_icmp .ge 24, 3) := by decide +kernel
theorem dX0_mostAtWork_19 : decode cX0_mostAtWork 19 = .ok (.aload_n 0, 1) := by decide +kernel
theorem dX0_mostAtWork_20 : decode cX0_mostAtWork 20 = .ok (.getfield 51, 3) := by decide +kernel
theorem dX0_mostAtWork_23 : decode cX0_mostAtWork 23 = .ok (.iload_n 2, 1) := by decide +kernel
theorem dX0_mostAtWork_24 : decode cX0_mostAtWork 24 = .ok (.iaload, 1) := by decide +kernel
theorem dX0_mostAtWork_25 : decode cX0_mostAtWork 25 = .ok (.aload_n 0, 1) := by decide +kernel
theorem dX0_mostAtWork_26 : decode cX0_mostAtWork 26 = .ok (.getfield 48, 3) := by decide +kernel
theorem dX0_mostAtWork_29 : decode cX0_mostAtWork 29 = .ok (.iload_n 3, 1) := by decide +kernel
theorem dX0_mostAtWork_30 : decode cX0_mostAtWork 30 = .ok (.iaload, 1) := by decide +kernel
theorem dX0_mostAtWork_31 : decode cX0_mostAtWork 31 = .ok (.if_icmp .gt 9, 3) := by decide +kernel
theorem dX0_mostAtWork_34 : decode cX0_mostAtWork 34 = .ok (.iinc 2 1, 3) := by decide +kernel
theorem dX0_mostAtWork_37 : decode cX0_mostAtWork 37 = .ok (.goto (-23), 3) := by decide +kernel
theorem dX0_mostAtWork_40 : decode cX0_mostAtWork 40 = .ok (.iload_n 1, 1) := by decide +kernel
theorem dX0_mostAtWork_41 : decode cX0_mostAtWork 41 = .ok (.iload_n 3, 1) := by decide +kernel
theorem dX0_mostAtWork_42 : decode cX0_mostAtWork 42 = .ok (.iload_n 2, 1) := by decide +kernel
theorem dX0_mostAtWork_43 : decode cX0_mostAtWork 43 = .ok (.isub, 1) := by decide +kernel
theorem dX0_mostAtWork_44 : decode cX0_mostAtWork 44 = .ok (.iconst 1, 1) := by decide +kernel
theorem dX0_mostAtWork_45 : decode cX0_mostAtWork 45 = .ok (.iadd, 1) := by decide +kernel
theorem dX0_mostAtWork_46 : decode cX0_mostAtWork 46 = .ok (.invokestatic 136, 3) := by decide +kernel
theorem dX0_mostAtWork_49 : decode cX0_mostAtWork 49 = .ok (.istore_n 1, 1) := by decide +kernel
theorem dX0_mostAtWork_50 : decode cX0_mostAtWork 50 = .ok (.iinc 3 1, 3) := by decide +kernel
theorem dX0_mostAtWork_53 : decode cX0_mostAtWork 53 = .ok (.goto (-47), 3) := by decide +kernel
theorem dX0_mostAtWork_56 : decode cX0_mostAtWork 56 = .ok (.iload_n 1, 1) := by decide +kernel
theorem dX0_mostAtWork_57 : decode cX0_mostAtWork 57 = .ok (.ireturn, 1) := by decide +kernel
end
section
set_option maxHeartbeats 4000000 in
set_option maxRecDepth 100000 in
/-- delayOf -/
theorem zc_delay (l : Launch) (k : Nat) (hk : k < 2 ^ 31) : ia_T l yX0_delayOf cX0_delayOf 1 .int 0 [.int (nI k)] (nI (zs_delay k)) := by
  refine ia_Tof (by decide) (Nat.le_of_ble_eq_true rfl) (fun p e s m args below meth c ls hx hb hr hlk hl => ?_)
  have hl : lv_has ls 1 [(0, .int (nI k))] := hl
  refine lv_iload_n hx hb dX0_delayOf_0 rfl (lv_at hl 0 rfl) ?_
  rcases (show k = 1 ∨ k = 2 ∨ k = 3 ∨ k = 4 ∨ (k ≠ 1 ∧ k ≠ 2 ∧ k ≠ 3 ∧ k ≠ 4) by omega) with rfl | rfl | rfl | rfl | c_1
  · refine lv_tableIn (tgt := 32) (off := 31) hx hb dX0_delayOf_1 (by decide) (by decide) (by decide) (by decide) ?_
    refine lv_iconst (v := nI 2) hx hb dX0_delayOf_32 (by decide) ?_
    exact ia_iret hx hb hr hlk (congrArg nI (show 2 = zs_delay 1 from by unfold zs_delay; (repeat' split) <;> omega)) dX0_delayOf_33
  · refine lv_tableIn (tgt := 39) (off := 38) hx hb dX0_delayOf_1 (by decide) (by decide) (by decide) (by decide) ?_
    refine lv_iconst (v := nI 1) hx hb dX0_delayOf_39 (by decide) ?_
    exact ia_iret hx hb hr hlk (congrArg nI (show 1 = zs_delay 2 from by unfold zs_delay; (repeat' split) <;> omega)) dX0_delayOf_40
  · refine lv_tableIn (tgt := 34) (off := 33) hx hb dX0_delayOf_1 (by decide) (by decide) (by decide) (by decide) ?_
    refine lv_iconst (v := nI 3) hx hb dX0_delayOf_34 (by decide) ?_
    exact ia_iret hx hb hr hlk (congrArg nI (show 3 = zs_delay 3 from by unfold zs_delay; (repeat' split) <;> omega)) dX0_delayOf_35
  · refine lv_tableIn (tgt := 36) (off := 35) hx hb dX0_delayOf_1 (by decide) (by decide) (by decide) (by decide) ?_
    refine lv_bipush (v := nI 18) hx hb dX0_delayOf_36 (by decide) ?_
    exact ia_iret hx hb hr hlk (congrArg nI (show 18 = zs_delay 4 from by unfold zs_delay; (repeat' split) <;> omega)) dX0_delayOf_38
  · refine lv_tableOut (tgt := 39) hx hb dX0_delayOf_1 (by rw [nI_toInt (by omega)]; omega) (by decide) ?_
    refine lv_iconst (v := nI 1) hx hb dX0_delayOf_39 (by decide) ?_
    exact ia_iret hx hb hr hlk (congrArg nI (show 1 = zs_delay k from by unfold zs_delay; (repeat' split) <;> omega)) dX0_delayOf_40
set_option maxHeartbeats 4000000 in
set_option maxRecDepth 100000 in
/-- workOf -/
theorem zc_work (l : Launch) (k : Nat) (hk : k < 2 ^ 31) : ia_T l yX0_workOf cX0_workOf 1 .int 0 [.int (nI k)] (nI (zs_work k)) := by
  refine ia_Tof (by decide) (Nat.le_of_ble_eq_true rfl) (fun p e s m args below meth c ls hx hb hr hlk hl => ?_)
  have hl : lv_has ls 1 [(0, .int (nI k))] := hl
  refine lv_iload_n hx hb dX0_workOf_0 rfl (lv_at hl 0 rfl) ?_
  rcases (show k = 3 ∨ k = 4 ∨ (k ≠ 3 ∧ k ≠ 4) by omega) with rfl | rfl | c_1
  · refine lv_lookup (tgt := 28) (off := 27) hx hb dX0_workOf_1 (by decide) (by decide) (by decide) ?_
    refine lv_iconst (v := nI 5) hx hb dX0_workOf_28 (by decide) ?_
    exact ia_iret hx hb hr hlk (congrArg nI (show 5 = zs_work 3 from by unfold zs_work; (repeat' split) <;> omega)) dX0_workOf_29
  · refine lv_lookup (tgt := 30) (off := 29) hx hb dX0_workOf_1 (by decide) (by decide) (by decide) ?_
    refine lv_bipush (v := nI 20) hx hb dX0_workOf_30 (by decide) ?_
    exact ia_iret hx hb hr hlk (congrArg nI (show 20 = zs_work 4 from by unfold zs_work; (repeat' split) <;> omega)) dX0_workOf_32
  · refine lv_lookup (tgt := 33) (off := 32) hx hb dX0_workOf_1 (by decide) ((lv_osw (k := nI 3) (fun q => absurd ((nI_eq (by omega) (by decide)).mp q) (by omega)) (by decide)).trans ((lv_osw (k := nI 4) (fun q => absurd ((nI_eq (by omega) (by decide)).mp q) (by omega)) (by decide)).trans rfl)) (by decide) ?_
    refine lv_iconst (v := nI 3) hx hb dX0_workOf_33 (by decide) ?_
    exact ia_iret hx hb hr hlk (congrArg nI (show 3 = zs_work k from by unfold zs_work; (repeat' split) <;> omega)) dX0_workOf_34
end
section
set_option maxHeartbeats 4000000 in
set_option maxRecDepth 100000 in
/-- whenReadable -/
theorem zc_readable (l : Launch) (E : ia_E) (n : Nat) (g : Nat → Nat → Nat) (hg : zs_B g) (r : Nat) (i : Nat) (hr0 : r < 2 ^ 31) (hi : i < 400) : ia_R l yX0_whenReadable cX0_whenReadable 4 .int 1 E n g [.int (nI r), .int (nI i)] (nI (zs_readable g r i)) := by
  refine ia_Rof (by decide) rfl (Nat.le_of_ble_eq_true rfl) (fun p e s m args below meth c ls hx hb hr hml hown ht hlk hO hl => ?_)
  have hl : lv_has ls 4 [(0, .ref (ia_h E 0)), (1, .int (nI r)), (2, .int (nI i))] := hl
  refine lv_iload_n hx hb dX0_whenReadable_0 rfl (lv_at hl 1 rfl) ?_
  refine zk_ifne (tgt := 6) hx hb dX0_whenReadable_1 (by decide) (by omega) (fun c_1 => ?_) (fun c_1 => ?_)
  · refine lv_iload_n hx hb dX0_whenReadable_6 rfl (lv_at hl 2 rfl) ?_
    refine lv_iconst (v := nI 1) hx hb dX0_whenReadable_7 (by decide) ?_
    refine lv_isub hx hb dX0_whenReadable_8 (zk_top (zk_m1 i) ?_)
    refine lv_istore_n (lv' := [(3, .int (nI i + (-1))), (0, .ref (ia_h E 0)), (1, .int (nI r)), (2, .int (nI i))]) hx hb dX0_whenReadable_9 rfl hl (by decide) rfl (fun ls hl => ?_)
    refine zk_down (nL := 4) (pcH := 10) (fun k => zs_wr g r i = zs_wr g r k) (fun k => [(3, .int (nI k + (-1))), (0, .ref (ia_h E 0)), (1, .int (nI r)), (2, .int (nI i))]) ?_ i ?_ i (Nat.le_refl _) rfl ls hl
    · intro hP ls hl
      have hP : zs_wr g r i = zs_wr g r 0 := hP
      have hl : lv_has ls 4 [(3, .int (nI 0 + (-1))), (0, .ref (ia_h E 0)), (1, .int (nI r)), (2, .int (nI i))] := hl
      refine lv_iload_n hx hb dX0_whenReadable_10 rfl (lv_at hl 0 rfl) ?_
      refine lv_if_lt (tgt := 56) hx hb dX0_whenReadable_11 (by decide) (fun c_ => ?_) (fun c_ => absurd (by decide) c_)
      refine lv_iconst (v := nI 0) hx hb dX0_whenReadable_56 (by decide) ?_
      exact ia_iret hx hb hr hlk (congrArg nI (show 0 = zs_readable g r i from by have e0 : zs_wr g r 0 = 0 := rfl; unfold zs_readable; (repeat' split) <;> omega)) dX0_whenReadable_57
    · intro k hk ih hP ls hl
      have hP : zs_wr g r i = zs_wr g r (k + 1) := hP
      have hl : lv_has ls 4 [(3, .int (nI (k + 1) + (-1))), (0, .ref (ia_h E 0)), (1, .int (nI r)), (2, .int (nI i))] := hl
      rw [pk_m1] at hl
      have e1 : (g 2 k = r ∧ g 9 k = 0 → zs_wr g r (k + 1) = g 12 k + zs_delay (g 1 k)) ∧ (¬ (g 2 k = r ∧ g 9 k = 0) → zs_wr g r (k + 1) = zs_wr g r k) := ⟨fun h => if_pos h, fun h => if_neg h⟩
      refine lv_iload_n hx hb dX0_whenReadable_10 rfl (lv_at hl 0 rfl) ?_
      refine zk_iflt (tgt := 56) hx hb dX0_whenReadable_11 (by decide) (by omega) ?_
      refine lv_aload_n hx hb dX0_whenReadable_14 rfl (lv_at hl 1 rfl) ?_
      refine ia_get 2 (v := .ref (ia_h E 2)) hx hb ht hown hO (by decide) rfl zlX0_17 rfl dX0_whenReadable_15 ?_
      refine lv_iload_n hx hb dX0_whenReadable_18 rfl (lv_at hl 0 rfl) ?_
      refine ia_ild 2 k hx hb hO rfl (by omega) dX0_whenReadable_19 ?_
      have b_3 := hg 2 k
      refine lv_iload_n hx hb dX0_whenReadable_20 rfl (lv_at hl 2 rfl) ?_
      refine zk_cne (tgt := 50) hx hb dX0_whenReadable_21 (by decide) (by omega) (by omega) (fun c_4 => ?_) (fun c_4 => ?_)
      · refine lv_iinc (v := nI k + (-1)) (lv' := [(3, .int (nI k + (-1))), (0, .ref (ia_h E 0)), (1, .int (nI r)), (2, .int (nI i))]) hx hb dX0_whenReadable_50 hl (k := 0) rfl rfl (by decide) rfl (fun ls hl => ?_)
        refine lv_goto (tgt := 10) hx hb dX0_whenReadable_53 (by decide) ?_
        exact ih (show zs_wr g r i = zs_wr g r k from by omega) ls (lv_sub hl [0, 1, 2, 3] rfl)
      · refine lv_aload_n hx hb dX0_whenReadable_24 rfl (lv_at hl 1 rfl) ?_
        refine ia_get 9 (v := .ref (ia_h E 9)) hx hb ht hown hO (by decide) rfl zlX0_39 rfl dX0_whenReadable_25 ?_
        refine lv_iload_n hx hb dX0_whenReadable_28 rfl (lv_at hl 0 rfl) ?_
        refine ia_zld 9 k hx hb hO rfl (by omega) dX0_whenReadable_29 ?_
        have b_5 := hg 9 k
        refine zk_ifne (tgt := 50) hx hb dX0_whenReadable_30 (by decide) (by omega) (fun c_6 => ?_) (fun c_6 => ?_)
        · refine lv_iinc (v := nI k + (-1)) (lv' := [(3, .int (nI k + (-1))), (0, .ref (ia_h E 0)), (1, .int (nI r)), (2, .int (nI i))]) hx hb dX0_whenReadable_50 hl (k := 0) rfl rfl (by decide) rfl (fun ls hl => ?_)
          refine lv_goto (tgt := 10) hx hb dX0_whenReadable_53 (by decide) ?_
          exact ih (show zs_wr g r i = zs_wr g r k from by omega) ls (lv_sub hl [0, 1, 2, 3] rfl)
        · refine lv_aload_n hx hb dX0_whenReadable_33 rfl (lv_at hl 1 rfl) ?_
          refine ia_get 12 (v := .ref (ia_h E 12)) hx hb ht hown hO (by decide) rfl zlX0_48 rfl dX0_whenReadable_34 ?_
          refine lv_iload_n hx hb dX0_whenReadable_37 rfl (lv_at hl 0 rfl) ?_
          refine ia_ild 12 k hx hb hO rfl (by omega) dX0_whenReadable_38 ?_
          have b_7 := hg 12 k
          refine lv_aload_n hx hb dX0_whenReadable_39 rfl (lv_at hl 1 rfl) ?_
          refine ia_get 1 (v := .ref (ia_h E 1)) hx hb ht hown hO (by decide) rfl zlX0_13 rfl dX0_whenReadable_40 ?_
          refine lv_iload_n hx hb dX0_whenReadable_43 rfl (lv_at hl 0 rfl) ?_
          refine ia_ild 1 k hx hb hO rfl (by omega) dX0_whenReadable_44 ?_
          have b_8 := hg 1 k
          refine ia_callS (rest := [.int (nI (g 12 k))]) hx hb hml hl.1 hown ht (zc_delay l (g 1 k) (by omega)) zgX0_163 zyX0_delayOf rfl ⟨by decide, by decide⟩ ⟨Nat.zero_le _, Nat.zero_le _⟩ (Nat.le_of_ble_eq_true rfl) rfl dX0_whenReadable_45 ?_
          have b_9 := zb_delay (g 1 k)
          refine zk_add hx hb dX0_whenReadable_48 ?_
          exact ia_iret hx hb hr hlk (congrArg nI (show (g 12 k) + (zs_delay (g 1 k)) = zs_readable g r i from by unfold zs_readable; (repeat' split) <;> omega)) dX0_whenReadable_49
  · refine lv_iconst (v := nI 0) hx hb dX0_whenReadable_4 (by decide) ?_
    exact ia_iret hx hb hr hlk (congrArg nI (show 0 = zs_readable g r i from by unfold zs_readable; (repeat' split) <;> omega)) dX0_whenReadable_5
set_option maxHeartbeats 4000000 in
set_option maxRecDepth 100000 in
/-- whenDividerIsFree -/
theorem zc_div (l : Launch) (E : ia_E) (n : Nat) (g : Nat → Nat → Nat) (hg : zs_B g) (i : Nat) (hi : i < 400) : ia_R l yX0_whenDividerIsFree cX0_whenDividerIsFree 3 .int 0 E n g [.int (nI i)] (nI (zs_div g i)) := by
  refine ia_Rof (by decide) rfl (Nat.le_of_ble_eq_true rfl) (fun p e s m args below meth c ls hx hb hr hml hown ht hlk hO hl => ?_)
  have hl : lv_has ls 3 [(0, .ref (ia_h E 0)), (1, .int (nI i))] := hl
  refine lv_iload_n hx hb dX0_whenDividerIsFree_0 rfl (lv_at hl 1 rfl) ?_
  refine lv_iconst (v := nI 1) hx hb dX0_whenDividerIsFree_1 (by decide) ?_
  refine lv_isub hx hb dX0_whenDividerIsFree_2 (zk_top (zk_m1 i) ?_)
  refine lv_istore_n (lv' := [(2, .int (nI i + (-1))), (0, .ref (ia_h E 0)), (1, .int (nI i))]) hx hb dX0_whenDividerIsFree_3 rfl hl (by decide) rfl (fun ls hl => ?_)
  refine zk_down (nL := 3) (pcH := 4) (fun k => zs_div g i = zs_div g k) (fun k => [(2, .int (nI k + (-1))), (0, .ref (ia_h E 0)), (1, .int (nI i))]) ?_ i ?_ i (Nat.le_refl _) rfl ls hl
  · intro hP ls hl
    have hP : zs_div g i = zs_div g 0 := hP
    have hl : lv_has ls 3 [(2, .int (nI 0 + (-1))), (0, .ref (ia_h E 0)), (1, .int (nI i))] := hl
    refine lv_iload_n hx hb dX0_whenDividerIsFree_4 rfl (lv_at hl 0 rfl) ?_
    refine lv_if_lt (tgt := 34) hx hb dX0_whenDividerIsFree_5 (by decide) (fun c_ => ?_) (fun c_ => absurd (by decide) c_)
    refine lv_iconst (v := nI 0) hx hb dX0_whenDividerIsFree_34 (by decide) ?_
    exact ia_iret hx hb hr hlk (congrArg nI (show 0 = zs_div g i from by have e0 : zs_div g 0 = 0 := rfl; omega)) dX0_whenDividerIsFree_35
  · intro k hk ih hP ls hl
    have hP : zs_div g i = zs_div g (k + 1) := hP
    have hl : lv_has ls 3 [(2, .int (nI (k + 1) + (-1))), (0, .ref (ia_h E 0)), (1, .int (nI i))] := hl
    rw [pk_m1] at hl
    have e1 : (g 1 k = 4 → zs_div g (k + 1) = g 12 k + 18) ∧ (¬ (g 1 k = 4) → zs_div g (k + 1) = zs_div g k) := ⟨fun h => if_pos h, fun h => if_neg h⟩
    refine lv_iload_n hx hb dX0_whenDividerIsFree_4 rfl (lv_at hl 0 rfl) ?_
    refine zk_iflt (tgt := 34) hx hb dX0_whenDividerIsFree_5 (by decide) (by omega) ?_
    refine lv_aload_n hx hb dX0_whenDividerIsFree_8 rfl (lv_at hl 1 rfl) ?_
    refine ia_get 1 (v := .ref (ia_h E 1)) hx hb ht hown hO (by decide) rfl zlX0_13 rfl dX0_whenDividerIsFree_9 ?_
    refine lv_iload_n hx hb dX0_whenDividerIsFree_12 rfl (lv_at hl 0 rfl) ?_
    refine ia_ild 1 k hx hb hO rfl (by omega) dX0_whenDividerIsFree_13 ?_
    have b_2 := hg 1 k
    refine lv_iconst (v := nI 4) hx hb dX0_whenDividerIsFree_14 (by decide) ?_
    refine zk_cne (tgt := 28) hx hb dX0_whenDividerIsFree_15 (by decide) (by omega) (by omega) (fun c_3 => ?_) (fun c_3 => ?_)
    · refine lv_iinc (v := nI k + (-1)) (lv' := [(2, .int (nI k + (-1))), (0, .ref (ia_h E 0)), (1, .int (nI i))]) hx hb dX0_whenDividerIsFree_28 hl (k := 0) rfl rfl (by decide) rfl (fun ls hl => ?_)
      refine lv_goto (tgt := 4) hx hb dX0_whenDividerIsFree_31 (by decide) ?_
      exact ih (show zs_div g i = zs_div g k from by omega) ls (lv_sub hl [0, 1, 2] rfl)
    · refine lv_aload_n hx hb dX0_whenDividerIsFree_18 rfl (lv_at hl 1 rfl) ?_
      refine ia_get 12 (v := .ref (ia_h E 12)) hx hb ht hown hO (by decide) rfl zlX0_48 rfl dX0_whenDividerIsFree_19 ?_
      refine lv_iload_n hx hb dX0_whenDividerIsFree_22 rfl (lv_at hl 0 rfl) ?_
      refine ia_ild 12 k hx hb hO rfl (by omega) dX0_whenDividerIsFree_23 ?_
      have b_4 := hg 12 k
      refine lv_bipush (v := nI 18) hx hb dX0_whenDividerIsFree_24 (by decide) ?_
      refine zk_add hx hb dX0_whenDividerIsFree_26 ?_
      exact ia_iret hx hb hr hlk (congrArg nI (show (g 12 k) + 18 = zs_div g i from by omega)) dX0_whenDividerIsFree_27
end
section
set_option maxHeartbeats 4000000 in
set_option maxRecDepth 100000 in
/-- usesMemory -/
theorem zc_mem (l : Launch) (k : Nat) (hk : k < 2 ^ 31) : ia_T l yX0_usesMemory cX0_usesMemory 1 .boolean 0 [.int (nI k)] (nI (zs_mem k)) := by
  refine ia_Tof (by decide) (Nat.le_of_ble_eq_true rfl) (fun p e s m args below meth c ls hx hb hr hlk hl => ?_)
  have hl : lv_has ls 1 [(0, .int (nI k))] := hl
  refine lv_iload_n hx hb dX0_usesMemory_0 rfl (lv_at hl 0 rfl) ?_
  refine lv_iconst (v := nI 1) hx hb dX0_usesMemory_1 (by decide) ?_
  refine zk_ceq (tgt := 10) hx hb dX0_usesMemory_2 (by decide) (by omega) (by omega) (fun c_1 => ?_) (fun c_1 => ?_)
  · refine lv_iconst (v := nI 1) hx hb dX0_usesMemory_10 (by decide) ?_
    refine lv_goto (tgt := 15) hx hb dX0_usesMemory_11 (by decide) ?_
    exact ia_zret hx hb hr hlk (by omega) (congrArg nI (show 1 = zs_mem k from by unfold zs_mem; (repeat' split) <;> omega)) dX0_usesMemory_15
  · refine lv_iload_n hx hb dX0_usesMemory_5 rfl (lv_at hl 0 rfl) ?_
    refine lv_iconst (v := nI 2) hx hb dX0_usesMemory_6 (by decide) ?_
    refine zk_cne (tgt := 14) hx hb dX0_usesMemory_7 (by decide) (by omega) (by omega) (fun c_2 => ?_) (fun c_2 => ?_)
    · refine lv_iconst (v := nI 0) hx hb dX0_usesMemory_14 (by decide) ?_
      exact ia_zret hx hb hr hlk (by omega) (congrArg nI (show 0 = zs_mem k from by unfold zs_mem; (repeat' split) <;> omega)) dX0_usesMemory_15
    · refine lv_iconst (v := nI 1) hx hb dX0_usesMemory_10 (by decide) ?_
      refine lv_goto (tgt := 15) hx hb dX0_usesMemory_11 (by decide) ?_
      exact ia_zret hx hb hr hlk (by omega) (congrArg nI (show 1 = zs_mem k from by unfold zs_mem; (repeat' split) <;> omega)) dX0_usesMemory_15
set_option maxHeartbeats 4000000 in
set_option maxRecDepth 100000 in
/-- usesMultiplier -/
theorem zc_mul (l : Launch) (k : Nat) (hk : k < 2 ^ 31) : ia_T l yX0_usesMultiplier cX0_usesMultiplier 1 .boolean 0 [.int (nI k)] (nI (zs_mul k)) := by
  refine ia_Tof (by decide) (Nat.le_of_ble_eq_true rfl) (fun p e s m args below meth c ls hx hb hr hlk hl => ?_)
  have hl : lv_has ls 1 [(0, .int (nI k))] := hl
  refine lv_iload_n hx hb dX0_usesMultiplier_0 rfl (lv_at hl 0 rfl) ?_
  refine lv_iconst (v := nI 3) hx hb dX0_usesMultiplier_1 (by decide) ?_
  refine zk_ceq (tgt := 10) hx hb dX0_usesMultiplier_2 (by decide) (by omega) (by omega) (fun c_1 => ?_) (fun c_1 => ?_)
  · refine lv_iconst (v := nI 1) hx hb dX0_usesMultiplier_10 (by decide) ?_
    refine lv_goto (tgt := 15) hx hb dX0_usesMultiplier_11 (by decide) ?_
    exact ia_zret hx hb hr hlk (by omega) (congrArg nI (show 1 = zs_mul k from by unfold zs_mul; (repeat' split) <;> omega)) dX0_usesMultiplier_15
  · refine lv_iload_n hx hb dX0_usesMultiplier_5 rfl (lv_at hl 0 rfl) ?_
    refine lv_iconst (v := nI 4) hx hb dX0_usesMultiplier_6 (by decide) ?_
    refine zk_cne (tgt := 14) hx hb dX0_usesMultiplier_7 (by decide) (by omega) (by omega) (fun c_2 => ?_) (fun c_2 => ?_)
    · refine lv_iconst (v := nI 0) hx hb dX0_usesMultiplier_14 (by decide) ?_
      exact ia_zret hx hb hr hlk (by omega) (congrArg nI (show 0 = zs_mul k from by unfold zs_mul; (repeat' split) <;> omega)) dX0_usesMultiplier_15
    · refine lv_iconst (v := nI 1) hx hb dX0_usesMultiplier_10 (by decide) ?_
      refine lv_goto (tgt := 15) hx hb dX0_usesMultiplier_11 (by decide) ?_
      exact ia_zret hx hb hr hlk (by omega) (congrArg nI (show 1 = zs_mul k from by unfold zs_mul; (repeat' split) <;> omega)) dX0_usesMultiplier_15
set_option maxHeartbeats 4000000 in
set_option maxRecDepth 100000 in
/-- isBehindSlot -/
theorem zc_bslot (l : Launch) (E : ia_E) (n : Nat) (g : Nat → Nat → Nat) (hg : zs_B g) (i : Nat) (hi : i < 400) : ia_R l yX0_isBehindSlot cX0_isBehindSlot 2 .boolean 0 E n g [.int (nI i)] (nI (zs_bslot g i)) := by
  refine ia_Rof (by decide) rfl (Nat.le_of_ble_eq_true rfl) (fun p e s m args below meth c ls hx hb hr hml hown ht hlk hO hl => ?_)
  have hl : lv_has ls 2 [(0, .ref (ia_h E 0)), (1, .int (nI i))] := hl
  refine lv_iload_n hx hb dX0_isBehindSlot_0 rfl (lv_at hl 1 rfl) ?_
  refine lv_iconst (v := nI 1) hx hb dX0_isBehindSlot_1 (by decide) ?_
  refine zk_cle (tgt := 20) hx hb dX0_isBehindSlot_2 (by decide) (by omega) (by omega) (fun c_1 => ?_) (fun c_1 => ?_)
  · refine lv_iconst (v := nI 0) hx hb dX0_isBehindSlot_20 (by decide) ?_
    exact ia_zret hx hb hr hlk (by omega) (congrArg nI (show 0 = zs_bslot g i from by unfold zs_bslot; (repeat' split) <;> omega)) dX0_isBehindSlot_21
  · refine lv_aload_n hx hb dX0_isBehindSlot_5 rfl (lv_at hl 0 rfl) ?_
    refine ia_get 8 (v := .ref (ia_h E 8)) hx hb ht hown hO (by decide) rfl zlX0_36 rfl dX0_isBehindSlot_6 ?_
    refine lv_iload_n hx hb dX0_isBehindSlot_9 rfl (lv_at hl 1 rfl) ?_
    refine lv_iconst (v := nI 1) hx hb dX0_isBehindSlot_10 (by decide) ?_
    refine zk_sub hx hb (by omega) dX0_isBehindSlot_11 ?_
    refine ia_zld 8 (i - 1) hx hb hO rfl (by omega) dX0_isBehindSlot_12 ?_
    have b_2 := hg 8 (i - 1)
    refine zk_ifeq (tgt := 20) hx hb dX0_isBehindSlot_13 (by decide) (by omega) (fun c_3 => ?_) (fun c_3 => ?_)
    · refine lv_iconst (v := nI 0) hx hb dX0_isBehindSlot_20 (by decide) ?_
      exact ia_zret hx hb hr hlk (by omega) (congrArg nI (show 0 = zs_bslot g i from by unfold zs_bslot; (repeat' split) <;> omega)) dX0_isBehindSlot_21
    · refine lv_iconst (v := nI 1) hx hb dX0_isBehindSlot_16 (by decide) ?_
      refine lv_goto (tgt := 21) hx hb dX0_isBehindSlot_17 (by decide) ?_
      exact ia_zret hx hb hr hlk (by omega) (congrArg nI (show 1 = zs_bslot g i from by unfold zs_bslot; (repeat' split) <;> omega)) dX0_isBehindSlot_21
set_option maxHeartbeats 4000000 in
set_option maxRecDepth 100000 in
/-- isBehindFailingOrSingle -/
theorem zc_bfs (l : Launch) (E : ia_E) (n : Nat) (g : Nat → Nat → Nat) (hg : zs_B g) (i : Nat) (hi : i < 400) : ia_R l yX0_isBehindFailingOrSingle cX0_isBehindFailingOrSingle 2 .boolean 0 E n g [.int (nI i)] (nI (zs_bfs g i)) := by
  refine ia_Rof (by decide) rfl (Nat.le_of_ble_eq_true rfl) (fun p e s m args below meth c ls hx hb hr hml hown ht hlk hO hl => ?_)
  have hl : lv_has ls 2 [(0, .ref (ia_h E 0)), (1, .int (nI i))] := hl
  refine lv_iload_n hx hb dX0_isBehindFailingOrSingle_0 rfl (lv_at hl 1 rfl) ?_
  refine zk_ifle (tgt := 32) hx hb dX0_isBehindFailingOrSingle_1 (by decide) (by omega) (fun c_1 => ?_) (fun c_1 => ?_)
  · refine lv_iconst (v := nI 0) hx hb dX0_isBehindFailingOrSingle_32 (by decide) ?_
    exact ia_zret hx hb hr hlk (by omega) (congrArg nI (show 0 = zs_bfs g i from by unfold zs_bfs; (repeat' split) <;> omega)) dX0_isBehindFailingOrSingle_33
  · refine lv_aload_n hx hb dX0_isBehindFailingOrSingle_4 rfl (lv_at hl 0 rfl) ?_
    refine ia_get 9 (v := .ref (ia_h E 9)) hx hb ht hown hO (by decide) rfl zlX0_39 rfl dX0_isBehindFailingOrSingle_5 ?_
    refine lv_iload_n hx hb dX0_isBehindFailingOrSingle_8 rfl (lv_at hl 1 rfl) ?_
    refine lv_iconst (v := nI 1) hx hb dX0_isBehindFailingOrSingle_9 (by decide) ?_
    refine zk_sub hx hb (by omega) dX0_isBehindFailingOrSingle_10 ?_
    refine ia_zld 9 (i - 1) hx hb hO rfl (by omega) dX0_isBehindFailingOrSingle_11 ?_
    have b_2 := hg 9 (i - 1)
    refine zk_ifne (tgt := 28) hx hb dX0_isBehindFailingOrSingle_12 (by decide) (by omega) (fun c_3 => ?_) (fun c_3 => ?_)
    · refine lv_iconst (v := nI 1) hx hb dX0_isBehindFailingOrSingle_28 (by decide) ?_
      refine lv_goto (tgt := 33) hx hb dX0_isBehindFailingOrSingle_29 (by decide) ?_
      exact ia_zret hx hb hr hlk (by omega) (congrArg nI (show 1 = zs_bfs g i from by unfold zs_bfs; (repeat' split) <;> omega)) dX0_isBehindFailingOrSingle_33
    · refine lv_aload_n hx hb dX0_isBehindFailingOrSingle_15 rfl (lv_at hl 0 rfl) ?_
      refine ia_get 1 (v := .ref (ia_h E 1)) hx hb ht hown hO (by decide) rfl zlX0_13 rfl dX0_isBehindFailingOrSingle_16 ?_
      refine lv_iload_n hx hb dX0_isBehindFailingOrSingle_19 rfl (lv_at hl 1 rfl) ?_
      refine lv_iconst (v := nI 1) hx hb dX0_isBehindFailingOrSingle_20 (by decide) ?_
      refine zk_sub hx hb (by omega) dX0_isBehindFailingOrSingle_21 ?_
      refine ia_ild 1 (i - 1) hx hb hO rfl (by omega) dX0_isBehindFailingOrSingle_22 ?_
      have b_4 := hg 1 (i - 1)
      refine lv_bipush (v := nI 6) hx hb dX0_isBehindFailingOrSingle_23 (by decide) ?_
      refine zk_cne (tgt := 32) hx hb dX0_isBehindFailingOrSingle_25 (by decide) (by omega) (by omega) (fun c_5 => ?_) (fun c_5 => ?_)
      · refine lv_iconst (v := nI 0) hx hb dX0_isBehindFailingOrSingle_32 (by decide) ?_
        exact ia_zret hx hb hr hlk (by omega) (congrArg nI (show 0 = zs_bfs g i from by unfold zs_bfs; (repeat' split) <;> omega)) dX0_isBehindFailingOrSingle_33
      · refine lv_iconst (v := nI 1) hx hb dX0_isBehindFailingOrSingle_28 (by decide) ?_
        refine lv_goto (tgt := 33) hx hb dX0_isBehindFailingOrSingle_29 (by decide) ?_
        exact ia_zret hx hb hr hlk (by omega) (congrArg nI (show 1 = zs_bfs g i from by unfold zs_bfs; (repeat' split) <;> omega)) dX0_isBehindFailingOrSingle_33
set_option maxHeartbeats 4000000 in
set_option maxRecDepth 100000 in
/-- isMissed -/
theorem zc_missed (l : Launch) (E : ia_E) (n : Nat) (g : Nat → Nat → Nat) (hg : zs_B g) (i : Nat) (hi : i < 400) : ia_R l yX0_isMissed cX0_isMissed 2 .boolean 0 E n g [.int (nI i)] (nI (zs_missed g i)) := by
  refine ia_Rof (by decide) rfl (Nat.le_of_ble_eq_true rfl) (fun p e s m args below meth c ls hx hb hr hml hown ht hlk hO hl => ?_)
  have hl : lv_has ls 2 [(0, .ref (ia_h E 0)), (1, .int (nI i))] := hl
  refine lv_aload_n hx hb dX0_isMissed_0 rfl (lv_at hl 0 rfl) ?_
  refine ia_get 5 (v := .ref (ia_h E 5)) hx hb ht hown hO (by decide) rfl zlX0_26 rfl dX0_isMissed_1 ?_
  refine lv_iload_n hx hb dX0_isMissed_4 rfl (lv_at hl 1 rfl) ?_
  refine ia_ild 5 i hx hb hO rfl (by omega) dX0_isMissed_5 ?_
  have b_1 := hg 5 i
  refine zk_ifne (tgt := 11) hx hb dX0_isMissed_6 (by decide) (by omega) (fun c_2 => ?_) (fun c_2 => ?_)
  · refine lv_aload_n hx hb dX0_isMissed_11 rfl (lv_at hl 0 rfl) ?_
    refine ia_get 5 (v := .ref (ia_h E 5)) hx hb ht hown hO (by decide) rfl zlX0_26 rfl dX0_isMissed_12 ?_
    refine lv_iload_n hx hb dX0_isMissed_15 rfl (lv_at hl 1 rfl) ?_
    refine ia_ild 5 i hx hb hO rfl (by omega) dX0_isMissed_16 ?_
    have b_3 := hg 5 i
    refine lv_iconst (v := nI 1) hx hb dX0_isMissed_17 (by decide) ?_
    refine zk_cne (tgt := 25) hx hb dX0_isMissed_18 (by decide) (by omega) (by omega) (fun c_4 => ?_) (fun c_4 => ?_)
    · refine lv_iconst (v := nI 0) hx hb dX0_isMissed_25 (by decide) ?_
      refine lv_aload_n hx hb dX0_isMissed_26 rfl (lv_at hl 0 rfl) ?_
      refine ia_get 6 (v := .ref (ia_h E 6)) hx hb ht hown hO (by decide) rfl zlX0_29 rfl dX0_isMissed_27 ?_
      refine lv_iload_n hx hb dX0_isMissed_30 rfl (lv_at hl 1 rfl) ?_
      refine ia_zld 6 i hx hb hO rfl (by omega) dX0_isMissed_31 ?_
      have b_5 := hg 6 i
      refine zk_ceq (tgt := 39) hx hb dX0_isMissed_32 (by decide) (by omega) (by omega) (fun c_6 => ?_) (fun c_6 => ?_)
      · refine lv_iconst (v := nI 0) hx hb dX0_isMissed_39 (by decide) ?_
        exact ia_zret hx hb hr hlk (by omega) (congrArg nI (show 0 = zs_missed g i from by unfold zs_missed; (repeat' split) <;> omega)) dX0_isMissed_40
      · refine lv_iconst (v := nI 1) hx hb dX0_isMissed_35 (by decide) ?_
        refine lv_goto (tgt := 40) hx hb dX0_isMissed_36 (by decide) ?_
        exact ia_zret hx hb hr hlk (by omega) (congrArg nI (show 1 = zs_missed g i from by unfold zs_missed; (repeat' split) <;> omega)) dX0_isMissed_40
    · refine lv_iconst (v := nI 1) hx hb dX0_isMissed_21 (by decide) ?_
      refine lv_goto (tgt := 26) hx hb dX0_isMissed_22 (by decide) ?_
      refine lv_aload_n hx hb dX0_isMissed_26 rfl (lv_at hl 0 rfl) ?_
      refine ia_get 6 (v := .ref (ia_h E 6)) hx hb ht hown hO (by decide) rfl zlX0_29 rfl dX0_isMissed_27 ?_
      refine lv_iload_n hx hb dX0_isMissed_30 rfl (lv_at hl 1 rfl) ?_
      refine ia_zld 6 i hx hb hO rfl (by omega) dX0_isMissed_31 ?_
      have b_7 := hg 6 i
      refine zk_ceq (tgt := 39) hx hb dX0_isMissed_32 (by decide) (by omega) (by omega) (fun c_8 => ?_) (fun c_8 => ?_)
      · refine lv_iconst (v := nI 0) hx hb dX0_isMissed_39 (by decide) ?_
        exact ia_zret hx hb hr hlk (by omega) (congrArg nI (show 0 = zs_missed g i from by unfold zs_missed; (repeat' split) <;> omega)) dX0_isMissed_40
      · refine lv_iconst (v := nI 1) hx hb dX0_isMissed_35 (by decide) ?_
        refine lv_goto (tgt := 40) hx hb dX0_isMissed_36 (by decide) ?_
        exact ia_zret hx hb hr hlk (by omega) (congrArg nI (show 1 = zs_missed g i from by unfold zs_missed; (repeat' split) <;> omega)) dX0_isMissed_40
  · refine lv_iconst (v := nI 1) hx hb dX0_isMissed_9 (by decide) ?_
    exact ia_zret hx hb hr hlk (by omega) (congrArg nI (show 1 = zs_missed g i from by unfold zs_missed; (repeat' split) <;> omega)) dX0_isMissed_10
set_option maxHeartbeats 4000000 in
set_option maxRecDepth 100000 in
/-- isIssuedAsSecond -/
theorem zc_second (l : Launch) (E : ia_E) (n : Nat) (g : Nat → Nat → Nat) (hg : zs_B g) (i : Nat) (hi : i < 400) : ia_R l yX0_isIssuedAsSecond cX0_isIssuedAsSecond 2 .boolean 0 E n g [.int (nI i)] (nI (zs_second g i)) := by
  refine ia_Rof (by decide) rfl (Nat.le_of_ble_eq_true rfl) (fun p e s m args below meth c ls hx hb hr hml hown ht hlk hO hl => ?_)
  have hl : lv_has ls 2 [(0, .ref (ia_h E 0)), (1, .int (nI i))] := hl
  refine lv_iload_n hx hb dX0_isIssuedAsSecond_0 rfl (lv_at hl 1 rfl) ?_
  refine zk_ifle (tgt := 25) hx hb dX0_isIssuedAsSecond_1 (by decide) (by omega) (fun c_1 => ?_) (fun c_1 => ?_)
  · refine lv_iconst (v := nI 0) hx hb dX0_isIssuedAsSecond_25 (by decide) ?_
    exact ia_zret hx hb hr hlk (by omega) (congrArg nI (show 0 = zs_second g i from by unfold zs_second; (repeat' split) <;> omega)) dX0_isIssuedAsSecond_26
  · refine lv_aload_n hx hb dX0_isIssuedAsSecond_4 rfl (lv_at hl 0 rfl) ?_
    refine ia_get 12 (v := .ref (ia_h E 12)) hx hb ht hown hO (by decide) rfl zlX0_48 rfl dX0_isIssuedAsSecond_5 ?_
    refine lv_iload_n hx hb dX0_isIssuedAsSecond_8 rfl (lv_at hl 1 rfl) ?_
    refine lv_iconst (v := nI 1) hx hb dX0_isIssuedAsSecond_9 (by decide) ?_
    refine zk_sub hx hb (by omega) dX0_isIssuedAsSecond_10 ?_
    refine ia_ild 12 (i - 1) hx hb hO rfl (by omega) dX0_isIssuedAsSecond_11 ?_
    have b_2 := hg 12 (i - 1)
    refine lv_aload_n hx hb dX0_isIssuedAsSecond_12 rfl (lv_at hl 0 rfl) ?_
    refine ia_get 12 (v := .ref (ia_h E 12)) hx hb ht hown hO (by decide) rfl zlX0_48 rfl dX0_isIssuedAsSecond_13 ?_
    refine lv_iload_n hx hb dX0_isIssuedAsSecond_16 rfl (lv_at hl 1 rfl) ?_
    refine ia_ild 12 i hx hb hO rfl (by omega) dX0_isIssuedAsSecond_17 ?_
    have b_3 := hg 12 i
    refine zk_cne (tgt := 25) hx hb dX0_isIssuedAsSecond_18 (by decide) (by omega) (by omega) (fun c_4 => ?_) (fun c_4 => ?_)
    · refine lv_iconst (v := nI 0) hx hb dX0_isIssuedAsSecond_25 (by decide) ?_
      exact ia_zret hx hb hr hlk (by omega) (congrArg nI (show 0 = zs_second g i from by unfold zs_second; (repeat' split) <;> omega)) dX0_isIssuedAsSecond_26
    · refine lv_iconst (v := nI 1) hx hb dX0_isIssuedAsSecond_21 (by decide) ?_
      refine lv_goto (tgt := 26) hx hb dX0_isIssuedAsSecond_22 (by decide) ?_
      exact ia_zret hx hb hr hlk (by omega) (congrArg nI (show 1 = zs_second g i from by unfold zs_second; (repeat' split) <;> omega)) dX0_isIssuedAsSecond_26
set_option maxHeartbeats 4000000 in
set_option maxRecDepth 100000 in
/-- doneBefore -/
theorem zc_dbef (l : Launch) (E : ia_E) (n : Nat) (g : Nat → Nat → Nat) (hg : zs_B g) (i : Nat) (hi : i < 400) : ia_R l yX0_doneBefore cX0_doneBefore 2 .int 0 E n g [.int (nI i)] (nI (zs_dbef g i)) := by
  refine ia_Rof (by decide) rfl (Nat.le_of_ble_eq_true rfl) (fun p e s m args below meth c ls hx hb hr hml hown ht hlk hO hl => ?_)
  have hl : lv_has ls 2 [(0, .ref (ia_h E 0)), (1, .int (nI i))] := hl
  refine lv_iload_n hx hb dX0_doneBefore_0 rfl (lv_at hl 1 rfl) ?_
  refine zk_ifle (tgt := 15) hx hb dX0_doneBefore_1 (by decide) (by omega) (fun c_1 => ?_) (fun c_1 => ?_)
  · refine lv_iconst (v := nI 0) hx hb dX0_doneBefore_15 (by decide) ?_
    exact ia_iret hx hb hr hlk (congrArg nI (show 0 = zs_dbef g i from by unfold zs_dbef; (repeat' split) <;> omega)) dX0_doneBefore_16
  · refine lv_aload_n hx hb dX0_doneBefore_4 rfl (lv_at hl 0 rfl) ?_
    refine ia_get 13 (v := .ref (ia_h E 13)) hx hb ht hown hO (by decide) rfl zlX0_51 rfl dX0_doneBefore_5 ?_
    refine lv_iload_n hx hb dX0_doneBefore_8 rfl (lv_at hl 1 rfl) ?_
    refine lv_iconst (v := nI 1) hx hb dX0_doneBefore_9 (by decide) ?_
    refine zk_sub hx hb (by omega) dX0_doneBefore_10 ?_
    refine ia_ild 13 (i - 1) hx hb hO rfl (by omega) dX0_doneBefore_11 ?_
    have b_2 := hg 13 (i - 1)
    refine lv_goto (tgt := 16) hx hb dX0_doneBefore_12 (by decide) ?_
    exact ia_iret hx hb hr hlk (congrArg nI (show g 13 (i - 1) = zs_dbef g i from by unfold zs_dbef; (repeat' split) <;> omega)) dX0_doneBefore_16
set_option maxHeartbeats 4000000 in
set_option maxRecDepth 100000 in
/-- reads -/
theorem zc_reads (l : Launch) (E : ia_E) (n : Nat) (g : Nat → Nat → Nat) (hg : zs_B g) (i : Nat) (r : Nat) (hi : i < 400) (hr0 : r < 2 ^ 31) : ia_R l yX0_reads cX0_reads 3 .boolean 0 E n g [.int (nI i), .int (nI r)] (nI (zs_reads g i r)) := by
  refine ia_Rof (by decide) rfl (Nat.le_of_ble_eq_true rfl) (fun p e s m args below meth c ls hx hb hr hml hown ht hlk hO hl => ?_)
  have hl : lv_has ls 3 [(0, .ref (ia_h E 0)), (1, .int (nI i)), (2, .int (nI r))] := hl
  refine lv_iload_n hx hb dX0_reads_0 rfl (lv_at hl 2 rfl) ?_
  refine zk_ifeq (tgt := 28) hx hb dX0_reads_1 (by decide) (by omega) (fun c_1 => ?_) (fun c_1 => ?_)
  · refine lv_iconst (v := nI 0) hx hb dX0_reads_28 (by decide) ?_
    exact ia_zret hx hb hr hlk (by omega) (congrArg nI (show 0 = zs_reads g i r from by unfold zs_reads; (repeat' split) <;> omega)) dX0_reads_29
  · refine lv_aload_n hx hb dX0_reads_4 rfl (lv_at hl 0 rfl) ?_
    refine ia_get 3 (v := .ref (ia_h E 3)) hx hb ht hown hO (by decide) rfl zlX0_20 rfl dX0_reads_5 ?_
    refine lv_iload_n hx hb dX0_reads_8 rfl (lv_at hl 1 rfl) ?_
    refine ia_ild 3 i hx hb hO rfl (by omega) dX0_reads_9 ?_
    have b_2 := hg 3 i
    refine lv_iload_n hx hb dX0_reads_10 rfl (lv_at hl 2 rfl) ?_
    refine zk_ceq (tgt := 24) hx hb dX0_reads_11 (by decide) (by omega) (by omega) (fun c_3 => ?_) (fun c_3 => ?_)
    · refine lv_iconst (v := nI 1) hx hb dX0_reads_24 (by decide) ?_
      refine lv_goto (tgt := 29) hx hb dX0_reads_25 (by decide) ?_
      exact ia_zret hx hb hr hlk (by omega) (congrArg nI (show 1 = zs_reads g i r from by unfold zs_reads; (repeat' split) <;> omega)) dX0_reads_29
    · refine lv_aload_n hx hb dX0_reads_14 rfl (lv_at hl 0 rfl) ?_
      refine ia_get 4 (v := .ref (ia_h E 4)) hx hb ht hown hO (by decide) rfl zlX0_23 rfl dX0_reads_15 ?_
      refine lv_iload_n hx hb dX0_reads_18 rfl (lv_at hl 1 rfl) ?_
      refine ia_ild 4 i hx hb hO rfl (by omega) dX0_reads_19 ?_
      have b_4 := hg 4 i
      refine lv_iload_n hx hb dX0_reads_20 rfl (lv_at hl 2 rfl) ?_
      refine zk_cne (tgt := 28) hx hb dX0_reads_21 (by decide) (by omega) (by omega) (fun c_5 => ?_) (fun c_5 => ?_)
      · refine lv_iconst (v := nI 0) hx hb dX0_reads_28 (by decide) ?_
        exact ia_zret hx hb hr hlk (by omega) (congrArg nI (show 0 = zs_reads g i r from by unfold zs_reads; (repeat' split) <;> omega)) dX0_reads_29
      · refine lv_iconst (v := nI 1) hx hb dX0_reads_24 (by decide) ?_
        refine lv_goto (tgt := 29) hx hb dX0_reads_25 (by decide) ?_
        exact ia_zret hx hb hr hlk (by omega) (congrArg nI (show 1 = zs_reads g i r from by unfold zs_reads; (repeat' split) <;> omega)) dX0_reads_29
set_option maxHeartbeats 4000000 in
set_option maxRecDepth 100000 in
/-- stageAt -/
theorem zc_stage (l : Launch) (E : ia_E) (n : Nat) (g : Nat → Nat → Nat) (hg : zs_B g) (i : Nat) (y : Nat) (hi : i < 400) (hy0 : y < 2 ^ 31) : ia_R l yX0_stageAt cX0_stageAt 3 .int 0 E n g [.int (nI i), .int (nI y)] (nI (zs_stage g i y)) := by
  refine ia_Rof (by decide) rfl (Nat.le_of_ble_eq_true rfl) (fun p e s m args below meth c ls hx hb hr hml hown ht hlk hO hl => ?_)
  have hl : lv_has ls 3 [(0, .ref (ia_h E 0)), (1, .int (nI i)), (2, .int (nI y))] := hl
  refine lv_iload_n hx hb dX0_stageAt_0 rfl (lv_at hl 2 rfl) ?_
  refine lv_aload_n hx hb dX0_stageAt_1 rfl (lv_at hl 0 rfl) ?_
  refine ia_get 11 (v := .ref (ia_h E 11)) hx hb ht hown hO (by decide) rfl zlX0_45 rfl dX0_stageAt_2 ?_
  refine lv_iload_n hx hb dX0_stageAt_5 rfl (lv_at hl 1 rfl) ?_
  refine ia_ild 11 i hx hb hO rfl (by omega) dX0_stageAt_6 ?_
  have b_1 := hg 11 i
  refine zk_cge (tgt := 12) hx hb dX0_stageAt_7 (by decide) (by omega) (by omega) (fun c_2 => ?_) (fun c_2 => ?_)
  · refine lv_iload_n hx hb dX0_stageAt_12 rfl (lv_at hl 2 rfl) ?_
    refine lv_aload_n hx hb dX0_stageAt_13 rfl (lv_at hl 0 rfl) ?_
    refine ia_get 12 (v := .ref (ia_h E 12)) hx hb ht hown hO (by decide) rfl zlX0_48 rfl dX0_stageAt_14 ?_
    refine lv_iload_n hx hb dX0_stageAt_17 rfl (lv_at hl 1 rfl) ?_
    refine ia_ild 12 i hx hb hO rfl (by omega) dX0_stageAt_18 ?_
    have b_3 := hg 12 i
    refine zk_cge (tgt := 24) hx hb dX0_stageAt_19 (by decide) (by omega) (by omega) (fun c_4 => ?_) (fun c_4 => ?_)
    · refine lv_iload_n hx hb dX0_stageAt_24 rfl (lv_at hl 2 rfl) ?_
      refine lv_aload_n hx hb dX0_stageAt_25 rfl (lv_at hl 0 rfl) ?_
      refine ia_get 13 (v := .ref (ia_h E 13)) hx hb ht hown hO (by decide) rfl zlX0_51 rfl dX0_stageAt_26 ?_
      refine lv_iload_n hx hb dX0_stageAt_29 rfl (lv_at hl 1 rfl) ?_
      refine ia_ild 13 i hx hb hO rfl (by omega) dX0_stageAt_30 ?_
      have b_5 := hg 13 i
      refine zk_cge (tgt := 38) hx hb dX0_stageAt_31 (by decide) (by omega) (by omega) (fun c_6 => ?_) (fun c_6 => ?_)
      · refine lv_iconst (v := nI 3) hx hb dX0_stageAt_38 (by decide) ?_
        exact ia_iret hx hb hr hlk (congrArg nI (show 3 = zs_stage g i y from by unfold zs_stage; (repeat' split) <;> omega)) dX0_stageAt_39
      · refine lv_iconst (v := nI 2) hx hb dX0_stageAt_34 (by decide) ?_
        refine lv_goto (tgt := 39) hx hb dX0_stageAt_35 (by decide) ?_
        exact ia_iret hx hb hr hlk (congrArg nI (show 2 = zs_stage g i y from by unfold zs_stage; (repeat' split) <;> omega)) dX0_stageAt_39
    · refine lv_iconst (v := nI 1) hx hb dX0_stageAt_22 (by decide) ?_
      exact ia_iret hx hb hr hlk (congrArg nI (show 1 = zs_stage g i y from by unfold zs_stage; (repeat' split) <;> omega)) dX0_stageAt_23
  · refine lv_iconst (v := nI 0) hx hb dX0_stageAt_10 (by decide) ?_
    exact ia_iret hx hb hr hlk (congrArg nI (show 0 = zs_stage g i y from by unfold zs_stage; (repeat' split) <;> omega)) dX0_stageAt_11
set_option maxHeartbeats 4000000 in
set_option maxRecDepth 100000 in
/-- groupSize -/
theorem zc_gsize (l : Launch) (E : ia_E) (n : Nat) (g : Nat → Nat → Nat) (hg : zs_B g) (i : Nat) (hi : i < n) (hn : n ≤ 400) : ia_R l yX0_groupSize cX0_groupSize 2 .int 0 E n g [.int (nI i)] (nI (zs_gsize g n i)) := by
  refine ia_Rof (by decide) rfl (Nat.le_of_ble_eq_true rfl) (fun p e s m args below meth c ls hx hb hr hml hown ht hlk hO hl => ?_)
  have hl : lv_has ls 2 [(0, .ref (ia_h E 0)), (1, .int (nI i))] := hl
  refine lv_aload_n hx hb dX0_groupSize_0 rfl (lv_at hl 0 rfl) ?_
  refine ia_get 10 (v := .ref (ia_h E 10)) hx hb ht hown hO (by decide) rfl zlX0_42 rfl dX0_groupSize_1 ?_
  refine lv_iload_n hx hb dX0_groupSize_4 rfl (lv_at hl 1 rfl) ?_
  refine ia_zld 10 i hx hb hO rfl (by omega) dX0_groupSize_5 ?_
  have b_1 := hg 10 i
  refine zk_ifne (tgt := 11) hx hb dX0_groupSize_6 (by decide) (by omega) (fun c_2 => ?_) (fun c_2 => ?_)
  · refine lv_iload_n hx hb dX0_groupSize_11 rfl (lv_at hl 1 rfl) ?_
    refine lv_iconst (v := nI 1) hx hb dX0_groupSize_12 (by decide) ?_
    refine zk_add hx hb dX0_groupSize_13 ?_
    refine lv_aload_n hx hb dX0_groupSize_14 rfl (lv_at hl 0 rfl) ?_
    refine ia_get 0 (v := .int (nI n)) hx hb ht hown hO (by decide) rfl zlX0_7 rfl dX0_groupSize_15 ?_
    refine zk_cge (tgt := 36) hx hb dX0_groupSize_18 (by decide) (by omega) (by omega) (fun c_3 => ?_) (fun c_3 => ?_)
    · refine lv_iconst (v := nI 1) hx hb dX0_groupSize_36 (by decide) ?_
      exact ia_iret hx hb hr hlk (congrArg nI (show 1 = zs_gsize g n i from by unfold zs_gsize; (repeat' split) <;> omega)) dX0_groupSize_37
    · refine lv_aload_n hx hb dX0_groupSize_21 rfl (lv_at hl 0 rfl) ?_
      refine ia_get 10 (v := .ref (ia_h E 10)) hx hb ht hown hO (by decide) rfl zlX0_42 rfl dX0_groupSize_22 ?_
      refine lv_iload_n hx hb dX0_groupSize_25 rfl (lv_at hl 1 rfl) ?_
      refine lv_iconst (v := nI 1) hx hb dX0_groupSize_26 (by decide) ?_
      refine zk_add hx hb dX0_groupSize_27 ?_
      refine ia_zld 10 (i + 1) hx hb hO rfl (by omega) dX0_groupSize_28 ?_
      have b_4 := hg 10 (i + 1)
      refine zk_ifne (tgt := 36) hx hb dX0_groupSize_29 (by decide) (by omega) (fun c_5 => ?_) (fun c_5 => ?_)
      · refine lv_iconst (v := nI 1) hx hb dX0_groupSize_36 (by decide) ?_
        exact ia_iret hx hb hr hlk (congrArg nI (show 1 = zs_gsize g n i from by unfold zs_gsize; (repeat' split) <;> omega)) dX0_groupSize_37
      · refine lv_iconst (v := nI 2) hx hb dX0_groupSize_32 (by decide) ?_
        refine lv_goto (tgt := 37) hx hb dX0_groupSize_33 (by decide) ?_
        exact ia_iret hx hb hr hlk (congrArg nI (show 2 = zs_gsize g n i from by unfold zs_gsize; (repeat' split) <;> omega)) dX0_groupSize_37
  · refine lv_iconst (v := nI 2) hx hb dX0_groupSize_9 (by decide) ?_
    exact ia_iret hx hb hr hlk (congrArg nI (show 2 = zs_gsize g n i from by unfold zs_gsize; (repeat' split) <;> omega)) dX0_groupSize_10
set_option maxHeartbeats 4000000 in
set_option maxRecDepth 100000 in
/-- liesBehind -/
theorem zc_lies (l : Launch) (E : ia_E) (n : Nat) (g : Nat → Nat → Nat) (hg : zs_B g) (i : Nat) (hi : i < 400) : ia_R l yX0_liesBehind cX0_liesBehind 2 .boolean 1 E n g [.int (nI i)] (nI (zs_lies g i)) := by
  refine ia_Rof (by decide) rfl (Nat.le_of_ble_eq_true rfl) (fun p e s m args below meth c ls hx hb hr hml hown ht hlk hO hl => ?_)
  have hl : lv_has ls 2 [(0, .ref (ia_h E 0)), (1, .int (nI i))] := hl
  refine lv_iload_n hx hb dX0_liesBehind_0 rfl (lv_at hl 1 rfl) ?_
  refine zk_ifle (tgt := 38) hx hb dX0_liesBehind_1 (by decide) (by omega) (fun c_1 => ?_) (fun c_1 => ?_)
  · refine lv_iconst (v := nI 0) hx hb dX0_liesBehind_38 (by decide) ?_
    exact ia_zret hx hb hr hlk (by omega) (congrArg nI (show 0 = zs_lies g i from by unfold zs_lies; (repeat' split) <;> omega)) dX0_liesBehind_39
  · refine lv_aload_n hx hb dX0_liesBehind_4 rfl (lv_at hl 0 rfl) ?_
    refine ia_get 9 (v := .ref (ia_h E 9)) hx hb ht hown hO (by decide) rfl zlX0_39 rfl dX0_liesBehind_5 ?_
    refine lv_iload_n hx hb dX0_liesBehind_8 rfl (lv_at hl 1 rfl) ?_
    refine lv_iconst (v := nI 1) hx hb dX0_liesBehind_9 (by decide) ?_
    refine zk_sub hx hb (by omega) dX0_liesBehind_10 ?_
    refine ia_zld 9 (i - 1) hx hb hO rfl (by omega) dX0_liesBehind_11 ?_
    have b_2 := hg 9 (i - 1)
    refine zk_ifne (tgt := 38) hx hb dX0_liesBehind_12 (by decide) (by omega) (fun c_3 => ?_) (fun c_3 => ?_)
    · refine lv_iconst (v := nI 0) hx hb dX0_liesBehind_38 (by decide) ?_
      exact ia_zret hx hb hr hlk (by omega) (congrArg nI (show 0 = zs_lies g i from by unfold zs_lies; (repeat' split) <;> omega)) dX0_liesBehind_39
    · refine lv_aload_n hx hb dX0_liesBehind_15 rfl (lv_at hl 0 rfl) ?_
      refine lv_iload_n hx hb dX0_liesBehind_16 rfl (lv_at hl 1 rfl) ?_
      refine ia_call (rest := []) hx hb hml hl.1 hown ht hO (zc_bslot l E n g hg i (by omega)) zgX0_124 zyX0_isBehindSlot rfl ⟨by decide, by decide⟩ ⟨Nat.zero_le _, Nat.zero_le _⟩ (Nat.le_of_ble_eq_true rfl) rfl dX0_liesBehind_17 ?_
      have b_4 := zb_bslot g i
      refine zk_ifeq (tgt := 34) hx hb dX0_liesBehind_20 (by decide) (by omega) (fun c_5 => ?_) (fun c_5 => ?_)
      · refine lv_iconst (v := nI 1) hx hb dX0_liesBehind_34 (by decide) ?_
        refine lv_goto (tgt := 39) hx hb dX0_liesBehind_35 (by decide) ?_
        exact ia_zret hx hb hr hlk (by omega) (congrArg nI (show 1 = zs_lies g i from by unfold zs_lies; (repeat' split) <;> omega)) dX0_liesBehind_39
      · refine lv_aload_n hx hb dX0_liesBehind_23 rfl (lv_at hl 0 rfl) ?_
        refine ia_get 6 (v := .ref (ia_h E 6)) hx hb ht hown hO (by decide) rfl zlX0_29 rfl dX0_liesBehind_24 ?_
        refine lv_iload_n hx hb dX0_liesBehind_27 rfl (lv_at hl 1 rfl) ?_
        refine lv_iconst (v := nI 2) hx hb dX0_liesBehind_28 (by decide) ?_
        refine zk_sub hx hb (by omega) dX0_liesBehind_29 ?_
        refine ia_zld 6 (i - 2) hx hb hO rfl (by omega) dX0_liesBehind_30 ?_
        have b_6 := hg 6 (i - 2)
        refine zk_ifne (tgt := 38) hx hb dX0_liesBehind_31 (by decide) (by omega) (fun c_7 => ?_) (fun c_7 => ?_)
        · refine lv_iconst (v := nI 0) hx hb dX0_liesBehind_38 (by decide) ?_
          exact ia_zret hx hb hr hlk (by omega) (congrArg nI (show 0 = zs_lies g i from by unfold zs_lies; (repeat' split) <;> omega)) dX0_liesBehind_39
        · refine lv_iconst (v := nI 1) hx hb dX0_liesBehind_34 (by decide) ?_
          refine lv_goto (tgt := 39) hx hb dX0_liesBehind_35 (by decide) ?_
          exact ia_zret hx hb hr hlk (by omega) (congrArg nI (show 1 = zs_lies g i from by unfold zs_lies; (repeat' split) <;> omega)) dX0_liesBehind_39
set_option maxHeartbeats 4000000 in
set_option maxRecDepth 100000 in
/-- isBehindSlotOfMissedBranch -/
theorem zc_bsm (l : Launch) (E : ia_E) (n : Nat) (g : Nat → Nat → Nat) (hg : zs_B g) (i : Nat) (hi : i < 400) : ia_R l yX0_isBehindSlotOfMissedBranch cX0_isBehindSlotOfMissedBranch 2 .boolean 1 E n g [.int (nI i)] (nI (zs_bsm g i)) := by
  refine ia_Rof (by decide) rfl (Nat.le_of_ble_eq_true rfl) (fun p e s m args below meth c ls hx hb hr hml hown ht hlk hO hl => ?_)
  have hl : lv_has ls 2 [(0, .ref (ia_h E 0)), (1, .int (nI i))] := hl
  refine lv_aload_n hx hb dX0_isBehindSlotOfMissedBranch_0 rfl (lv_at hl 0 rfl) ?_
  refine lv_iload_n hx hb dX0_isBehindSlotOfMissedBranch_1 rfl (lv_at hl 1 rfl) ?_
  refine ia_call (rest := []) hx hb hml hl.1 hown ht hO (zc_bslot l E n g hg i (by omega)) zgX0_124 zyX0_isBehindSlot rfl ⟨by decide, by decide⟩ ⟨Nat.zero_le _, Nat.zero_le _⟩ (Nat.le_of_ble_eq_true rfl) rfl dX0_isBehindSlotOfMissedBranch_2 ?_
  have b_1 := zb_bslot g i
  refine zk_ifeq (tgt := 22) hx hb dX0_isBehindSlotOfMissedBranch_5 (by decide) (by omega) (fun c_2 => ?_) (fun c_2 => ?_)
  · refine lv_iconst (v := nI 0) hx hb dX0_isBehindSlotOfMissedBranch_22 (by decide) ?_
    exact ia_zret hx hb hr hlk (by omega) (congrArg nI (show 0 = zs_bsm g i from by unfold zs_bsm; (repeat' split) <;> omega)) dX0_isBehindSlotOfMissedBranch_23
  · refine lv_aload_n hx hb dX0_isBehindSlotOfMissedBranch_8 rfl (lv_at hl 0 rfl) ?_
    refine lv_iload_n hx hb dX0_isBehindSlotOfMissedBranch_9 rfl (lv_at hl 1 rfl) ?_
    refine lv_iconst (v := nI 2) hx hb dX0_isBehindSlotOfMissedBranch_10 (by decide) ?_
    refine zk_sub hx hb (by omega) dX0_isBehindSlotOfMissedBranch_11 ?_
    refine ia_call (rest := []) hx hb hml hl.1 hown ht hO (zc_missed l E n g hg (i - 2) (by omega)) zgX0_133 zyX0_isMissed rfl ⟨by decide, by decide⟩ ⟨Nat.zero_le _, Nat.zero_le _⟩ (Nat.le_of_ble_eq_true rfl) rfl dX0_isBehindSlotOfMissedBranch_12 ?_
    have b_3 := zb_missed g (i - 2)
    refine zk_ifeq (tgt := 22) hx hb dX0_isBehindSlotOfMissedBranch_15 (by decide) (by omega) (fun c_4 => ?_) (fun c_4 => ?_)
    · refine lv_iconst (v := nI 0) hx hb dX0_isBehindSlotOfMissedBranch_22 (by decide) ?_
      exact ia_zret hx hb hr hlk (by omega) (congrArg nI (show 0 = zs_bsm g i from by unfold zs_bsm; (repeat' split) <;> omega)) dX0_isBehindSlotOfMissedBranch_23
    · refine lv_iconst (v := nI 1) hx hb dX0_isBehindSlotOfMissedBranch_18 (by decide) ?_
      refine lv_goto (tgt := 23) hx hb dX0_isBehindSlotOfMissedBranch_19 (by decide) ?_
      exact ia_zret hx hb hr hlk (by omega) (congrArg nI (show 1 = zs_bsm g i from by unfold zs_bsm; (repeat' split) <;> omega)) dX0_isBehindSlotOfMissedBranch_23
set_option maxHeartbeats 4000000 in
set_option maxRecDepth 100000 in
/-- isRedirected -/
theorem zc_redir (l : Launch) (E : ia_E) (n : Nat) (g : Nat → Nat → Nat) (hg : zs_B g) (i : Nat) (hi : i < 400) : ia_R l yX0_isRedirected cX0_isRedirected 2 .boolean 2 E n g [.int (nI i)] (nI (zs_redir g i)) := by
  refine ia_Rof (by decide) rfl (Nat.le_of_ble_eq_true rfl) (fun p e s m args below meth c ls hx hb hr hml hown ht hlk hO hl => ?_)
  have hl : lv_has ls 2 [(0, .ref (ia_h E 0)), (1, .int (nI i))] := hl
  refine lv_aload_n hx hb dX0_isRedirected_0 rfl (lv_at hl 0 rfl) ?_
  refine lv_iload_n hx hb dX0_isRedirected_1 rfl (lv_at hl 1 rfl) ?_
  refine ia_call (rest := []) hx hb hml hl.1 hown ht hO (zc_bfs l E n g hg i (by omega)) zgX0_127 zyX0_isBehindFailingOrSingle rfl ⟨by decide, by decide⟩ ⟨Nat.zero_le _, Nat.zero_le _⟩ (Nat.le_of_ble_eq_true rfl) rfl dX0_isRedirected_2 ?_
  have b_1 := zb_bfs g i
  refine zk_ifne (tgt := 16) hx hb dX0_isRedirected_5 (by decide) (by omega) (fun c_2 => ?_) (fun c_2 => ?_)
  · refine lv_iconst (v := nI 1) hx hb dX0_isRedirected_16 (by decide) ?_
    refine lv_goto (tgt := 21) hx hb dX0_isRedirected_17 (by decide) ?_
    exact ia_zret hx hb hr hlk (by omega) (congrArg nI (show 1 = zs_redir g i from by unfold zs_redir; (repeat' split) <;> omega)) dX0_isRedirected_21
  · refine lv_aload_n hx hb dX0_isRedirected_8 rfl (lv_at hl 0 rfl) ?_
    refine lv_iload_n hx hb dX0_isRedirected_9 rfl (lv_at hl 1 rfl) ?_
    refine ia_call (rest := []) hx hb hml hl.1 hown ht hO (zc_bsm l E n g hg i (by omega)) zgX0_130 zyX0_isBehindSlotOfMissedBranch rfl ⟨by decide, by decide⟩ ⟨Nat.zero_le _, Nat.zero_le _⟩ (Nat.le_of_ble_eq_true rfl) rfl dX0_isRedirected_10 ?_
    have b_3 := zb_bsm g i
    refine zk_ifeq (tgt := 20) hx hb dX0_isRedirected_13 (by decide) (by omega) (fun c_4 => ?_) (fun c_4 => ?_)
    · refine lv_iconst (v := nI 0) hx hb dX0_isRedirected_20 (by decide) ?_
      exact ia_zret hx hb hr hlk (by omega) (congrArg nI (show 0 = zs_redir g i from by unfold zs_redir; (repeat' split) <;> omega)) dX0_isRedirected_21
    · refine lv_iconst (v := nI 1) hx hb dX0_isRedirected_16 (by decide) ?_
      refine lv_goto (tgt := 21) hx hb dX0_isRedirected_17 (by decide) ?_
      exact ia_zret hx hb hr hlk (by omega) (congrArg nI (show 1 = zs_redir g i from by unfold zs_redir; (repeat' split) <;> omega)) dX0_isRedirected_21
set_option maxHeartbeats 4000000 in
set_option maxRecDepth 100000 in
/-- makesPair -/
theorem zc_pair (l : Launch) (E : ia_E) (n : Nat) (g : Nat → Nat → Nat) (hg : zs_B g) (i : Nat) (hi : i < 400) : ia_R l yX0_makesPair cX0_makesPair 4 .boolean 1 E n g [.int (nI i)] (nI (zs_pair g i)) := by
  refine ia_Rof (by decide) rfl (Nat.le_of_ble_eq_true rfl) (fun p e s m args below meth c ls hx hb hr hml hown ht hlk hO hl => ?_)
  have hl : lv_has ls 4 [(0, .ref (ia_h E 0)), (1, .int (nI i))] := hl
  refine lv_iload_n hx hb dX0_makesPair_0 rfl (lv_at hl 1 rfl) ?_
  refine zk_ifne (tgt := 6) hx hb dX0_makesPair_1 (by decide) (by omega) (fun c_1 => ?_) (fun c_1 => ?_)
  · refine lv_aload_n hx hb dX0_makesPair_6 rfl (lv_at hl 0 rfl) ?_
    refine ia_get 1 (v := .ref (ia_h E 1)) hx hb ht hown hO (by decide) rfl zlX0_13 rfl dX0_makesPair_7 ?_
    refine lv_iload_n hx hb dX0_makesPair_10 rfl (lv_at hl 1 rfl) ?_
    refine lv_iconst (v := nI 1) hx hb dX0_makesPair_11 (by decide) ?_
    refine zk_sub hx hb (by omega) dX0_makesPair_12 ?_
    refine ia_ild 1 (i - 1) hx hb hO rfl (by omega) dX0_makesPair_13 ?_
    have b_2 := hg 1 (i - 1)
    refine lv_istore_n (lv' := [(2, .int (nI (g 1 (i - 1)))), (0, .ref (ia_h E 0)), (1, .int (nI i))]) hx hb dX0_makesPair_14 rfl hl (by decide) rfl (fun ls hl => ?_)
    refine lv_aload_n hx hb dX0_makesPair_15 rfl (lv_at hl 1 rfl) ?_
    refine ia_get 1 (v := .ref (ia_h E 1)) hx hb ht hown hO (by decide) rfl zlX0_13 rfl dX0_makesPair_16 ?_
    refine lv_iload_n hx hb dX0_makesPair_19 rfl (lv_at hl 2 rfl) ?_
    refine ia_ild 1 i hx hb hO rfl (by omega) dX0_makesPair_20 ?_
    have b_3 := hg 1 i
    refine lv_istore_n (lv' := [(3, .int (nI (g 1 i))), (2, .int (nI (g 1 (i - 1)))), (0, .ref (ia_h E 0)), (1, .int (nI i))]) hx hb dX0_makesPair_21 rfl hl (by decide) rfl (fun ls hl => ?_)
    refine lv_iload_n hx hb dX0_makesPair_22 rfl (lv_at hl 1 rfl) ?_
    refine lv_bipush (v := nI 6) hx hb dX0_makesPair_23 (by decide) ?_
    refine zk_ceq (tgt := 39) hx hb dX0_makesPair_25 (by decide) (by omega) (by omega) (fun c_4 => ?_) (fun c_4 => ?_)
    · refine lv_iconst (v := nI 0) hx hb dX0_makesPair_39 (by decide) ?_
      exact ia_zret hx hb hr hlk (by omega) (congrArg nI (show 0 = zs_pair g i from by unfold zs_pair; (repeat' split) <;> omega)) dX0_makesPair_40
    · refine lv_iload_n hx hb dX0_makesPair_28 rfl (lv_at hl 0 rfl) ?_
      refine lv_bipush (v := nI 6) hx hb dX0_makesPair_29 (by decide) ?_
      refine zk_ceq (tgt := 39) hx hb dX0_makesPair_31 (by decide) (by omega) (by omega) (fun c_5 => ?_) (fun c_5 => ?_)
      · refine lv_iconst (v := nI 0) hx hb dX0_makesPair_39 (by decide) ?_
        exact ia_zret hx hb hr hlk (by omega) (congrArg nI (show 0 = zs_pair g i from by unfold zs_pair; (repeat' split) <;> omega)) dX0_makesPair_40
      · refine lv_iload_n hx hb dX0_makesPair_34 rfl (lv_at hl 1 rfl) ?_
        refine lv_iconst (v := nI 5) hx hb dX0_makesPair_35 (by decide) ?_
        refine zk_cne (tgt := 41) hx hb dX0_makesPair_36 (by decide) (by omega) (by omega) (fun c_6 => ?_) (fun c_6 => ?_)
        · refine lv_iload_n hx hb dX0_makesPair_41 rfl (lv_at hl 1 rfl) ?_
          refine ia_callS (rest := []) hx hb hml hl.1 hown ht (zc_mem l (g 1 (i - 1)) (by omega)) zgX0_153 zyX0_usesMemory rfl ⟨by decide, by decide⟩ ⟨Nat.zero_le _, Nat.zero_le _⟩ (Nat.le_of_ble_eq_true rfl) rfl dX0_makesPair_42 ?_
          have b_7 := zb_mem (g 1 (i - 1))
          refine zk_ifeq (tgt := 57) hx hb dX0_makesPair_45 (by decide) (by omega) (fun c_8 => ?_) (fun c_8 => ?_)
          · refine lv_iload_n hx hb dX0_makesPair_57 rfl (lv_at hl 1 rfl) ?_
            refine ia_callS (rest := []) hx hb hml hl.1 hown ht (zc_mul l (g 1 (i - 1)) (by omega)) zgX0_156 zyX0_usesMultiplier rfl ⟨by decide, by decide⟩ ⟨Nat.zero_le _, Nat.zero_le _⟩ (Nat.le_of_ble_eq_true rfl) rfl dX0_makesPair_58 ?_
            have b_9 := zb_mul (g 1 (i - 1))
            refine zk_ifeq (tgt := 73) hx hb dX0_makesPair_61 (by decide) (by omega) (fun c_10 => ?_) (fun c_10 => ?_)
            · refine lv_aload_n hx hb dX0_makesPair_73 rfl (lv_at hl 2 rfl) ?_
              refine lv_iload_n hx hb dX0_makesPair_74 rfl (lv_at hl 3 rfl) ?_
              refine lv_aload_n hx hb dX0_makesPair_75 rfl (lv_at hl 2 rfl) ?_
              refine ia_get 2 (v := .ref (ia_h E 2)) hx hb ht hown hO (by decide) rfl zlX0_17 rfl dX0_makesPair_76 ?_
              refine lv_iload_n hx hb dX0_makesPair_79 rfl (lv_at hl 3 rfl) ?_
              refine lv_iconst (v := nI 1) hx hb dX0_makesPair_80 (by decide) ?_
              refine zk_sub hx hb (by omega) dX0_makesPair_81 ?_
              refine ia_ild 2 (i - 1) hx hb hO rfl (by omega) dX0_makesPair_82 ?_
              have b_11 := hg 2 (i - 1)
              refine ia_call (rest := []) hx hb hml hl.1 hown ht hO (zc_reads l E n g hg i (g 2 (i - 1)) (by omega) (by omega)) zgX0_159 zyX0_reads rfl ⟨by decide, by decide⟩ ⟨Nat.zero_le _, Nat.zero_le _⟩ (Nat.le_of_ble_eq_true rfl) rfl dX0_makesPair_83 ?_
              have b_12 := zb_reads g i (g 2 (i - 1))
              refine zk_ifne (tgt := 93) hx hb dX0_makesPair_86 (by decide) (by omega) (fun c_13 => ?_) (fun c_13 => ?_)
              · refine lv_iconst (v := nI 0) hx hb dX0_makesPair_93 (by decide) ?_
                exact ia_zret hx hb hr hlk (by omega) (congrArg nI (show 0 = zs_pair g i from by unfold zs_pair; (repeat' split) <;> omega)) dX0_makesPair_94
              · refine lv_iconst (v := nI 1) hx hb dX0_makesPair_89 (by decide) ?_
                refine lv_goto (tgt := 94) hx hb dX0_makesPair_90 (by decide) ?_
                exact ia_zret hx hb hr hlk (by omega) (congrArg nI (show 1 = zs_pair g i from by unfold zs_pair; (repeat' split) <;> omega)) dX0_makesPair_94
            · refine lv_iload_n hx hb dX0_makesPair_64 rfl (lv_at hl 0 rfl) ?_
              refine ia_callS (rest := []) hx hb hml hl.1 hown ht (zc_mul l (g 1 i) (by omega)) zgX0_156 zyX0_usesMultiplier rfl ⟨by decide, by decide⟩ ⟨Nat.zero_le _, Nat.zero_le _⟩ (Nat.le_of_ble_eq_true rfl) rfl dX0_makesPair_65 ?_
              have b_14 := zb_mul (g 1 i)
              refine zk_ifeq (tgt := 73) hx hb dX0_makesPair_68 (by decide) (by omega) (fun c_15 => ?_) (fun c_15 => ?_)
              · refine lv_aload_n hx hb dX0_makesPair_73 rfl (lv_at hl 2 rfl) ?_
                refine lv_iload_n hx hb dX0_makesPair_74 rfl (lv_at hl 3 rfl) ?_
                refine lv_aload_n hx hb dX0_makesPair_75 rfl (lv_at hl 2 rfl) ?_
                refine ia_get 2 (v := .ref (ia_h E 2)) hx hb ht hown hO (by decide) rfl zlX0_17 rfl dX0_makesPair_76 ?_
                refine lv_iload_n hx hb dX0_makesPair_79 rfl (lv_at hl 3 rfl) ?_
                refine lv_iconst (v := nI 1) hx hb dX0_makesPair_80 (by decide) ?_
                refine zk_sub hx hb (by omega) dX0_makesPair_81 ?_
                refine ia_ild 2 (i - 1) hx hb hO rfl (by omega) dX0_makesPair_82 ?_
                have b_16 := hg 2 (i - 1)
                refine ia_call (rest := []) hx hb hml hl.1 hown ht hO (zc_reads l E n g hg i (g 2 (i - 1)) (by omega) (by omega)) zgX0_159 zyX0_reads rfl ⟨by decide, by decide⟩ ⟨Nat.zero_le _, Nat.zero_le _⟩ (Nat.le_of_ble_eq_true rfl) rfl dX0_makesPair_83 ?_
                have b_17 := zb_reads g i (g 2 (i - 1))
                refine zk_ifne (tgt := 93) hx hb dX0_makesPair_86 (by decide) (by omega) (fun c_18 => ?_) (fun c_18 => ?_)
                · refine lv_iconst (v := nI 0) hx hb dX0_makesPair_93 (by decide) ?_
                  exact ia_zret hx hb hr hlk (by omega) (congrArg nI (show 0 = zs_pair g i from by unfold zs_pair; (repeat' split) <;> omega)) dX0_makesPair_94
                · refine lv_iconst (v := nI 1) hx hb dX0_makesPair_89 (by decide) ?_
                  refine lv_goto (tgt := 94) hx hb dX0_makesPair_90 (by decide) ?_
                  exact ia_zret hx hb hr hlk (by omega) (congrArg nI (show 1 = zs_pair g i from by unfold zs_pair; (repeat' split) <;> omega)) dX0_makesPair_94
              · refine lv_iconst (v := nI 0) hx hb dX0_makesPair_71 (by decide) ?_
                exact ia_zret hx hb hr hlk (by omega) (congrArg nI (show 0 = zs_pair g i from by unfold zs_pair; (repeat' split) <;> omega)) dX0_makesPair_72
          · refine lv_iload_n hx hb dX0_makesPair_48 rfl (lv_at hl 0 rfl) ?_
            refine ia_callS (rest := []) hx hb hml hl.1 hown ht (zc_mem l (g 1 i) (by omega)) zgX0_153 zyX0_usesMemory rfl ⟨by decide, by decide⟩ ⟨Nat.zero_le _, Nat.zero_le _⟩ (Nat.le_of_ble_eq_true rfl) rfl dX0_makesPair_49 ?_
            have b_19 := zb_mem (g 1 i)
            refine zk_ifeq (tgt := 57) hx hb dX0_makesPair_52 (by decide) (by omega) (fun c_20 => ?_) (fun c_20 => ?_)
            · refine lv_iload_n hx hb dX0_makesPair_57 rfl (lv_at hl 1 rfl) ?_
              refine ia_callS (rest := []) hx hb hml hl.1 hown ht (zc_mul l (g 1 (i - 1)) (by omega)) zgX0_156 zyX0_usesMultiplier rfl ⟨by decide, by decide⟩ ⟨Nat.zero_le _, Nat.zero_le _⟩ (Nat.le_of_ble_eq_true rfl) rfl dX0_makesPair_58 ?_
              have b_21 := zb_mul (g 1 (i - 1))
              refine zk_ifeq (tgt := 73) hx hb dX0_makesPair_61 (by decide) (by omega) (fun c_22 => ?_) (fun c_22 => ?_)
              · refine lv_aload_n hx hb dX0_makesPair_73 rfl (lv_at hl 2 rfl) ?_
                refine lv_iload_n hx hb dX0_makesPair_74 rfl (lv_at hl 3 rfl) ?_
                refine lv_aload_n hx hb dX0_makesPair_75 rfl (lv_at hl 2 rfl) ?_
                refine ia_get 2 (v := .ref (ia_h E 2)) hx hb ht hown hO (by decide) rfl zlX0_17 rfl dX0_makesPair_76 ?_
                refine lv_iload_n hx hb dX0_makesPair_79 rfl (lv_at hl 3 rfl) ?_
                refine lv_iconst (v := nI 1) hx hb dX0_makesPair_80 (by decide) ?_
                refine zk_sub hx hb (by omega) dX0_makesPair_81 ?_
                refine ia_ild 2 (i - 1) hx hb hO rfl (by omega) dX0_makesPair_82 ?_
                have b_23 := hg 2 (i - 1)
                refine ia_call (rest := []) hx hb hml hl.1 hown ht hO (zc_reads l E n g hg i (g 2 (i - 1)) (by omega) (by omega)) zgX0_159 zyX0_reads rfl ⟨by decide, by decide⟩ ⟨Nat.zero_le _, Nat.zero_le _⟩ (Nat.le_of_ble_eq_true rfl) rfl dX0_makesPair_83 ?_
                have b_24 := zb_reads g i (g 2 (i - 1))
                refine zk_ifne (tgt := 93) hx hb dX0_makesPair_86 (by decide) (by omega) (fun c_25 => ?_) (fun c_25 => ?_)
                · refine lv_iconst (v := nI 0) hx hb dX0_makesPair_93 (by decide) ?_
                  exact ia_zret hx hb hr hlk (by omega) (congrArg nI (show 0 = zs_pair g i from by unfold zs_pair; (repeat' split) <;> omega)) dX0_makesPair_94
                · refine lv_iconst (v := nI 1) hx hb dX0_makesPair_89 (by decide) ?_
                  refine lv_goto (tgt := 94) hx hb dX0_makesPair_90 (by decide) ?_
                  exact ia_zret hx hb hr hlk (by omega) (congrArg nI (show 1 = zs_pair g i from by unfold zs_pair; (repeat' split) <;> omega)) dX0_makesPair_94
              · refine lv_iload_n hx hb dX0_makesPair_64 rfl (lv_at hl 0 rfl) ?_
                refine ia_callS (rest := []) hx hb hml hl.1 hown ht (zc_mul l (g 1 i) (by omega)) zgX0_156 zyX0_usesMultiplier rfl ⟨by decide, by decide⟩ ⟨Nat.zero_le _, Nat.zero_le _⟩ (Nat.le_of_ble_eq_true rfl) rfl dX0_makesPair_65 ?_
                have b_26 := zb_mul (g 1 i)
                refine zk_ifeq (tgt := 73) hx hb dX0_makesPair_68 (by decide) (by omega) (fun c_27 => ?_) (fun c_27 => ?_)
                · refine lv_aload_n hx hb dX0_makesPair_73 rfl (lv_at hl 2 rfl) ?_
                  refine lv_iload_n hx hb dX0_makesPair_74 rfl (lv_at hl 3 rfl) ?_
                  refine lv_aload_n hx hb dX0_makesPair_75 rfl (lv_at hl 2 rfl) ?_
                  refine ia_get 2 (v := .ref (ia_h E 2)) hx hb ht hown hO (by decide) rfl zlX0_17 rfl dX0_makesPair_76 ?_
                  refine lv_iload_n hx hb dX0_makesPair_79 rfl (lv_at hl 3 rfl) ?_
                  refine lv_iconst (v := nI 1) hx hb dX0_makesPair_80 (by decide) ?_
                  refine zk_sub hx hb (by omega) dX0_makesPair_81 ?_
                  refine ia_ild 2 (i - 1) hx hb hO rfl (by omega) dX0_makesPair_82 ?_
                  have b_28 := hg 2 (i - 1)
                  refine ia_call (rest := []) hx hb hml hl.1 hown ht hO (zc_reads l E n g hg i (g 2 (i - 1)) (by omega) (by omega)) zgX0_159 zyX0_reads rfl ⟨by decide, by decide⟩ ⟨Nat.zero_le _, Nat.zero_le _⟩ (Nat.le_of_ble_eq_true rfl) rfl dX0_makesPair_83 ?_
                  have b_29 := zb_reads g i (g 2 (i - 1))
                  refine zk_ifne (tgt := 93) hx hb dX0_makesPair_86 (by decide) (by omega) (fun c_30 => ?_) (fun c_30 => ?_)
                  · refine lv_iconst (v := nI 0) hx hb dX0_makesPair_93 (by decide) ?_
                    exact ia_zret hx hb hr hlk (by omega) (congrArg nI (show 0 = zs_pair g i from by unfold zs_pair; (repeat' split) <;> omega)) dX0_makesPair_94
                  · refine lv_iconst (v := nI 1) hx hb dX0_makesPair_89 (by decide) ?_
                    refine lv_goto (tgt := 94) hx hb dX0_makesPair_90 (by decide) ?_
                    exact ia_zret hx hb hr hlk (by omega) (congrArg nI (show 1 = zs_pair g i from by unfold zs_pair; (repeat' split) <;> omega)) dX0_makesPair_94
                · refine lv_iconst (v := nI 0) hx hb dX0_makesPair_71 (by decide) ?_
                  exact ia_zret hx hb hr hlk (by omega) (congrArg nI (show 0 = zs_pair g i from by unfold zs_pair; (repeat' split) <;> omega)) dX0_makesPair_72
            · refine lv_iconst (v := nI 0) hx hb dX0_makesPair_55 (by decide) ?_
              exact ia_zret hx hb hr hlk (by omega) (congrArg nI (show 0 = zs_pair g i from by unfold zs_pair; (repeat' split) <;> omega)) dX0_makesPair_56
        · refine lv_iconst (v := nI 0) hx hb dX0_makesPair_39 (by decide) ?_
          exact ia_zret hx hb hr hlk (by omega) (congrArg nI (show 0 = zs_pair g i from by unfold zs_pair; (repeat' split) <;> omega)) dX0_makesPair_40
  · refine lv_iconst (v := nI 0) hx hb dX0_makesPair_4 (by decide) ?_
    exact ia_zret hx hb hr hlk (by omega) (congrArg nI (show 0 = zs_pair g i from by unfold zs_pair; (repeat' split) <;> omega)) dX0_makesPair_5
set_option maxHeartbeats 4000000 in
set_option maxRecDepth 100000 in
/-- leastInOrder -/
theorem zc_order (l : Launch) (E : ia_E) (n : Nat) (g : Nat → Nat → Nat) (hg : zs_B g) (i : Nat) (hi : i < 400) : ia_R l yX0_leastInOrder cX0_leastInOrder 3 .int 2 E n g [.int (nI i)] (nI (zs_order g i)) := by
  refine ia_Rof (by decide) rfl (Nat.le_of_ble_eq_true rfl) (fun p e s m args below meth c ls hx hb hr hml hown ht hlk hO hl => ?_)
  have hl : lv_has ls 3 [(0, .ref (ia_h E 0)), (1, .int (nI i))] := hl
  refine lv_iload_n hx hb dX0_leastInOrder_0 rfl (lv_at hl 1 rfl) ?_
  refine zk_ifne (tgt := 6) hx hb dX0_leastInOrder_1 (by decide) (by omega) (fun c_1 => ?_) (fun c_1 => ?_)
  · refine zk_cut (nL := 3) 35 (fun v_2 => (i = 1 ∨ g 12 (i - 2) < g 12 (i - 1) → v_2 = 1) ∧ (¬ (i = 1 ∨ g 12 (i - 2) < g 12 (i - 1)) → v_2 = 0)) (fun v_2 => [(0, .ref (ia_h E 0)), (1, .int (nI i))]) (fun v_2 => [.int (nI v_2)]) (fun v_2 ls e_3 hl => ?_) (fun J_4 => ?_)
    · have e_3 : (i = 1 ∨ g 12 (i - 2) < g 12 (i - 1) → v_2 = 1) ∧ (¬ (i = 1 ∨ g 12 (i - 2) < g 12 (i - 1)) → v_2 = 0) := e_3
      have hl : lv_has ls 3 [(0, .ref (ia_h E 0)), (1, .int (nI i))] := hl
      refine lv_istore_n (lv' := [(2, .int (nI v_2)), (0, .ref (ia_h E 0)), (1, .int (nI i))]) hx hb dX0_leastInOrder_35 rfl hl (by decide) rfl (fun ls hl => ?_)
      refine lv_iload_n hx hb dX0_leastInOrder_36 rfl (lv_at hl 0 rfl) ?_
      refine zk_ifeq (tgt := 59) hx hb dX0_leastInOrder_37 (by decide) (by omega) (fun c_5 => ?_) (fun c_5 => ?_)
      · refine lv_aload_n hx hb dX0_leastInOrder_59 rfl (lv_at hl 1 rfl) ?_
        refine ia_get 12 (v := .ref (ia_h E 12)) hx hb ht hown hO (by decide) rfl zlX0_48 rfl dX0_leastInOrder_60 ?_
        refine lv_iload_n hx hb dX0_leastInOrder_63 rfl (lv_at hl 2 rfl) ?_
        refine lv_iconst (v := nI 1) hx hb dX0_leastInOrder_64 (by decide) ?_
        refine zk_sub hx hb (by omega) dX0_leastInOrder_65 ?_
        refine ia_ild 12 (i - 1) hx hb hO rfl (by omega) dX0_leastInOrder_66 ?_
        have b_6 := hg 12 (i - 1)
        refine lv_iconst (v := nI 1) hx hb dX0_leastInOrder_67 (by decide) ?_
        refine zk_add hx hb dX0_leastInOrder_68 ?_
        exact ia_iret hx hb hr hlk (congrArg nI (show (g 12 (i - 1)) + 1 = zs_order g i from by unfold zs_order; (repeat' split) <;> omega)) dX0_leastInOrder_69
      · refine lv_aload_n hx hb dX0_leastInOrder_40 rfl (lv_at hl 1 rfl) ?_
        refine lv_iload_n hx hb dX0_leastInOrder_41 rfl (lv_at hl 2 rfl) ?_
        refine ia_call (rest := []) hx hb hml hl.1 hown ht hO (zc_pair l E n g hg i (by omega)) zgX0_150 zyX0_makesPair rfl ⟨by decide, by decide⟩ ⟨Nat.zero_le _, Nat.zero_le _⟩ (Nat.le_of_ble_eq_true rfl) rfl dX0_leastInOrder_42 ?_
        have b_7 := zb_pair g i
        refine zk_ifeq (tgt := 59) hx hb dX0_leastInOrder_45 (by decide) (by omega) (fun c_8 => ?_) (fun c_8 => ?_)
        · refine lv_aload_n hx hb dX0_leastInOrder_59 rfl (lv_at hl 1 rfl) ?_
          refine ia_get 12 (v := .ref (ia_h E 12)) hx hb ht hown hO (by decide) rfl zlX0_48 rfl dX0_leastInOrder_60 ?_
          refine lv_iload_n hx hb dX0_leastInOrder_63 rfl (lv_at hl 2 rfl) ?_
          refine lv_iconst (v := nI 1) hx hb dX0_leastInOrder_64 (by decide) ?_
          refine zk_sub hx hb (by omega) dX0_leastInOrder_65 ?_
          refine ia_ild 12 (i - 1) hx hb hO rfl (by omega) dX0_leastInOrder_66 ?_
          have b_9 := hg 12 (i - 1)
          refine lv_iconst (v := nI 1) hx hb dX0_leastInOrder_67 (by decide) ?_
          refine zk_add hx hb dX0_leastInOrder_68 ?_
          exact ia_iret hx hb hr hlk (congrArg nI (show (g 12 (i - 1)) + 1 = zs_order g i from by unfold zs_order; (repeat' split) <;> omega)) dX0_leastInOrder_69
        · refine lv_aload_n hx hb dX0_leastInOrder_48 rfl (lv_at hl 1 rfl) ?_
          refine ia_get 12 (v := .ref (ia_h E 12)) hx hb ht hown hO (by decide) rfl zlX0_48 rfl dX0_leastInOrder_49 ?_
          refine lv_iload_n hx hb dX0_leastInOrder_52 rfl (lv_at hl 2 rfl) ?_
          refine lv_iconst (v := nI 1) hx hb dX0_leastInOrder_53 (by decide) ?_
          refine zk_sub hx hb (by omega) dX0_leastInOrder_54 ?_
          refine ia_ild 12 (i - 1) hx hb hO rfl (by omega) dX0_leastInOrder_55 ?_
          have b_10 := hg 12 (i - 1)
          refine lv_goto (tgt := 69) hx hb dX0_leastInOrder_56 (by decide) ?_
          exact ia_iret hx hb hr hlk (congrArg nI (show g 12 (i - 1) = zs_order g i from by unfold zs_order; (repeat' split) <;> omega)) dX0_leastInOrder_69
    · refine lv_iload_n hx hb dX0_leastInOrder_6 rfl (lv_at hl 1 rfl) ?_
      refine lv_iconst (v := nI 1) hx hb dX0_leastInOrder_7 (by decide) ?_
      refine zk_ceq (tgt := 30) hx hb dX0_leastInOrder_8 (by decide) (by omega) (by omega) (fun c_11 => ?_) (fun c_11 => ?_)
      · refine lv_iconst (v := nI 1) hx hb dX0_leastInOrder_30 (by decide) ?_
        refine lv_goto (tgt := 35) hx hb dX0_leastInOrder_31 (by decide) ?_
        exact J_4 1 ls (show (i = 1 ∨ g 12 (i - 2) < g 12 (i - 1) → 1 = 1) ∧ (¬ (i = 1 ∨ g 12 (i - 2) < g 12 (i - 1)) → 1 = 0) from by omega) (lv_sub hl [0, 1] rfl)
      · refine lv_aload_n hx hb dX0_leastInOrder_11 rfl (lv_at hl 0 rfl) ?_
        refine ia_get 12 (v := .ref (ia_h E 12)) hx hb ht hown hO (by decide) rfl zlX0_48 rfl dX0_leastInOrder_12 ?_
        refine lv_iload_n hx hb dX0_leastInOrder_15 rfl (lv_at hl 1 rfl) ?_
        refine lv_iconst (v := nI 2) hx hb dX0_leastInOrder_16 (by decide) ?_
        refine zk_sub hx hb (by omega) dX0_leastInOrder_17 ?_
        refine ia_ild 12 (i - 2) hx hb hO rfl (by omega) dX0_leastInOrder_18 ?_
        have b_12 := hg 12 (i - 2)
        refine lv_aload_n hx hb dX0_leastInOrder_19 rfl (lv_at hl 0 rfl) ?_
        refine ia_get 12 (v := .ref (ia_h E 12)) hx hb ht hown hO (by decide) rfl zlX0_48 rfl dX0_leastInOrder_20 ?_
        refine lv_iload_n hx hb dX0_leastInOrder_23 rfl (lv_at hl 1 rfl) ?_
        refine lv_iconst (v := nI 1) hx hb dX0_leastInOrder_24 (by decide) ?_
        refine zk_sub hx hb (by omega) dX0_leastInOrder_25 ?_
        refine ia_ild 12 (i - 1) hx hb hO rfl (by omega) dX0_leastInOrder_26 ?_
        have b_13 := hg 12 (i - 1)
        refine zk_cge (tgt := 34) hx hb dX0_leastInOrder_27 (by decide) (by omega) (by omega) (fun c_14 => ?_) (fun c_14 => ?_)
        · refine lv_iconst (v := nI 0) hx hb dX0_leastInOrder_34 (by decide) ?_
          exact J_4 0 ls (show (i = 1 ∨ g 12 (i - 2) < g 12 (i - 1) → 0 = 1) ∧ (¬ (i = 1 ∨ g 12 (i - 2) < g 12 (i - 1)) → 0 = 0) from by omega) (lv_sub hl [0, 1] rfl)
        · refine lv_iconst (v := nI 1) hx hb dX0_leastInOrder_30 (by decide) ?_
          refine lv_goto (tgt := 35) hx hb dX0_leastInOrder_31 (by decide) ?_
          exact J_4 1 ls (show (i = 1 ∨ g 12 (i - 2) < g 12 (i - 1) → 1 = 1) ∧ (¬ (i = 1 ∨ g 12 (i - 2) < g 12 (i - 1)) → 1 = 0) from by omega) (lv_sub hl [0, 1] rfl)
  · refine lv_iconst (v := nI 1) hx hb dX0_leastInOrder_4 (by decide) ?_
    exact ia_iret hx hb hr hlk (congrArg nI (show 1 = zs_order g i from by unfold zs_order; (repeat' split) <;> omega)) dX0_leastInOrder_5
set_option maxHeartbeats 4000000 in
set_option maxRecDepth 100000 in
/-- joinsGroup -/
theorem zc_joins (l : Launch) (E : ia_E) (n : Nat) (g : Nat → Nat → Nat) (hg : zs_B g) (i : Nat) (hi : i < 400) : ia_R l yX0_joinsGroup cX0_joinsGroup 3 .boolean 3 E n g [.int (nI i)] (nI (zs_joins g i)) := by
  refine ia_Rof (by decide) rfl (Nat.le_of_ble_eq_true rfl) (fun p e s m args below meth c ls hx hb hr hml hown ht hlk hO hl => ?_)
  have hl : lv_has ls 3 [(0, .ref (ia_h E 0)), (1, .int (nI i))] := hl
  refine lv_iload_n hx hb dX0_joinsGroup_0 rfl (lv_at hl 1 rfl) ?_
  refine zk_ifeq (tgt := 15) hx hb dX0_joinsGroup_1 (by decide) (by omega) (fun c_1 => ?_) (fun c_1 => ?_)
  · refine lv_iconst (v := nI 0) hx hb dX0_joinsGroup_15 (by decide) ?_
    exact ia_zret hx hb hr hlk (by omega) (congrArg nI (show 0 = zs_joins g i from by unfold zs_joins; (repeat' split) <;> omega)) dX0_joinsGroup_16
  · refine lv_aload_n hx hb dX0_joinsGroup_4 rfl (lv_at hl 0 rfl) ?_
    refine ia_get 10 (v := .ref (ia_h E 10)) hx hb ht hown hO (by decide) rfl zlX0_42 rfl dX0_joinsGroup_5 ?_
    refine lv_iload_n hx hb dX0_joinsGroup_8 rfl (lv_at hl 1 rfl) ?_
    refine lv_iconst (v := nI 1) hx hb dX0_joinsGroup_9 (by decide) ?_
    refine zk_sub hx hb (by omega) dX0_joinsGroup_10 ?_
    refine ia_zld 10 (i - 1) hx hb hO rfl (by omega) dX0_joinsGroup_11 ?_
    have b_2 := hg 10 (i - 1)
    refine zk_ifne (tgt := 17) hx hb dX0_joinsGroup_12 (by decide) (by omega) (fun c_3 => ?_) (fun c_3 => ?_)
    · refine zk_cut (nL := 3) 42 (fun v_4 => (zs_bslot g i ≠ 0 ∧ g 5 (i - 2) = 1 → v_4 = 1) ∧ (¬ (zs_bslot g i ≠ 0 ∧ g 5 (i - 2) = 1) → v_4 = 0)) (fun v_4 => [(0, .ref (ia_h E 0)), (1, .int (nI i))]) (fun v_4 => [.int (nI v_4)]) (fun v_4 ls e_5 hl => ?_) (fun J_6 => ?_)
      · have e_5 : (zs_bslot g i ≠ 0 ∧ g 5 (i - 2) = 1 → v_4 = 1) ∧ (¬ (zs_bslot g i ≠ 0 ∧ g 5 (i - 2) = 1) → v_4 = 0) := e_5
        have hl : lv_has ls 3 [(0, .ref (ia_h E 0)), (1, .int (nI i))] := hl
        refine lv_istore_n (lv' := [(2, .int (nI v_4)), (0, .ref (ia_h E 0)), (1, .int (nI i))]) hx hb dX0_joinsGroup_42 rfl hl (by decide) rfl (fun ls hl => ?_)
        refine lv_aload_n hx hb dX0_joinsGroup_43 rfl (lv_at hl 1 rfl) ?_
        refine lv_iload_n hx hb dX0_joinsGroup_44 rfl (lv_at hl 2 rfl) ?_
        refine ia_call (rest := []) hx hb hml hl.1 hown ht hO (zc_lies l E n g hg i (by omega)) zgX0_82 zyX0_liesBehind rfl ⟨by decide, by decide⟩ ⟨Nat.zero_le _, Nat.zero_le _⟩ (Nat.le_of_ble_eq_true rfl) rfl dX0_joinsGroup_45 ?_
        have b_7 := zb_lies g i
        refine zk_ifeq (tgt := 67) hx hb dX0_joinsGroup_48 (by decide) (by omega) (fun c_8 => ?_) (fun c_8 => ?_)
        · refine lv_iconst (v := nI 0) hx hb dX0_joinsGroup_67 (by decide) ?_
          exact ia_zret hx hb hr hlk (by omega) (congrArg nI (show 0 = zs_joins g i from by unfold zs_joins; (repeat' split) <;> omega)) dX0_joinsGroup_68
        · refine lv_aload_n hx hb dX0_joinsGroup_51 rfl (lv_at hl 1 rfl) ?_
          refine lv_iload_n hx hb dX0_joinsGroup_52 rfl (lv_at hl 2 rfl) ?_
          refine ia_call (rest := []) hx hb hml hl.1 hown ht hO (zc_redir l E n g hg i (by omega)) zgX0_79 zyX0_isRedirected rfl ⟨by decide, by decide⟩ ⟨Nat.zero_le _, Nat.zero_le _⟩ (Nat.le_of_ble_eq_true rfl) rfl dX0_joinsGroup_53 ?_
          have b_9 := zb_redir g i
          refine zk_ifne (tgt := 67) hx hb dX0_joinsGroup_56 (by decide) (by omega) (fun c_10 => ?_) (fun c_10 => ?_)
          · refine lv_iconst (v := nI 0) hx hb dX0_joinsGroup_67 (by decide) ?_
            exact ia_zret hx hb hr hlk (by omega) (congrArg nI (show 0 = zs_joins g i from by unfold zs_joins; (repeat' split) <;> omega)) dX0_joinsGroup_68
          · refine lv_iload_n hx hb dX0_joinsGroup_59 rfl (lv_at hl 0 rfl) ?_
            refine zk_ifne (tgt := 67) hx hb dX0_joinsGroup_60 (by decide) (by omega) (fun c_11 => ?_) (fun c_11 => ?_)
            · refine lv_iconst (v := nI 0) hx hb dX0_joinsGroup_67 (by decide) ?_
              exact ia_zret hx hb hr hlk (by omega) (congrArg nI (show 0 = zs_joins g i from by unfold zs_joins; (repeat' split) <;> omega)) dX0_joinsGroup_68
            · refine lv_iconst (v := nI 1) hx hb dX0_joinsGroup_63 (by decide) ?_
              refine lv_goto (tgt := 68) hx hb dX0_joinsGroup_64 (by decide) ?_
              exact ia_zret hx hb hr hlk (by omega) (congrArg nI (show 1 = zs_joins g i from by unfold zs_joins; (repeat' split) <;> omega)) dX0_joinsGroup_68
      · refine lv_aload_n hx hb dX0_joinsGroup_17 rfl (lv_at hl 0 rfl) ?_
        refine lv_iload_n hx hb dX0_joinsGroup_18 rfl (lv_at hl 1 rfl) ?_
        refine ia_call (rest := []) hx hb hml hl.1 hown ht hO (zc_bslot l E n g hg i (by omega)) zgX0_124 zyX0_isBehindSlot rfl ⟨by decide, by decide⟩ ⟨Nat.zero_le _, Nat.zero_le _⟩ (Nat.le_of_ble_eq_true rfl) rfl dX0_joinsGroup_19 ?_
        have b_12 := zb_bslot g i
        refine zk_ifeq (tgt := 41) hx hb dX0_joinsGroup_22 (by decide) (by omega) (fun c_13 => ?_) (fun c_13 => ?_)
        · refine lv_iconst (v := nI 0) hx hb dX0_joinsGroup_41 (by decide) ?_
          exact J_6 0 ls (show (zs_bslot g i ≠ 0 ∧ g 5 (i - 2) = 1 → 0 = 1) ∧ (¬ (zs_bslot g i ≠ 0 ∧ g 5 (i - 2) = 1) → 0 = 0) from by omega) (lv_sub hl [0, 1] rfl)
        · refine lv_aload_n hx hb dX0_joinsGroup_25 rfl (lv_at hl 0 rfl) ?_
          refine ia_get 5 (v := .ref (ia_h E 5)) hx hb ht hown hO (by decide) rfl zlX0_26 rfl dX0_joinsGroup_26 ?_
          refine lv_iload_n hx hb dX0_joinsGroup_29 rfl (lv_at hl 1 rfl) ?_
          refine lv_iconst (v := nI 2) hx hb dX0_joinsGroup_30 (by decide) ?_
          refine zk_sub hx hb (by omega) dX0_joinsGroup_31 ?_
          refine ia_ild 5 (i - 2) hx hb hO rfl (by omega) dX0_joinsGroup_32 ?_
          have b_14 := hg 5 (i - 2)
          refine lv_iconst (v := nI 1) hx hb dX0_joinsGroup_33 (by decide) ?_
          refine zk_cne (tgt := 41) hx hb dX0_joinsGroup_34 (by decide) (by omega) (by omega) (fun c_15 => ?_) (fun c_15 => ?_)
          · refine lv_iconst (v := nI 0) hx hb dX0_joinsGroup_41 (by decide) ?_
            exact J_6 0 ls (show (zs_bslot g i ≠ 0 ∧ g 5 (i - 2) = 1 → 0 = 1) ∧ (¬ (zs_bslot g i ≠ 0 ∧ g 5 (i - 2) = 1) → 0 = 0) from by omega) (lv_sub hl [0, 1] rfl)
          · refine lv_iconst (v := nI 1) hx hb dX0_joinsGroup_37 (by decide) ?_
            refine lv_goto (tgt := 42) hx hb dX0_joinsGroup_38 (by decide) ?_
            exact J_6 1 ls (show (zs_bslot g i ≠ 0 ∧ g 5 (i - 2) = 1 → 1 = 1) ∧ (¬ (zs_bslot g i ≠ 0 ∧ g 5 (i - 2) = 1) → 1 = 0) from by omega) (lv_sub hl [0, 1] rfl)
    · refine lv_iconst (v := nI 0) hx hb dX0_joinsGroup_15 (by decide) ?_
      exact ia_zret hx hb hr hlk (by omega) (congrArg nI (show 0 = zs_joins g i from by unfold zs_joins; (repeat' split) <;> omega)) dX0_joinsGroup_16
set_option maxHeartbeats 4000000 in
set_option maxRecDepth 100000 in
/-- leastFetchTime -/
theorem zc_fetch (l : Launch) (E : ia_E) (n : Nat) (g : Nat → Nat → Nat) (hg : zs_B g) (i : Nat) (hi : i < 400) : ia_R l yX0_leastFetchTime cX0_leastFetchTime 3 .int 2 E n g [.int (nI i)] (nI (zs_fetch g i)) := by
  refine ia_Rof (by decide) rfl (Nat.le_of_ble_eq_true rfl) (fun p e s m args below meth c ls hx hb hr hml hown ht hlk hO hl => ?_)
  have hl : lv_has ls 3 [(0, .ref (ia_h E 0)), (1, .int (nI i))] := hl
  refine lv_iload_n hx hb dX0_leastFetchTime_0 rfl (lv_at hl 1 rfl) ?_
  refine zk_ifne (tgt := 6) hx hb dX0_leastFetchTime_1 (by decide) (by omega) (fun c_1 => ?_) (fun c_1 => ?_)
  · refine lv_aload_n hx hb dX0_leastFetchTime_6 rfl (lv_at hl 0 rfl) ?_
    refine ia_get 10 (v := .ref (ia_h E 10)) hx hb ht hown hO (by decide) rfl zlX0_42 rfl dX0_leastFetchTime_7 ?_
    refine lv_iload_n hx hb dX0_leastFetchTime_10 rfl (lv_at hl 1 rfl) ?_
    refine ia_zld 10 i hx hb hO rfl (by omega) dX0_leastFetchTime_11 ?_
    have b_2 := hg 10 i
    refine zk_ifne (tgt := 24) hx hb dX0_leastFetchTime_12 (by decide) (by omega) (fun c_3 => ?_) (fun c_3 => ?_)
    · refine lv_aload_n hx hb dX0_leastFetchTime_24 rfl (lv_at hl 0 rfl) ?_
      refine ia_get 11 (v := .ref (ia_h E 11)) hx hb ht hown hO (by decide) rfl zlX0_45 rfl dX0_leastFetchTime_25 ?_
      refine lv_iload_n hx hb dX0_leastFetchTime_28 rfl (lv_at hl 1 rfl) ?_
      refine lv_iconst (v := nI 1) hx hb dX0_leastFetchTime_29 (by decide) ?_
      refine zk_sub hx hb (by omega) dX0_leastFetchTime_30 ?_
      refine ia_ild 11 (i - 1) hx hb hO rfl (by omega) dX0_leastFetchTime_31 ?_
      have b_4 := hg 11 (i - 1)
      refine lv_iconst (v := nI 1) hx hb dX0_leastFetchTime_32 (by decide) ?_
      refine zk_add hx hb dX0_leastFetchTime_33 ?_
      refine lv_istore_n (lv' := [(2, .int (nI ((g 11 (i - 1)) + 1))), (0, .ref (ia_h E 0)), (1, .int (nI i))]) hx hb dX0_leastFetchTime_34 rfl hl (by decide) rfl (fun ls hl => ?_)
      have p_8 := hg 12 (i - 5)
      refine zk_cut (nL := 3) 55 (fun v_5 => (5 ≤ i → v_5 = max (g 11 (i - 1) + 1) (g 12 (i - 5) + 1)) ∧ (¬ (5 ≤ i) → v_5 = g 11 (i - 1) + 1)) (fun v_5 => [(2, .int (nI v_5)), (0, .ref (ia_h E 0)), (1, .int (nI i))]) (fun v_5 => []) (fun v_5 ls e_6 hl => ?_) (fun J_7 => ?_)
      · have e_6 : (5 ≤ i → v_5 = max (g 11 (i - 1) + 1) (g 12 (i - 5) + 1)) ∧ (¬ (5 ≤ i) → v_5 = g 11 (i - 1) + 1) := e_6
        have hl : lv_has ls 3 [(2, .int (nI v_5)), (0, .ref (ia_h E 0)), (1, .int (nI i))] := hl
        have p_12 := hg 13 (i - 1)
        refine zk_cut (nL := 3) 78 (fun v_9 => (zs_bfs g i ≠ 0 → v_9 = max v_5 (g 13 (i - 1) + 1)) ∧ (¬ (zs_bfs g i ≠ 0) → v_9 = v_5)) (fun v_9 => [(2, .int (nI v_9)), (0, .ref (ia_h E 0)), (1, .int (nI i))]) (fun v_9 => []) (fun v_9 ls e_10 hl => ?_) (fun J_11 => ?_)
        · have e_10 : (zs_bfs g i ≠ 0 → v_9 = max v_5 (g 13 (i - 1) + 1)) ∧ (¬ (zs_bfs g i ≠ 0) → v_9 = v_5) := e_10
          have hl : lv_has ls 3 [(2, .int (nI v_9)), (0, .ref (ia_h E 0)), (1, .int (nI i))] := hl
          have p_16 := hg 12 (i - 2)
          have p_17 := zb_bsm g i
          refine zk_cut (nL := 3) 101 (fun v_13 => (zs_bsm g i ≠ 0 → v_13 = max v_9 (g 12 (i - 2) + 2)) ∧ (¬ (zs_bsm g i ≠ 0) → v_13 = v_9)) (fun v_13 => [(2, .int (nI v_13)), (0, .ref (ia_h E 0)), (1, .int (nI i))]) (fun v_13 => []) (fun v_13 ls e_14 hl => ?_) (fun J_15 => ?_)
          · have e_14 : (zs_bsm g i ≠ 0 → v_13 = max v_9 (g 12 (i - 2) + 2)) ∧ (¬ (zs_bsm g i ≠ 0) → v_13 = v_9) := e_14
            have hl : lv_has ls 3 [(2, .int (nI v_13)), (0, .ref (ia_h E 0)), (1, .int (nI i))] := hl
            refine lv_iload_n hx hb dX0_leastFetchTime_101 rfl (lv_at hl 0 rfl) ?_
            exact ia_iret hx hb hr hlk (congrArg nI (show v_13 = zs_fetch g i from by unfold zs_fetch; (repeat' split) <;> omega)) dX0_leastFetchTime_102
          · refine lv_aload_n hx hb dX0_leastFetchTime_78 rfl (lv_at hl 1 rfl) ?_
            refine lv_iload_n hx hb dX0_leastFetchTime_79 rfl (lv_at hl 2 rfl) ?_
            refine ia_call (rest := []) hx hb hml hl.1 hown ht hO (zc_bsm l E n g hg i (by omega)) zgX0_130 zyX0_isBehindSlotOfMissedBranch rfl ⟨by decide, by decide⟩ ⟨Nat.zero_le _, Nat.zero_le _⟩ (Nat.le_of_ble_eq_true rfl) rfl dX0_leastFetchTime_80 ?_
            have b_18 := zb_bsm g i
            refine zk_ifeq (tgt := 101) hx hb dX0_leastFetchTime_83 (by decide) (by omega) (fun c_19 => ?_) (fun c_19 => ?_)
            · exact J_15 v_9 ls (show (zs_bsm g i ≠ 0 → v_9 = max v_9 (g 12 (i - 2) + 2)) ∧ (¬ (zs_bsm g i ≠ 0) → v_9 = v_9) from by omega) (lv_sub hl [0, 1, 2] rfl)
            · refine lv_iload_n hx hb dX0_leastFetchTime_86 rfl (lv_at hl 0 rfl) ?_
              refine lv_aload_n hx hb dX0_leastFetchTime_87 rfl (lv_at hl 1 rfl) ?_
              refine ia_get 12 (v := .ref (ia_h E 12)) hx hb ht hown hO (by decide) rfl zlX0_48 rfl dX0_leastFetchTime_88 ?_
              refine lv_iload_n hx hb dX0_leastFetchTime_91 rfl (lv_at hl 2 rfl) ?_
              refine lv_iconst (v := nI 2) hx hb dX0_leastFetchTime_92 (by decide) ?_
              refine zk_sub hx hb (by omega) dX0_leastFetchTime_93 ?_
              refine ia_ild 12 (i - 2) hx hb hO rfl (by omega) dX0_leastFetchTime_94 ?_
              have b_20 := hg 12 (i - 2)
              refine lv_iconst (v := nI 2) hx hb dX0_leastFetchTime_95 (by decide) ?_
              refine zk_add hx hb dX0_leastFetchTime_96 ?_
              refine ia_max hx hb hml hl.1 ht hown (by omega) (by omega) zmX0_136 (Nat.le_of_ble_eq_true rfl) (Nat.le_of_ble_eq_true rfl) ⟨Nat.zero_le _, Nat.zero_le _⟩ dX0_leastFetchTime_97 ?_
              refine lv_istore_n (lv' := [(2, .int (nI (max v_9 ((g 12 (i - 2)) + 2)))), (0, .ref (ia_h E 0)), (1, .int (nI i))]) hx hb dX0_leastFetchTime_100 rfl hl (by decide) rfl (fun ls hl => ?_)
              exact J_15 (max v_9 ((g 12 (i - 2)) + 2)) ls (show (zs_bsm g i ≠ 0 → (max v_9 ((g 12 (i - 2)) + 2)) = max v_9 (g 12 (i - 2) + 2)) ∧ (¬ (zs_bsm g i ≠ 0) → (max v_9 ((g 12 (i - 2)) + 2)) = v_9) from by omega) (lv_sub hl [0, 1, 2] rfl)
        · refine lv_aload_n hx hb dX0_leastFetchTime_55 rfl (lv_at hl 1 rfl) ?_
          refine lv_iload_n hx hb dX0_leastFetchTime_56 rfl (lv_at hl 2 rfl) ?_
          refine ia_call (rest := []) hx hb hml hl.1 hown ht hO (zc_bfs l E n g hg i (by omega)) zgX0_127 zyX0_isBehindFailingOrSingle rfl ⟨by decide, by decide⟩ ⟨Nat.zero_le _, Nat.zero_le _⟩ (Nat.le_of_ble_eq_true rfl) rfl dX0_leastFetchTime_57 ?_
          have b_21 := zb_bfs g i
          refine zk_ifeq (tgt := 78) hx hb dX0_leastFetchTime_60 (by decide) (by omega) (fun c_22 => ?_) (fun c_22 => ?_)
          · exact J_11 v_5 ls (show (zs_bfs g i ≠ 0 → v_5 = max v_5 (g 13 (i - 1) + 1)) ∧ (¬ (zs_bfs g i ≠ 0) → v_5 = v_5) from by omega) (lv_sub hl [0, 1, 2] rfl)
          · refine lv_iload_n hx hb dX0_leastFetchTime_63 rfl (lv_at hl 0 rfl) ?_
            refine lv_aload_n hx hb dX0_leastFetchTime_64 rfl (lv_at hl 1 rfl) ?_
            refine ia_get 13 (v := .ref (ia_h E 13)) hx hb ht hown hO (by decide) rfl zlX0_51 rfl dX0_leastFetchTime_65 ?_
            refine lv_iload_n hx hb dX0_leastFetchTime_68 rfl (lv_at hl 2 rfl) ?_
            refine lv_iconst (v := nI 1) hx hb dX0_leastFetchTime_69 (by decide) ?_
            refine zk_sub hx hb (by omega) dX0_leastFetchTime_70 ?_
            refine ia_ild 13 (i - 1) hx hb hO rfl (by omega) dX0_leastFetchTime_71 ?_
            have b_23 := hg 13 (i - 1)
            refine lv_iconst (v := nI 1) hx hb dX0_leastFetchTime_72 (by decide) ?_
            refine zk_add hx hb dX0_leastFetchTime_73 ?_
            refine ia_max hx hb hml hl.1 ht hown (by omega) (by omega) zmX0_136 (Nat.le_of_ble_eq_true rfl) (Nat.le_of_ble_eq_true rfl) ⟨Nat.zero_le _, Nat.zero_le _⟩ dX0_leastFetchTime_74 ?_
            refine lv_istore_n (lv' := [(2, .int (nI (max v_5 ((g 13 (i - 1)) + 1)))), (0, .ref (ia_h E 0)), (1, .int (nI i))]) hx hb dX0_leastFetchTime_77 rfl hl (by decide) rfl (fun ls hl => ?_)
            exact J_11 (max v_5 ((g 13 (i - 1)) + 1)) ls (show (zs_bfs g i ≠ 0 → (max v_5 ((g 13 (i - 1)) + 1)) = max v_5 (g 13 (i - 1) + 1)) ∧ (¬ (zs_bfs g i ≠ 0) → (max v_5 ((g 13 (i - 1)) + 1)) = v_5) from by omega) (lv_sub hl [0, 1, 2] rfl)
      · refine lv_iload_n hx hb dX0_leastFetchTime_35 rfl (lv_at hl 2 rfl) ?_
        refine lv_iconst (v := nI 5) hx hb dX0_leastFetchTime_36 (by decide) ?_
        refine zk_clt (tgt := 55) hx hb dX0_leastFetchTime_37 (by decide) (by omega) (by omega) (fun c_24 => ?_) (fun c_24 => ?_)
        · exact J_7 ((g 11 (i - 1)) + 1) ls (show (5 ≤ i → ((g 11 (i - 1)) + 1) = max (g 11 (i - 1) + 1) (g 12 (i - 5) + 1)) ∧ (¬ (5 ≤ i) → ((g 11 (i - 1)) + 1) = g 11 (i - 1) + 1) from by omega) (lv_sub hl [0, 1, 2] rfl)
        · refine lv_iload_n hx hb dX0_leastFetchTime_40 rfl (lv_at hl 0 rfl) ?_
          refine lv_aload_n hx hb dX0_leastFetchTime_41 rfl (lv_at hl 1 rfl) ?_
          refine ia_get 12 (v := .ref (ia_h E 12)) hx hb ht hown hO (by decide) rfl zlX0_48 rfl dX0_leastFetchTime_42 ?_
          refine lv_iload_n hx hb dX0_leastFetchTime_45 rfl (lv_at hl 2 rfl) ?_
          refine lv_iconst (v := nI 5) hx hb dX0_leastFetchTime_46 (by decide) ?_
          refine zk_sub hx hb (by omega) dX0_leastFetchTime_47 ?_
          refine ia_ild 12 (i - 5) hx hb hO rfl (by omega) dX0_leastFetchTime_48 ?_
          have b_25 := hg 12 (i - 5)
          refine lv_iconst (v := nI 1) hx hb dX0_leastFetchTime_49 (by decide) ?_
          refine zk_add hx hb dX0_leastFetchTime_50 ?_
          refine ia_max hx hb hml hl.1 ht hown (by omega) (by omega) zmX0_136 (Nat.le_of_ble_eq_true rfl) (Nat.le_of_ble_eq_true rfl) ⟨Nat.zero_le _, Nat.zero_le _⟩ dX0_leastFetchTime_51 ?_
          refine lv_istore_n (lv' := [(2, .int (nI (max ((g 11 (i - 1)) + 1) ((g 12 (i - 5)) + 1)))), (0, .ref (ia_h E 0)), (1, .int (nI i))]) hx hb dX0_leastFetchTime_54 rfl hl (by decide) rfl (fun ls hl => ?_)
          exact J_7 (max ((g 11 (i - 1)) + 1) ((g 12 (i - 5)) + 1)) ls (show (5 ≤ i → (max ((g 11 (i - 1)) + 1) ((g 12 (i - 5)) + 1)) = max (g 11 (i - 1) + 1) (g 12 (i - 5) + 1)) ∧ (¬ (5 ≤ i) → (max ((g 11 (i - 1)) + 1) ((g 12 (i - 5)) + 1)) = g 11 (i - 1) + 1) from by omega) (lv_sub hl [0, 1, 2] rfl)
    · refine lv_aload_n hx hb dX0_leastFetchTime_15 rfl (lv_at hl 0 rfl) ?_
      refine ia_get 11 (v := .ref (ia_h E 11)) hx hb ht hown hO (by decide) rfl zlX0_45 rfl dX0_leastFetchTime_16 ?_
      refine lv_iload_n hx hb dX0_leastFetchTime_19 rfl (lv_at hl 1 rfl) ?_
      refine lv_iconst (v := nI 1) hx hb dX0_leastFetchTime_20 (by decide) ?_
      refine zk_sub hx hb (by omega) dX0_leastFetchTime_21 ?_
      refine ia_ild 11 (i - 1) hx hb hO rfl (by omega) dX0_leastFetchTime_22 ?_
      have b_26 := hg 11 (i - 1)
      exact ia_iret hx hb hr hlk (congrArg nI (show g 11 (i - 1) = zs_fetch g i from by unfold zs_fetch; (repeat' split) <;> omega)) dX0_leastFetchTime_23
  · refine lv_iconst (v := nI 1) hx hb dX0_leastFetchTime_4 (by decide) ?_
    exact ia_iret hx hb hr hlk (congrArg nI (show 1 = zs_fetch g i from by unfold zs_fetch; (repeat' split) <;> omega)) dX0_leastFetchTime_5
set_option maxHeartbeats 4000000 in
set_option maxRecDepth 100000 in
/-- leastDoneTime -/
theorem zc_done (l : Launch) (E : ia_E) (n : Nat) (g : Nat → Nat → Nat) (hg : zs_B g) (i : Nat) (hi : i < 400) : ia_R l yX0_leastDoneTime cX0_leastDoneTime 3 .int 1 E n g [.int (nI i)] (nI (zs_done g i)) := by
  refine ia_Rof (by decide) rfl (Nat.le_of_ble_eq_true rfl) (fun p e s m args below meth c ls hx hb hr hml hown ht hlk hO hl => ?_)
  have hl : lv_has ls 3 [(0, .ref (ia_h E 0)), (1, .int (nI i))] := hl
  refine lv_aload_n hx hb dX0_leastDoneTime_0 rfl (lv_at hl 0 rfl) ?_
  refine ia_get 12 (v := .ref (ia_h E 12)) hx hb ht hown hO (by decide) rfl zlX0_48 rfl dX0_leastDoneTime_1 ?_
  refine lv_iload_n hx hb dX0_leastDoneTime_4 rfl (lv_at hl 1 rfl) ?_
  refine ia_ild 12 i hx hb hO rfl (by omega) dX0_leastDoneTime_5 ?_
  have b_1 := hg 12 i
  refine lv_aload_n hx hb dX0_leastDoneTime_6 rfl (lv_at hl 0 rfl) ?_
  refine ia_get 1 (v := .ref (ia_h E 1)) hx hb ht hown hO (by decide) rfl zlX0_13 rfl dX0_leastDoneTime_7 ?_
  refine lv_iload_n hx hb dX0_leastDoneTime_10 rfl (lv_at hl 1 rfl) ?_
  refine ia_ild 1 i hx hb hO rfl (by omega) dX0_leastDoneTime_11 ?_
  have b_2 := hg 1 i
  refine ia_callS (rest := [.int (nI (g 12 i))]) hx hb hml hl.1 hown ht (zc_work l (g 1 i) (by omega)) zgX0_166 zyX0_workOf rfl ⟨by decide, by decide⟩ ⟨Nat.zero_le _, Nat.zero_le _⟩ (Nat.le_of_ble_eq_true rfl) rfl dX0_leastDoneTime_12 ?_
  have b_3 := zb_work (g 1 i)
  refine zk_add hx hb dX0_leastDoneTime_15 ?_
  refine lv_aload_n hx hb dX0_leastDoneTime_16 rfl (lv_at hl 0 rfl) ?_
  refine lv_iload_n hx hb dX0_leastDoneTime_17 rfl (lv_at hl 1 rfl) ?_
  refine ia_call (rest := [.int (nI ((g 12 i) + (zs_work (g 1 i))))]) hx hb hml hl.1 hown ht hO (zc_dbef l E n g hg i (by omega)) zgX0_89 zyX0_doneBefore rfl ⟨by decide, by decide⟩ ⟨Nat.zero_le _, Nat.zero_le _⟩ (Nat.le_of_ble_eq_true rfl) rfl dX0_leastDoneTime_18 ?_
  have b_4 := zb_dbef hg i
  refine ia_max hx hb hml hl.1 ht hown (by omega) (by omega) zmX0_136 (Nat.le_of_ble_eq_true rfl) (Nat.le_of_ble_eq_true rfl) ⟨Nat.zero_le _, Nat.zero_le _⟩ dX0_leastDoneTime_21 ?_
  refine lv_istore_n (lv' := [(2, .int (nI (max ((g 12 i) + (zs_work (g 1 i))) (zs_dbef g i)))), (0, .ref (ia_h E 0)), (1, .int (nI i))]) hx hb dX0_leastDoneTime_24 rfl hl (by decide) rfl (fun ls hl => ?_)
  have p_8 := hg 13 (i - 2)
  refine zk_cut (nL := 3) 45 (fun v_5 => (1 < i → v_5 = max (max ((g 12 i) + (zs_work (g 1 i))) (zs_dbef g i)) (g 13 (i - 2) + 1)) ∧ (¬ (1 < i) → v_5 = max ((g 12 i) + (zs_work (g 1 i))) (zs_dbef g i))) (fun v_5 => [(2, .int (nI v_5)), (0, .ref (ia_h E 0)), (1, .int (nI i))]) (fun v_5 => []) (fun v_5 ls e_6 hl => ?_) (fun J_7 => ?_)
  · have e_6 : (1 < i → v_5 = max (max ((g 12 i) + (zs_work (g 1 i))) (zs_dbef g i)) (g 13 (i - 2) + 1)) ∧ (¬ (1 < i) → v_5 = max ((g 12 i) + (zs_work (g 1 i))) (zs_dbef g i)) := e_6
    have hl : lv_has ls 3 [(2, .int (nI v_5)), (0, .ref (ia_h E 0)), (1, .int (nI i))] := hl
    have p_12 := zb_dbef hg i
    refine zk_cut (nL := 3) 66 (fun v_9 => (g 9 i ≠ 0 → v_9 = max v_5 (zs_dbef g i + 1)) ∧ (¬ (g 9 i ≠ 0) → v_9 = v_5)) (fun v_9 => [(2, .int (nI v_9)), (0, .ref (ia_h E 0)), (1, .int (nI i))]) (fun v_9 => []) (fun v_9 ls e_10 hl => ?_) (fun J_11 => ?_)
    · have e_10 : (g 9 i ≠ 0 → v_9 = max v_5 (zs_dbef g i + 1)) ∧ (¬ (g 9 i ≠ 0) → v_9 = v_5) := e_10
      have hl : lv_has ls 3 [(2, .int (nI v_9)), (0, .ref (ia_h E 0)), (1, .int (nI i))] := hl
      refine lv_iload_n hx hb dX0_leastDoneTime_66 rfl (lv_at hl 0 rfl) ?_
      exact ia_iret hx hb hr hlk (congrArg nI (show v_9 = zs_done g i from by unfold zs_done; (repeat' split) <;> omega)) dX0_leastDoneTime_67
    · refine lv_aload_n hx hb dX0_leastDoneTime_45 rfl (lv_at hl 1 rfl) ?_
      refine ia_get 9 (v := .ref (ia_h E 9)) hx hb ht hown hO (by decide) rfl zlX0_39 rfl dX0_leastDoneTime_46 ?_
      refine lv_iload_n hx hb dX0_leastDoneTime_49 rfl (lv_at hl 2 rfl) ?_
      refine ia_zld 9 i hx hb hO rfl (by omega) dX0_leastDoneTime_50 ?_
      have b_13 := hg 9 i
      refine zk_ifeq (tgt := 66) hx hb dX0_leastDoneTime_51 (by decide) (by omega) (fun c_14 => ?_) (fun c_14 => ?_)
      · exact J_11 v_5 ls (show (g 9 i ≠ 0 → v_5 = max v_5 (zs_dbef g i + 1)) ∧ (¬ (g 9 i ≠ 0) → v_5 = v_5) from by omega) (lv_sub hl [0, 1, 2] rfl)
      · refine lv_iload_n hx hb dX0_leastDoneTime_54 rfl (lv_at hl 0 rfl) ?_
        refine lv_aload_n hx hb dX0_leastDoneTime_55 rfl (lv_at hl 1 rfl) ?_
        refine lv_iload_n hx hb dX0_leastDoneTime_56 rfl (lv_at hl 2 rfl) ?_
        refine ia_call (rest := [.int (nI v_5)]) hx hb hml hl.1 hown ht hO (zc_dbef l E n g hg i (by omega)) zgX0_89 zyX0_doneBefore rfl ⟨by decide, by decide⟩ ⟨Nat.zero_le _, Nat.zero_le _⟩ (Nat.le_of_ble_eq_true rfl) rfl dX0_leastDoneTime_57 ?_
        have b_15 := zb_dbef hg i
        refine lv_iconst (v := nI 1) hx hb dX0_leastDoneTime_60 (by decide) ?_
        refine zk_add hx hb dX0_leastDoneTime_61 ?_
        refine ia_max hx hb hml hl.1 ht hown (by omega) (by omega) zmX0_136 (Nat.le_of_ble_eq_true rfl) (Nat.le_of_ble_eq_true rfl) ⟨Nat.zero_le _, Nat.zero_le _⟩ dX0_leastDoneTime_62 ?_
        refine lv_istore_n (lv' := [(2, .int (nI (max v_5 ((zs_dbef g i) + 1)))), (0, .ref (ia_h E 0)), (1, .int (nI i))]) hx hb dX0_leastDoneTime_65 rfl hl (by decide) rfl (fun ls hl => ?_)
        exact J_11 (max v_5 ((zs_dbef g i) + 1)) ls (show (g 9 i ≠ 0 → (max v_5 ((zs_dbef g i) + 1)) = max v_5 (zs_dbef g i + 1)) ∧ (¬ (g 9 i ≠ 0) → (max v_5 ((zs_dbef g i) + 1)) = v_5) from by omega) (lv_sub hl [0, 1, 2] rfl)
  · refine lv_iload_n hx hb dX0_leastDoneTime_25 rfl (lv_at hl 2 rfl) ?_
    refine lv_iconst (v := nI 1) hx hb dX0_leastDoneTime_26 (by decide) ?_
    refine zk_cle (tgt := 45) hx hb dX0_leastDoneTime_27 (by decide) (by omega) (by omega) (fun c_16 => ?_) (fun c_16 => ?_)
    · exact J_7 (max ((g 12 i) + (zs_work (g 1 i))) (zs_dbef g i)) ls (show (1 < i → (max ((g 12 i) + (zs_work (g 1 i))) (zs_dbef g i)) = max (max ((g 12 i) + (zs_work (g 1 i))) (zs_dbef g i)) (g 13 (i - 2) + 1)) ∧ (¬ (1 < i) → (max ((g 12 i) + (zs_work (g 1 i))) (zs_dbef g i)) = max ((g 12 i) + (zs_work (g 1 i))) (zs_dbef g i)) from by omega) (lv_sub hl [0, 1, 2] rfl)
    · refine lv_iload_n hx hb dX0_leastDoneTime_30 rfl (lv_at hl 0 rfl) ?_
      refine lv_aload_n hx hb dX0_leastDoneTime_31 rfl (lv_at hl 1 rfl) ?_
      refine ia_get 13 (v := .ref (ia_h E 13)) hx hb ht hown hO (by decide) rfl zlX0_51 rfl dX0_leastDoneTime_32 ?_
      refine lv_iload_n hx hb dX0_leastDoneTime_35 rfl (lv_at hl 2 rfl) ?_
      refine lv_iconst (v := nI 2) hx hb dX0_leastDoneTime_36 (by decide) ?_
      refine zk_sub hx hb (by omega) dX0_leastDoneTime_37 ?_
      refine ia_ild 13 (i - 2) hx hb hO rfl (by omega) dX0_leastDoneTime_38 ?_
      have b_17 := hg 13 (i - 2)
      refine lv_iconst (v := nI 1) hx hb dX0_leastDoneTime_39 (by decide) ?_
      refine zk_add hx hb dX0_leastDoneTime_40 ?_
      refine ia_max hx hb hml hl.1 ht hown (by omega) (by omega) zmX0_136 (Nat.le_of_ble_eq_true rfl) (Nat.le_of_ble_eq_true rfl) ⟨Nat.zero_le _, Nat.zero_le _⟩ dX0_leastDoneTime_41 ?_
      refine lv_istore_n (lv' := [(2, .int (nI (max (max ((g 12 i) + (zs_work (g 1 i))) (zs_dbef g i)) ((g 13 (i - 2)) + 1)))), (0, .ref (ia_h E 0)), (1, .int (nI i))]) hx hb dX0_leastDoneTime_44 rfl hl (by decide) rfl (fun ls hl => ?_)
      exact J_7 (max (max ((g 12 i) + (zs_work (g 1 i))) (zs_dbef g i)) ((g 13 (i - 2)) + 1)) ls (show (1 < i → (max (max ((g 12 i) + (zs_work (g 1 i))) (zs_dbef g i)) ((g 13 (i - 2)) + 1)) = max (max ((g 12 i) + (zs_work (g 1 i))) (zs_dbef g i)) (g 13 (i - 2) + 1)) ∧ (¬ (1 < i) → (max (max ((g 12 i) + (zs_work (g 1 i))) (zs_dbef g i)) ((g 13 (i - 2)) + 1)) = max ((g 12 i) + (zs_work (g 1 i))) (zs_dbef g i)) from by omega) (lv_sub hl [0, 1, 2] rfl)
set_option maxHeartbeats 4000000 in
set_option maxRecDepth 100000 in
/-- leastIssueTime -/
theorem zc_issue (l : Launch) (E : ia_E) (n : Nat) (g : Nat → Nat → Nat) (hg : zs_B g) (i : Nat) (hi : i < 400) : ia_R l yX0_leastIssueTime cX0_leastIssueTime 3 .int 3 E n g [.int (nI i)] (nI (zs_issue g i)) := by
  refine ia_Rof (by decide) rfl (Nat.le_of_ble_eq_true rfl) (fun p e s m args below meth c ls hx hb hr hml hown ht hlk hO hl => ?_)
  have hl : lv_has ls 3 [(0, .ref (ia_h E 0)), (1, .int (nI i))] := hl
  refine lv_aload_n hx hb dX0_leastIssueTime_0 rfl (lv_at hl 0 rfl) ?_
  refine ia_get 11 (v := .ref (ia_h E 11)) hx hb ht hown hO (by decide) rfl zlX0_45 rfl dX0_leastIssueTime_1 ?_
  refine lv_iload_n hx hb dX0_leastIssueTime_4 rfl (lv_at hl 1 rfl) ?_
  refine ia_ild 11 i hx hb hO rfl (by omega) dX0_leastIssueTime_5 ?_
  have b_1 := hg 11 i
  refine lv_iconst (v := nI 2) hx hb dX0_leastIssueTime_6 (by decide) ?_
  refine zk_add hx hb dX0_leastIssueTime_7 ?_
  refine lv_aload_n hx hb dX0_leastIssueTime_8 rfl (lv_at hl 0 rfl) ?_
  refine lv_iload_n hx hb dX0_leastIssueTime_9 rfl (lv_at hl 1 rfl) ?_
  refine ia_call (rest := [.int (nI ((g 11 i) + 2))]) hx hb hml hl.1 hown ht hO (zc_order l E n g hg i (by omega)) zgX0_141 zyX0_leastInOrder rfl ⟨by decide, by decide⟩ ⟨Nat.zero_le _, Nat.zero_le _⟩ (Nat.le_of_ble_eq_true rfl) rfl dX0_leastIssueTime_10 ?_
  have b_2 := zb_order hg i
  refine ia_max hx hb hml hl.1 ht hown (by omega) (by omega) zmX0_136 (Nat.le_of_ble_eq_true rfl) (Nat.le_of_ble_eq_true rfl) ⟨Nat.zero_le _, Nat.zero_le _⟩ dX0_leastIssueTime_13 ?_
  refine lv_istore_n (lv' := [(2, .int (nI (max ((g 11 i) + 2) (zs_order g i)))), (0, .ref (ia_h E 0)), (1, .int (nI i))]) hx hb dX0_leastIssueTime_16 rfl hl (by decide) rfl (fun ls hl => ?_)
  refine lv_iload_n hx hb dX0_leastIssueTime_17 rfl (lv_at hl 0 rfl) ?_
  refine lv_aload_n hx hb dX0_leastIssueTime_18 rfl (lv_at hl 1 rfl) ?_
  refine lv_aload_n hx hb dX0_leastIssueTime_19 rfl (lv_at hl 1 rfl) ?_
  refine ia_get 3 (v := .ref (ia_h E 3)) hx hb ht hown hO (by decide) rfl zlX0_20 rfl dX0_leastIssueTime_20 ?_
  refine lv_iload_n hx hb dX0_leastIssueTime_23 rfl (lv_at hl 2 rfl) ?_
  refine ia_ild 3 i hx hb hO rfl (by omega) dX0_leastIssueTime_24 ?_
  have b_3 := hg 3 i
  refine lv_iload_n hx hb dX0_leastIssueTime_25 rfl (lv_at hl 2 rfl) ?_
  refine ia_call (rest := [.int (nI (max ((g 11 i) + 2) (zs_order g i)))]) hx hb hml hl.1 hown ht hO (zc_readable l E n g hg (g 3 i) i (by omega) (by omega)) zgX0_144 zyX0_whenReadable rfl ⟨by decide, by decide⟩ ⟨Nat.zero_le _, Nat.zero_le _⟩ (Nat.le_of_ble_eq_true rfl) rfl dX0_leastIssueTime_26 ?_
  have b_4 := zb_readable hg (g 3 i) i
  refine ia_max hx hb hml hl.1 ht hown (by omega) (by omega) zmX0_136 (Nat.le_of_ble_eq_true rfl) (Nat.le_of_ble_eq_true rfl) ⟨Nat.zero_le _, Nat.zero_le _⟩ dX0_leastIssueTime_29 ?_
  refine lv_istore_n (lv' := [(2, .int (nI (max (max ((g 11 i) + 2) (zs_order g i)) (zs_readable g (g 3 i) i)))), (0, .ref (ia_h E 0)), (1, .int (nI i))]) hx hb dX0_leastIssueTime_32 rfl hl (by decide) rfl (fun ls hl => ?_)
  refine lv_iload_n hx hb dX0_leastIssueTime_33 rfl (lv_at hl 0 rfl) ?_
  refine lv_aload_n hx hb dX0_leastIssueTime_34 rfl (lv_at hl 1 rfl) ?_
  refine lv_aload_n hx hb dX0_leastIssueTime_35 rfl (lv_at hl 1 rfl) ?_
  refine ia_get 4 (v := .ref (ia_h E 4)) hx hb ht hown hO (by decide) rfl zlX0_23 rfl dX0_leastIssueTime_36 ?_
  refine lv_iload_n hx hb dX0_leastIssueTime_39 rfl (lv_at hl 2 rfl) ?_
  refine ia_ild 4 i hx hb hO rfl (by omega) dX0_leastIssueTime_40 ?_
  have b_5 := hg 4 i
  refine lv_iload_n hx hb dX0_leastIssueTime_41 rfl (lv_at hl 2 rfl) ?_
  refine ia_call (rest := [.int (nI (max (max ((g 11 i) + 2) (zs_order g i)) (zs_readable g (g 3 i) i)))]) hx hb hml hl.1 hown ht hO (zc_readable l E n g hg (g 4 i) i (by omega) (by omega)) zgX0_144 zyX0_whenReadable rfl ⟨by decide, by decide⟩ ⟨Nat.zero_le _, Nat.zero_le _⟩ (Nat.le_of_ble_eq_true rfl) rfl dX0_leastIssueTime_42 ?_
  have b_6 := zb_readable hg (g 4 i) i
  refine ia_max hx hb hml hl.1 ht hown (by omega) (by omega) zmX0_136 (Nat.le_of_ble_eq_true rfl) (Nat.le_of_ble_eq_true rfl) ⟨Nat.zero_le _, Nat.zero_le _⟩ dX0_leastIssueTime_45 ?_
  refine lv_istore_n (lv' := [(2, .int (nI (max (max (max ((g 11 i) + 2) (zs_order g i)) (zs_readable g (g 3 i) i)) (zs_readable g (g 4 i) i)))), (0, .ref (ia_h E 0)), (1, .int (nI i))]) hx hb dX0_leastIssueTime_48 rfl hl (by decide) rfl (fun ls hl => ?_)
  have p_10 := zb_div hg i
  refine zk_cut (nL := 3) 69 (fun v_7 => (g 1 i = 4 → v_7 = max (max (max (max ((g 11 i) + 2) (zs_order g i)) (zs_readable g (g 3 i) i)) (zs_readable g (g 4 i) i)) (zs_div g i)) ∧ (¬ (g 1 i = 4) → v_7 = max (max (max ((g 11 i) + 2) (zs_order g i)) (zs_readable g (g 3 i) i)) (zs_readable g (g 4 i) i))) (fun v_7 => [(2, .int (nI v_7)), (0, .ref (ia_h E 0)), (1, .int (nI i))]) (fun v_7 => []) (fun v_7 ls e_8 hl => ?_) (fun J_9 => ?_)
  · have e_8 : (g 1 i = 4 → v_7 = max (max (max (max ((g 11 i) + 2) (zs_order g i)) (zs_readable g (g 3 i) i)) (zs_readable g (g 4 i) i)) (zs_div g i)) ∧ (¬ (g 1 i = 4) → v_7 = max (max (max ((g 11 i) + 2) (zs_order g i)) (zs_readable g (g 3 i) i)) (zs_readable g (g 4 i) i)) := e_8
    have hl : lv_has ls 3 [(2, .int (nI v_7)), (0, .ref (ia_h E 0)), (1, .int (nI i))] := hl
    have p_14 := zb_dbef hg i
    refine zk_cut (nL := 3) 92 (fun v_11 => (g 1 i = 6 → v_11 = max v_7 (zs_dbef g i + 1)) ∧ (¬ (g 1 i = 6) → v_11 = v_7)) (fun v_11 => [(2, .int (nI v_11)), (0, .ref (ia_h E 0)), (1, .int (nI i))]) (fun v_11 => []) (fun v_11 ls e_12 hl => ?_) (fun J_13 => ?_)
    · have e_12 : (g 1 i = 6 → v_11 = max v_7 (zs_dbef g i + 1)) ∧ (¬ (g 1 i = 6) → v_11 = v_7) := e_12
      have hl : lv_has ls 3 [(2, .int (nI v_11)), (0, .ref (ia_h E 0)), (1, .int (nI i))] := hl
      refine lv_iload_n hx hb dX0_leastIssueTime_92 rfl (lv_at hl 0 rfl) ?_
      exact ia_iret hx hb hr hlk (congrArg nI (show v_11 = zs_issue g i from by unfold zs_issue; (repeat' split) <;> omega)) dX0_leastIssueTime_93
    · refine lv_aload_n hx hb dX0_leastIssueTime_69 rfl (lv_at hl 1 rfl) ?_
      refine ia_get 1 (v := .ref (ia_h E 1)) hx hb ht hown hO (by decide) rfl zlX0_13 rfl dX0_leastIssueTime_70 ?_
      refine lv_iload_n hx hb dX0_leastIssueTime_73 rfl (lv_at hl 2 rfl) ?_
      refine ia_ild 1 i hx hb hO rfl (by omega) dX0_leastIssueTime_74 ?_
      have b_15 := hg 1 i
      refine lv_bipush (v := nI 6) hx hb dX0_leastIssueTime_75 (by decide) ?_
      refine zk_cne (tgt := 92) hx hb dX0_leastIssueTime_77 (by decide) (by omega) (by omega) (fun c_16 => ?_) (fun c_16 => ?_)
      · exact J_13 v_7 ls (show (g 1 i = 6 → v_7 = max v_7 (zs_dbef g i + 1)) ∧ (¬ (g 1 i = 6) → v_7 = v_7) from by omega) (lv_sub hl [0, 1, 2] rfl)
      · refine lv_iload_n hx hb dX0_leastIssueTime_80 rfl (lv_at hl 0 rfl) ?_
        refine lv_aload_n hx hb dX0_leastIssueTime_81 rfl (lv_at hl 1 rfl) ?_
        refine lv_iload_n hx hb dX0_leastIssueTime_82 rfl (lv_at hl 2 rfl) ?_
        refine ia_call (rest := [.int (nI v_7)]) hx hb hml hl.1 hown ht hO (zc_dbef l E n g hg i (by omega)) zgX0_89 zyX0_doneBefore rfl ⟨by decide, by decide⟩ ⟨Nat.zero_le _, Nat.zero_le _⟩ (Nat.le_of_ble_eq_true rfl) rfl dX0_leastIssueTime_83 ?_
        have b_17 := zb_dbef hg i
        refine lv_iconst (v := nI 1) hx hb dX0_leastIssueTime_86 (by decide) ?_
        refine zk_add hx hb dX0_leastIssueTime_87 ?_
        refine ia_max hx hb hml hl.1 ht hown (by omega) (by omega) zmX0_136 (Nat.le_of_ble_eq_true rfl) (Nat.le_of_ble_eq_true rfl) ⟨Nat.zero_le _, Nat.zero_le _⟩ dX0_leastIssueTime_88 ?_
        refine lv_istore_n (lv' := [(2, .int (nI (max v_7 ((zs_dbef g i) + 1)))), (0, .ref (ia_h E 0)), (1, .int (nI i))]) hx hb dX0_leastIssueTime_91 rfl hl (by decide) rfl (fun ls hl => ?_)
        exact J_13 (max v_7 ((zs_dbef g i) + 1)) ls (show (g 1 i = 6 → (max v_7 ((zs_dbef g i) + 1)) = max v_7 (zs_dbef g i + 1)) ∧ (¬ (g 1 i = 6) → (max v_7 ((zs_dbef g i) + 1)) = v_7) from by omega) (lv_sub hl [0, 1, 2] rfl)
  · refine lv_aload_n hx hb dX0_leastIssueTime_49 rfl (lv_at hl 1 rfl) ?_
    refine ia_get 1 (v := .ref (ia_h E 1)) hx hb ht hown hO (by decide) rfl zlX0_13 rfl dX0_leastIssueTime_50 ?_
    refine lv_iload_n hx hb dX0_leastIssueTime_53 rfl (lv_at hl 2 rfl) ?_
    refine ia_ild 1 i hx hb hO rfl (by omega) dX0_leastIssueTime_54 ?_
    have b_18 := hg 1 i
    refine lv_iconst (v := nI 4) hx hb dX0_leastIssueTime_55 (by decide) ?_
    refine zk_cne (tgt := 69) hx hb dX0_leastIssueTime_56 (by decide) (by omega) (by omega) (fun c_19 => ?_) (fun c_19 => ?_)
    · exact J_9 (max (max (max ((g 11 i) + 2) (zs_order g i)) (zs_readable g (g 3 i) i)) (zs_readable g (g 4 i) i)) ls (show (g 1 i = 4 → (max (max (max ((g 11 i) + 2) (zs_order g i)) (zs_readable g (g 3 i) i)) (zs_readable g (g 4 i) i)) = max (max (max (max ((g 11 i) + 2) (zs_order g i)) (zs_readable g (g 3 i) i)) (zs_readable g (g 4 i) i)) (zs_div g i)) ∧ (¬ (g 1 i = 4) → (max (max (max ((g 11 i) + 2) (zs_order g i)) (zs_readable g (g 3 i) i)) (zs_readable g (g 4 i) i)) = max (max (max ((g 11 i) + 2) (zs_order g i)) (zs_readable g (g 3 i) i)) (zs_readable g (g 4 i) i)) from by omega) (lv_sub hl [0, 1, 2] rfl)
    · refine lv_iload_n hx hb dX0_leastIssueTime_59 rfl (lv_at hl 0 rfl) ?_
      refine lv_aload_n hx hb dX0_leastIssueTime_60 rfl (lv_at hl 1 rfl) ?_
      refine lv_iload_n hx hb dX0_leastIssueTime_61 rfl (lv_at hl 2 rfl) ?_
      refine ia_call (rest := [.int (nI (max (max (max ((g 11 i) + 2) (zs_order g i)) (zs_readable g (g 3 i) i)) (zs_readable g (g 4 i) i)))]) hx hb hml hl.1 hown ht hO (zc_div l E n g hg i (by omega)) zgX0_147 zyX0_whenDividerIsFree rfl ⟨by decide, by decide⟩ ⟨Nat.zero_le _, Nat.zero_le _⟩ (Nat.le_of_ble_eq_true rfl) rfl dX0_leastIssueTime_62 ?_
      have b_20 := zb_div hg i
      refine ia_max hx hb hml hl.1 ht hown (by omega) (by omega) zmX0_136 (Nat.le_of_ble_eq_true rfl) (Nat.le_of_ble_eq_true rfl) ⟨Nat.zero_le _, Nat.zero_le _⟩ dX0_leastIssueTime_65 ?_
      refine lv_istore_n (lv' := [(2, .int (nI (max (max (max (max ((g 11 i) + 2) (zs_order g i)) (zs_readable g (g 3 i) i)) (zs_readable g (g 4 i) i)) (zs_div g i)))), (0, .ref (ia_h E 0)), (1, .int (nI i))]) hx hb dX0_leastIssueTime_68 rfl hl (by decide) rfl (fun ls hl => ?_)
      exact J_9 (max (max (max (max ((g 11 i) + 2) (zs_order g i)) (zs_readable g (g 3 i) i)) (zs_readable g (g 4 i) i)) (zs_div g i)) ls (show (g 1 i = 4 → (max (max (max (max ((g 11 i) + 2) (zs_order g i)) (zs_readable g (g 3 i) i)) (zs_readable g (g 4 i) i)) (zs_div g i)) = max (max (max (max ((g 11 i) + 2) (zs_order g i)) (zs_readable g (g 3 i) i)) (zs_readable g (g 4 i) i)) (zs_div g i)) ∧ (¬ (g 1 i = 4) → (max (max (max (max ((g 11 i) + 2) (zs_order g i)) (zs_readable g (g 3 i) i)) (zs_readable g (g 4 i) i)) (zs_div g i)) = max (max (max ((g 11 i) + 2) (zs_order g i)) (zs_readable g (g 3 i) i)) (zs_readable g (g 4 i) i)) from by omega) (lv_sub hl [0, 1, 2] rfl)
end
section
set_option maxHeartbeats 4000000 in
set_option maxRecDepth 100000 in
/-- cyclesWithTwoDone -/
theorem zc_two (l : Launch) (E : ia_E) (n : Nat) (g : Nat → Nat → Nat) (hg : zs_B g)  (hn : n ≤ 400) : ia_R l yX0_cyclesWithTwoDone cX0_cyclesWithTwoDone 3 .int 0 E n g [] (nI (zs_two g n)) := by
  refine ia_Rof (by decide) rfl (Nat.le_of_ble_eq_true rfl) (fun p e s m args below meth c ls hx hb hr hml hown ht hlk hO hl => ?_)
  have hl : lv_has ls 3 [(0, .ref (ia_h E 0))] := hl
  refine lv_iconst (v := nI 0) hx hb dX0_cyclesWithTwoDone_0 (by decide) ?_
  refine lv_istore_n (lv' := [(1, .int (nI 0)), (0, .ref (ia_h E 0))]) hx hb dX0_cyclesWithTwoDone_1 rfl hl (by decide) rfl (fun ls hl => ?_)
  refine lv_iconst (v := nI 1) hx hb dX0_cyclesWithTwoDone_2 (by decide) ?_
  refine lv_istore_n (lv' := [(2, .int (nI 1)), (1, .int (nI 0)), (0, .ref (ia_h E 0))]) hx hb dX0_cyclesWithTwoDone_3 rfl hl (by decide) rfl (fun ls hl => ?_)
  refine zk_up (nL := 3) (pcH := 4) 1 (max n 1) (fun _ => True) (fun k => [(1, .int (nI (zs_two g k))), (2, .int (nI k)), (0, .ref (ia_h E 0))]) ?_ ?_ (max n 1 - 1) 1 (Nat.le_refl _) (by omega) trivial ls (lv_sub hl [1, 0, 2] rfl)
  · intro _ ls hl
    have hl : lv_has ls 3 [(1, .int (nI (zs_two g (max n 1)))), (2, .int (nI (max n 1))), (0, .ref (ia_h E 0))] := hl
    refine lv_iload_n hx hb dX0_cyclesWithTwoDone_4 rfl (lv_at hl 1 rfl) ?_
    refine lv_aload_n hx hb dX0_cyclesWithTwoDone_5 rfl (lv_at hl 2 rfl) ?_
    refine ia_get 0 (v := .int (nI n)) hx hb ht hown hO (by decide) rfl zlX0_7 rfl dX0_cyclesWithTwoDone_6 ?_
    refine zk_cge (tgt := 38) hx hb dX0_cyclesWithTwoDone_9 (by decide) (by omega) (by omega) (fun c_1 => ?_) (fun c_1 => ?_)
    · refine lv_iload_n hx hb dX0_cyclesWithTwoDone_38 rfl (lv_at hl 0 rfl) ?_
      exact ia_iret hx hb hr hlk (congrArg nI (show zs_two g (max n 1) = zs_two g n from by rcases (show n = 0 ∨ max n 1 = n by omega) with h0 | h0 <;> first | (subst h0; rfl) | rw [h0])) dX0_cyclesWithTwoDone_39
    · exact absurd (show False from by omega) id
  · intro k hk0 hk ih _ ls hl
    have hl : lv_has ls 3 [(1, .int (nI (zs_two g k))), (2, .int (nI k)), (0, .ref (ia_h E 0))] := hl
    have e1 : (0 < k ∧ g 13 k = g 13 (k - 1) → zs_two g (k + 1) = zs_two g k + 1) ∧ (¬ (0 < k ∧ g 13 k = g 13 (k - 1)) → zs_two g (k + 1) = zs_two g k + 0) := ⟨fun h => congrArg (fun z => zs_two g k + z) (if_pos h), fun h => congrArg (fun z => zs_two g k + z) (if_neg h)⟩
    have e2 := zb_two g k
    refine lv_iload_n hx hb dX0_cyclesWithTwoDone_4 rfl (lv_at hl 1 rfl) ?_
    refine lv_aload_n hx hb dX0_cyclesWithTwoDone_5 rfl (lv_at hl 2 rfl) ?_
    refine ia_get 0 (v := .int (nI n)) hx hb ht hown hO (by decide) rfl zlX0_7 rfl dX0_cyclesWithTwoDone_6 ?_
    refine zk_cge (tgt := 38) hx hb dX0_cyclesWithTwoDone_9 (by decide) (by omega) (by omega) (fun c_2 => ?_) (fun c_2 => ?_)
    · exact absurd (show False from by omega) id
    · refine lv_aload_n hx hb dX0_cyclesWithTwoDone_12 rfl (lv_at hl 2 rfl) ?_
      refine ia_get 13 (v := .ref (ia_h E 13)) hx hb ht hown hO (by decide) rfl zlX0_51 rfl dX0_cyclesWithTwoDone_13 ?_
      refine lv_iload_n hx hb dX0_cyclesWithTwoDone_16 rfl (lv_at hl 1 rfl) ?_
      refine ia_ild 13 k hx hb hO rfl (by omega) dX0_cyclesWithTwoDone_17 ?_
      have b_3 := hg 13 k
      refine lv_aload_n hx hb dX0_cyclesWithTwoDone_18 rfl (lv_at hl 2 rfl) ?_
      refine ia_get 13 (v := .ref (ia_h E 13)) hx hb ht hown hO (by decide) rfl zlX0_51 rfl dX0_cyclesWithTwoDone_19 ?_
      refine lv_iload_n hx hb dX0_cyclesWithTwoDone_22 rfl (lv_at hl 1 rfl) ?_
      refine lv_iconst (v := nI 1) hx hb dX0_cyclesWithTwoDone_23 (by decide) ?_
      refine zk_sub hx hb (by omega) dX0_cyclesWithTwoDone_24 ?_
      refine ia_ild 13 (k - 1) hx hb hO rfl (by omega) dX0_cyclesWithTwoDone_25 ?_
      have b_4 := hg 13 (k - 1)
      refine zk_cne (tgt := 32) hx hb dX0_cyclesWithTwoDone_26 (by decide) (by omega) (by omega) (fun c_5 => ?_) (fun c_5 => ?_)
      · refine lv_iinc (v := nI (k + 1)) (lv' := [(2, .int (nI (k + 1))), (1, .int (nI (zs_two g k))), (0, .ref (ia_h E 0))]) hx hb dX0_cyclesWithTwoDone_32 hl (k := 1) rfl (zk_inc k) (by decide) rfl (fun ls hl => ?_)
        refine lv_goto (tgt := 4) hx hb dX0_cyclesWithTwoDone_35 (by decide) ?_
        have e9 : zs_two g k = zs_two g (k + 1) := by omega
        rw [e9] at hl
        exact ih trivial ls (lv_sub hl [1, 0, 2] rfl)
      · refine lv_iinc (v := nI ((zs_two g k) + 1)) (lv' := [(1, .int (nI ((zs_two g k) + 1))), (2, .int (nI k)), (0, .ref (ia_h E 0))]) hx hb dX0_cyclesWithTwoDone_29 hl (k := 0) rfl (zk_inc (zs_two g k)) (by decide) rfl (fun ls hl => ?_)
        refine lv_iinc (v := nI (k + 1)) (lv' := [(2, .int (nI (k + 1))), (1, .int (nI ((zs_two g k) + 1))), (0, .ref (ia_h E 0))]) hx hb dX0_cyclesWithTwoDone_32 hl (k := 1) rfl (zk_inc k) (by decide) rfl (fun ls hl => ?_)
        refine lv_goto (tgt := 4) hx hb dX0_cyclesWithTwoDone_35 (by decide) ?_
        have e9 : (zs_two g k) + 1 = zs_two g (k + 1) := by omega
        rw [e9] at hl
        exact ih trivial ls (lv_sub hl [1, 0, 2] rfl)
set_option maxHeartbeats 4000000 in
set_option maxRecDepth 100000 in
/-- longestWayBetweenDone -/
theorem zc_long (l : Launch) (E : ia_E) (n : Nat) (g : Nat → Nat → Nat) (hg : zs_B g)  (hn : n ≤ 400) (hm : ∀ k, k < n → zs_dbef g k ≤ g 13 k) : ia_R l yX0_longestWayBetweenDone cX0_longestWayBetweenDone 3 .int 1 E n g [] (nI (zs_long g n)) := by
  refine ia_Rof (by decide) rfl (Nat.le_of_ble_eq_true rfl) (fun p e s m args below meth c ls hx hb hr hml hown ht hlk hO hl => ?_)
  have hl : lv_has ls 3 [(0, .ref (ia_h E 0))] := hl
  refine lv_iconst (v := nI 0) hx hb dX0_longestWayBetweenDone_0 (by decide) ?_
  refine lv_istore_n (lv' := [(1, .int (nI 0)), (0, .ref (ia_h E 0))]) hx hb dX0_longestWayBetweenDone_1 rfl hl (by decide) rfl (fun ls hl => ?_)
  refine lv_iconst (v := nI 0) hx hb dX0_longestWayBetweenDone_2 (by decide) ?_
  refine lv_istore_n (lv' := [(2, .int (nI 0)), (1, .int (nI 0)), (0, .ref (ia_h E 0))]) hx hb dX0_longestWayBetweenDone_3 rfl hl (by decide) rfl (fun ls hl => ?_)
  refine zk_up (nL := 3) (pcH := 4) 0 (n) (fun _ => True) (fun k => [(1, .int (nI (zs_long g k))), (2, .int (nI k)), (0, .ref (ia_h E 0))]) ?_ ?_ (n - 0) 0 (Nat.le_refl _) (by omega) trivial ls (lv_sub hl [1, 0, 2] rfl)
  · intro _ ls hl
    have hl : lv_has ls 3 [(1, .int (nI (zs_long g n))), (2, .int (nI n)), (0, .ref (ia_h E 0))] := hl
    refine lv_iload_n hx hb dX0_longestWayBetweenDone_4 rfl (lv_at hl 1 rfl) ?_
    refine lv_aload_n hx hb dX0_longestWayBetweenDone_5 rfl (lv_at hl 2 rfl) ?_
    refine ia_get 0 (v := .int (nI n)) hx hb ht hown hO (by decide) rfl zlX0_7 rfl dX0_longestWayBetweenDone_6 ?_
    refine zk_cge (tgt := 35) hx hb dX0_longestWayBetweenDone_9 (by decide) (by omega) (by omega) (fun c_1 => ?_) (fun c_1 => ?_)
    · refine lv_iload_n hx hb dX0_longestWayBetweenDone_35 rfl (lv_at hl 0 rfl) ?_
      exact ia_iret hx hb hr hlk rfl dX0_longestWayBetweenDone_36
    · exact absurd (show False from by omega) id
  · intro k hk0 hk ih _ ls hl
    have hl : lv_has ls 3 [(1, .int (nI (zs_long g k))), (2, .int (nI k)), (0, .ref (ia_h E 0))] := hl
    have e1 : zs_long g (k + 1) = max (zs_long g k) (g 13 k - zs_dbef g k) := rfl
    have e2 := And.intro (zb_long hg k) (hm k (by omega))
    refine lv_iload_n hx hb dX0_longestWayBetweenDone_4 rfl (lv_at hl 1 rfl) ?_
    refine lv_aload_n hx hb dX0_longestWayBetweenDone_5 rfl (lv_at hl 2 rfl) ?_
    refine ia_get 0 (v := .int (nI n)) hx hb ht hown hO (by decide) rfl zlX0_7 rfl dX0_longestWayBetweenDone_6 ?_
    refine zk_cge (tgt := 35) hx hb dX0_longestWayBetweenDone_9 (by decide) (by omega) (by omega) (fun c_2 => ?_) (fun c_2 => ?_)
    · exact absurd (show False from by omega) id
    · refine lv_iload_n hx hb dX0_longestWayBetweenDone_12 rfl (lv_at hl 0 rfl) ?_
      refine lv_aload_n hx hb dX0_longestWayBetweenDone_13 rfl (lv_at hl 2 rfl) ?_
      refine ia_get 13 (v := .ref (ia_h E 13)) hx hb ht hown hO (by decide) rfl zlX0_51 rfl dX0_longestWayBetweenDone_14 ?_
      refine lv_iload_n hx hb dX0_longestWayBetweenDone_17 rfl (lv_at hl 1 rfl) ?_
      refine ia_ild 13 k hx hb hO rfl (by omega) dX0_longestWayBetweenDone_18 ?_
      have b_3 := hg 13 k
      refine lv_aload_n hx hb dX0_longestWayBetweenDone_19 rfl (lv_at hl 2 rfl) ?_
      refine lv_iload_n hx hb dX0_longestWayBetweenDone_20 rfl (lv_at hl 1 rfl) ?_
      refine ia_call (rest := [.int (nI (g 13 k)), .int (nI (zs_long g k))]) hx hb hml hl.1 hown ht hO (zc_dbef l E n g hg k (by omega)) zgX0_89 zyX0_doneBefore rfl ⟨by decide, by decide⟩ ⟨Nat.zero_le _, Nat.zero_le _⟩ (Nat.le_of_ble_eq_true rfl) rfl dX0_longestWayBetweenDone_21 ?_
      have b_4 := zb_dbef hg k
      refine zk_sub hx hb (by omega) dX0_longestWayBetweenDone_24 ?_
      refine ia_max hx hb hml hl.1 ht hown (by omega) (by omega) zmX0_136 (Nat.le_of_ble_eq_true rfl) (Nat.le_of_ble_eq_true rfl) ⟨Nat.zero_le _, Nat.zero_le _⟩ dX0_longestWayBetweenDone_25 ?_
      refine lv_istore_n (lv' := [(1, .int (nI (max (zs_long g k) ((g 13 k) - (zs_dbef g k))))), (2, .int (nI k)), (0, .ref (ia_h E 0))]) hx hb dX0_longestWayBetweenDone_28 rfl hl (by decide) rfl (fun ls hl => ?_)
      refine lv_iinc (v := nI (k + 1)) (lv' := [(2, .int (nI (k + 1))), (1, .int (nI (max (zs_long g k) ((g 13 k) - (zs_dbef g k))))), (0, .ref (ia_h E 0))]) hx hb dX0_longestWayBetweenDone_29 hl (k := 1) rfl (zk_inc k) (by decide) rfl (fun ls hl => ?_)
      refine lv_goto (tgt := 4) hx hb dX0_longestWayBetweenDone_32 (by decide) ?_
      have e9 : max (zs_long g k) ((g 13 k) - (zs_dbef g k)) = zs_long g (k + 1) := by omega
      rw [e9] at hl
      exact ih trivial ls (lv_sub hl [1, 0, 2] rfl)
set_option maxHeartbeats 4000000 in
set_option maxRecDepth 100000 in
/-- groups -/
theorem zc_groups (l : Launch) (E : ia_E) (n : Nat) (g : Nat → Nat → Nat) (hg : zs_B g)  (hn : n ≤ 400) : ia_R l yX0_groups cX0_groups 3 .int 0 E n g [] (nI (zs_groups g n)) := by
  refine ia_Rof (by decide) rfl (Nat.le_of_ble_eq_true rfl) (fun p e s m args below meth c ls hx hb hr hml hown ht hlk hO hl => ?_)
  have hl : lv_has ls 3 [(0, .ref (ia_h E 0))] := hl
  refine lv_iconst (v := nI 0) hx hb dX0_groups_0 (by decide) ?_
  refine lv_istore_n (lv' := [(1, .int (nI 0)), (0, .ref (ia_h E 0))]) hx hb dX0_groups_1 rfl hl (by decide) rfl (fun ls hl => ?_)
  refine lv_iconst (v := nI 0) hx hb dX0_groups_2 (by decide) ?_
  refine lv_istore_n (lv' := [(2, .int (nI 0)), (1, .int (nI 0)), (0, .ref (ia_h E 0))]) hx hb dX0_groups_3 rfl hl (by decide) rfl (fun ls hl => ?_)
  refine zk_up (nL := 3) (pcH := 4) 0 (n) (fun _ => True) (fun k => [(1, .int (nI (zs_groups g k))), (2, .int (nI k)), (0, .ref (ia_h E 0))]) ?_ ?_ (n - 0) 0 (Nat.le_refl _) (by omega) trivial ls (lv_sub hl [1, 0, 2] rfl)
  · intro _ ls hl
    have hl : lv_has ls 3 [(1, .int (nI (zs_groups g n))), (2, .int (nI n)), (0, .ref (ia_h E 0))] := hl
    refine lv_iload_n hx hb dX0_groups_4 rfl (lv_at hl 1 rfl) ?_
    refine lv_aload_n hx hb dX0_groups_5 rfl (lv_at hl 2 rfl) ?_
    refine ia_get 0 (v := .int (nI n)) hx hb ht hown hO (by decide) rfl zlX0_7 rfl dX0_groups_6 ?_
    refine zk_cge (tgt := 30) hx hb dX0_groups_9 (by decide) (by omega) (by omega) (fun c_1 => ?_) (fun c_1 => ?_)
    · refine lv_iload_n hx hb dX0_groups_30 rfl (lv_at hl 0 rfl) ?_
      exact ia_iret hx hb hr hlk rfl dX0_groups_31
    · exact absurd (show False from by omega) id
  · intro k hk0 hk ih _ ls hl
    have hl : lv_has ls 3 [(1, .int (nI (zs_groups g k))), (2, .int (nI k)), (0, .ref (ia_h E 0))] := hl
    have e1 : (g 10 k ≠ 0 → zs_groups g (k + 1) = zs_groups g k + 1) ∧ (¬ (g 10 k ≠ 0) → zs_groups g (k + 1) = zs_groups g k + 0) := ⟨fun h => congrArg (fun z => zs_groups g k + z) (if_pos h), fun h => congrArg (fun z => zs_groups g k + z) (if_neg h)⟩
    have e2 := zb_groups g k
    refine lv_iload_n hx hb dX0_groups_4 rfl (lv_at hl 1 rfl) ?_
    refine lv_aload_n hx hb dX0_groups_5 rfl (lv_at hl 2 rfl) ?_
    refine ia_get 0 (v := .int (nI n)) hx hb ht hown hO (by decide) rfl zlX0_7 rfl dX0_groups_6 ?_
    refine zk_cge (tgt := 30) hx hb dX0_groups_9 (by decide) (by omega) (by omega) (fun c_2 => ?_) (fun c_2 => ?_)
    · exact absurd (show False from by omega) id
    · refine lv_aload_n hx hb dX0_groups_12 rfl (lv_at hl 2 rfl) ?_
      refine ia_get 10 (v := .ref (ia_h E 10)) hx hb ht hown hO (by decide) rfl zlX0_42 rfl dX0_groups_13 ?_
      refine lv_iload_n hx hb dX0_groups_16 rfl (lv_at hl 1 rfl) ?_
      refine ia_zld 10 k hx hb hO rfl (by omega) dX0_groups_17 ?_
      have b_3 := hg 10 k
      refine zk_ifeq (tgt := 24) hx hb dX0_groups_18 (by decide) (by omega) (fun c_4 => ?_) (fun c_4 => ?_)
      · refine lv_iinc (v := nI (k + 1)) (lv' := [(2, .int (nI (k + 1))), (1, .int (nI (zs_groups g k))), (0, .ref (ia_h E 0))]) hx hb dX0_groups_24 hl (k := 1) rfl (zk_inc k) (by decide) rfl (fun ls hl => ?_)
        refine lv_goto (tgt := 4) hx hb dX0_groups_27 (by decide) ?_
        have e9 : zs_groups g k = zs_groups g (k + 1) := by omega
        rw [e9] at hl
        exact ih trivial ls (lv_sub hl [1, 0, 2] rfl)
      · refine lv_iinc (v := nI ((zs_groups g k) + 1)) (lv' := [(1, .int (nI ((zs_groups g k) + 1))), (2, .int (nI k)), (0, .ref (ia_h E 0))]) hx hb dX0_groups_21 hl (k := 0) rfl (zk_inc (zs_groups g k)) (by decide) rfl (fun ls hl => ?_)
        refine lv_iinc (v := nI (k + 1)) (lv' := [(2, .int (nI (k + 1))), (1, .int (nI ((zs_groups g k) + 1))), (0, .ref (ia_h E 0))]) hx hb dX0_groups_24 hl (k := 1) rfl (zk_inc k) (by decide) rfl (fun ls hl => ?_)
        refine lv_goto (tgt := 4) hx hb dX0_groups_27 (by decide) ?_
        have e9 : (zs_groups g k) + 1 = zs_groups g (k + 1) := by omega
        rw [e9] at hl
        exact ih trivial ls (lv_sub hl [1, 0, 2] rfl)
set_option maxHeartbeats 4000000 in
set_option maxRecDepth 100000 in
/-- pairsIssuedAtOnce -/
theorem zc_pairs (l : Launch) (E : ia_E) (n : Nat) (g : Nat → Nat → Nat) (hg : zs_B g)  (hn : n ≤ 400) : ia_R l yX0_pairsIssuedAtOnce cX0_pairsIssuedAtOnce 3 .int 1 E n g [] (nI (zs_pairs g n)) := by
  refine ia_Rof (by decide) rfl (Nat.le_of_ble_eq_true rfl) (fun p e s m args below meth c ls hx hb hr hml hown ht hlk hO hl => ?_)
  have hl : lv_has ls 3 [(0, .ref (ia_h E 0))] := hl
  refine lv_iconst (v := nI 0) hx hb dX0_pairsIssuedAtOnce_0 (by decide) ?_
  refine lv_istore_n (lv' := [(1, .int (nI 0)), (0, .ref (ia_h E 0))]) hx hb dX0_pairsIssuedAtOnce_1 rfl hl (by decide) rfl (fun ls hl => ?_)
  refine lv_iconst (v := nI 1) hx hb dX0_pairsIssuedAtOnce_2 (by decide) ?_
  refine lv_istore_n (lv' := [(2, .int (nI 1)), (1, .int (nI 0)), (0, .ref (ia_h E 0))]) hx hb dX0_pairsIssuedAtOnce_3 rfl hl (by decide) rfl (fun ls hl => ?_)
  refine zk_up (nL := 3) (pcH := 4) 1 (max n 1) (fun _ => True) (fun k => [(1, .int (nI (zs_pairs g k))), (2, .int (nI k)), (0, .ref (ia_h E 0))]) ?_ ?_ (max n 1 - 1) 1 (Nat.le_refl _) (by omega) trivial ls (lv_sub hl [1, 0, 2] rfl)
  · intro _ ls hl
    have hl : lv_has ls 3 [(1, .int (nI (zs_pairs g (max n 1)))), (2, .int (nI (max n 1))), (0, .ref (ia_h E 0))] := hl
    refine lv_iload_n hx hb dX0_pairsIssuedAtOnce_4 rfl (lv_at hl 1 rfl) ?_
    refine lv_aload_n hx hb dX0_pairsIssuedAtOnce_5 rfl (lv_at hl 2 rfl) ?_
    refine ia_get 0 (v := .int (nI n)) hx hb ht hown hO (by decide) rfl zlX0_7 rfl dX0_pairsIssuedAtOnce_6 ?_
    refine zk_cge (tgt := 29) hx hb dX0_pairsIssuedAtOnce_9 (by decide) (by omega) (by omega) (fun c_1 => ?_) (fun c_1 => ?_)
    · refine lv_iload_n hx hb dX0_pairsIssuedAtOnce_29 rfl (lv_at hl 0 rfl) ?_
      exact ia_iret hx hb hr hlk (congrArg nI (show zs_pairs g (max n 1) = zs_pairs g n from by rcases (show n = 0 ∨ max n 1 = n by omega) with h0 | h0 <;> first | (subst h0; rfl) | rw [h0])) dX0_pairsIssuedAtOnce_30
    · exact absurd (show False from by omega) id
  · intro k hk0 hk ih _ ls hl
    have hl : lv_has ls 3 [(1, .int (nI (zs_pairs g k))), (2, .int (nI k)), (0, .ref (ia_h E 0))] := hl
    have e1 : zs_pairs g (k + 1) = zs_pairs g k + zs_second g k := rfl
    have e2 := zb_pairs g k
    refine lv_iload_n hx hb dX0_pairsIssuedAtOnce_4 rfl (lv_at hl 1 rfl) ?_
    refine lv_aload_n hx hb dX0_pairsIssuedAtOnce_5 rfl (lv_at hl 2 rfl) ?_
    refine ia_get 0 (v := .int (nI n)) hx hb ht hown hO (by decide) rfl zlX0_7 rfl dX0_pairsIssuedAtOnce_6 ?_
    refine zk_cge (tgt := 29) hx hb dX0_pairsIssuedAtOnce_9 (by decide) (by omega) (by omega) (fun c_2 => ?_) (fun c_2 => ?_)
    · exact absurd (show False from by omega) id
    · refine lv_aload_n hx hb dX0_pairsIssuedAtOnce_12 rfl (lv_at hl 2 rfl) ?_
      refine lv_iload_n hx hb dX0_pairsIssuedAtOnce_13 rfl (lv_at hl 1 rfl) ?_
      refine ia_call (rest := []) hx hb hml hl.1 hown ht hO (zc_second l E n g hg k (by omega)) zgX0_72 zyX0_isIssuedAsSecond rfl ⟨by decide, by decide⟩ ⟨Nat.zero_le _, Nat.zero_le _⟩ (Nat.le_of_ble_eq_true rfl) rfl dX0_pairsIssuedAtOnce_14 ?_
      have b_3 := zb_second g k
      refine zk_ifeq (tgt := 23) hx hb dX0_pairsIssuedAtOnce_17 (by decide) (by omega) (fun c_4 => ?_) (fun c_4 => ?_)
      · refine lv_iinc (v := nI (k + 1)) (lv' := [(2, .int (nI (k + 1))), (1, .int (nI (zs_pairs g k))), (0, .ref (ia_h E 0))]) hx hb dX0_pairsIssuedAtOnce_23 hl (k := 1) rfl (zk_inc k) (by decide) rfl (fun ls hl => ?_)
        refine lv_goto (tgt := 4) hx hb dX0_pairsIssuedAtOnce_26 (by decide) ?_
        have e9 : zs_pairs g k = zs_pairs g (k + 1) := by omega
        rw [e9] at hl
        exact ih trivial ls (lv_sub hl [1, 0, 2] rfl)
      · refine lv_iinc (v := nI ((zs_pairs g k) + 1)) (lv' := [(1, .int (nI ((zs_pairs g k) + 1))), (2, .int (nI k)), (0, .ref (ia_h E 0))]) hx hb dX0_pairsIssuedAtOnce_20 hl (k := 0) rfl (zk_inc (zs_pairs g k)) (by decide) rfl (fun ls hl => ?_)
        refine lv_iinc (v := nI (k + 1)) (lv' := [(2, .int (nI (k + 1))), (1, .int (nI ((zs_pairs g k) + 1))), (0, .ref (ia_h E 0))]) hx hb dX0_pairsIssuedAtOnce_23 hl (k := 1) rfl (zk_inc k) (by decide) rfl (fun ls hl => ?_)
        refine lv_goto (tgt := 4) hx hb dX0_pairsIssuedAtOnce_26 (by decide) ?_
        have e9 : (zs_pairs g k) + 1 = zs_pairs g (k + 1) := by omega
        rw [e9] at hl
        exact ih trivial ls (lv_sub hl [1, 0, 2] rfl)
set_option maxHeartbeats 4000000 in
set_option maxRecDepth 100000 in
/-- mostAtWork -/
theorem zc_most (l : Launch) (E : ia_E) (n : Nat) (g : Nat → Nat → Nat) (hg : zs_B g)  (hn : n ≤ 400) : ia_R l yX0_mostAtWork cX0_mostAtWork 4 .int 1 E n g [] (nI (zs_most g n)) := by
  refine ia_Rof (by decide) rfl (Nat.le_of_ble_eq_true rfl) (fun p e s m args below meth c ls hx hb hr hml hown ht hlk hO hl => ?_)
  have hl : lv_has ls 4 [(0, .ref (ia_h E 0))] := hl
  refine lv_iconst (v := nI 0) hx hb dX0_mostAtWork_0 (by decide) ?_
  refine lv_istore_n (lv' := [(1, .int (nI 0)), (0, .ref (ia_h E 0))]) hx hb dX0_mostAtWork_1 rfl hl (by decide) rfl (fun ls hl => ?_)
  refine lv_iconst (v := nI 0) hx hb dX0_mostAtWork_2 (by decide) ?_
  refine lv_istore_n (lv' := [(2, .int (nI 0)), (1, .int (nI 0)), (0, .ref (ia_h E 0))]) hx hb dX0_mostAtWork_3 rfl hl (by decide) rfl (fun ls hl => ?_)
  refine lv_iconst (v := nI 0) hx hb dX0_mostAtWork_4 (by decide) ?_
  refine lv_istore_n (lv' := [(3, .int (nI 0)), (2, .int (nI 0)), (1, .int (nI 0)), (0, .ref (ia_h E 0))]) hx hb dX0_mostAtWork_5 rfl hl (by decide) rfl (fun ls hl => ?_)
  refine zk_up (nL := 4) (pcH := 6) 0 n (fun _ => True) (fun k => [(1, .int (nI (zs_most g k))), (2, .int (nI (zs_oldest g k))), (3, .int (nI k)), (0, .ref (ia_h E 0))]) ?_ ?_ n 0 (Nat.le_refl _) (by omega) trivial ls (lv_sub hl [2, 1, 0, 3] rfl)
  · intro _ ls hl
    have hl : lv_has ls 4 [(1, .int (nI (zs_most g n))), (2, .int (nI (zs_oldest g n))), (3, .int (nI n)), (0, .ref (ia_h E 0))] := hl
    refine lv_iload_n hx hb dX0_mostAtWork_6 rfl (lv_at hl 2 rfl) ?_
    refine lv_aload_n hx hb dX0_mostAtWork_7 rfl (lv_at hl 3 rfl) ?_
    refine ia_get 0 (v := .int (nI n)) hx hb ht hown hO (by decide) rfl zlX0_7 rfl dX0_mostAtWork_8 ?_
    refine zk_cge (tgt := 56) hx hb dX0_mostAtWork_11 (by decide) (by omega) (by omega) (fun c_1 => ?_) (fun c_1 => ?_)
    · refine lv_iload_n hx hb dX0_mostAtWork_56 rfl (lv_at hl 0 rfl) ?_
      exact ia_iret hx hb hr hlk rfl dX0_mostAtWork_57
    · exact absurd (show False from by omega) id
  · intro k hk0 hk ih _ ls hl
    have hl : lv_has ls 4 [(1, .int (nI (zs_most g k))), (2, .int (nI (zs_oldest g k))), (3, .int (nI k)), (0, .ref (ia_h E 0))] := hl
    have e1 : zs_most g (k + 1) = max (zs_most g k) (k - zs_oldest g (k + 1) + 1) := rfl
    have e2 := zb_most g k
    have e3 := zb_oldest g k
    have e4 := zb_oldest g (k + 1)
    have e5 := zb_old g k (k - zs_oldest g k) (zs_oldest g k)
    have e6 : zs_oldest g (k + 1) = zs_old g k (k - zs_oldest g k) (zs_oldest g k) := rfl
    refine lv_iload_n hx hb dX0_mostAtWork_6 rfl (lv_at hl 2 rfl) ?_
    refine lv_aload_n hx hb dX0_mostAtWork_7 rfl (lv_at hl 3 rfl) ?_
    refine ia_get 0 (v := .int (nI n)) hx hb ht hown hO (by decide) rfl zlX0_7 rfl dX0_mostAtWork_8 ?_
    refine zk_cge (tgt := 56) hx hb dX0_mostAtWork_11 (by decide) (by omega) (by omega) (fun c_2 => ?_) (fun c_2 => ?_)
    · exact absurd (show False from by omega) id
    · refine zk_cut (nL := 4) 40 (fun v => v = zs_oldest g (k + 1)) (fun v => [(2, .int (nI v)), (1, .int (nI (zs_most g k))), (3, .int (nI k)), (0, .ref (ia_h E 0))]) (fun _ => []) (fun v ls ev hl => ?_) (fun J => ?_)
      · have ev : v = zs_oldest g (k + 1) := ev
        have hl : lv_has ls 4 [(2, .int (nI v)), (1, .int (nI (zs_most g k))), (3, .int (nI k)), (0, .ref (ia_h E 0))] := hl
        refine lv_iload_n hx hb dX0_mostAtWork_40 rfl (lv_at hl 1 rfl) ?_
        refine lv_iload_n hx hb dX0_mostAtWork_41 rfl (lv_at hl 2 rfl) ?_
        refine lv_iload_n hx hb dX0_mostAtWork_42 rfl (lv_at hl 0 rfl) ?_
        refine zk_sub hx hb (by omega) dX0_mostAtWork_43 ?_
        refine lv_iconst (v := nI 1) hx hb dX0_mostAtWork_44 (by decide) ?_
        refine zk_add hx hb dX0_mostAtWork_45 ?_
        refine ia_max hx hb hml hl.1 ht hown (by omega) (by omega) zmX0_136 (Nat.le_of_ble_eq_true rfl) (Nat.le_of_ble_eq_true rfl) ⟨Nat.zero_le _, Nat.zero_le _⟩ dX0_mostAtWork_46 ?_
        refine lv_istore_n (lv' := [(1, .int (nI (max (zs_most g k) ((k - v) + 1)))), (2, .int (nI v)), (3, .int (nI k)), (0, .ref (ia_h E 0))]) hx hb dX0_mostAtWork_49 rfl hl (by decide) rfl (fun ls hl => ?_)
        refine lv_iinc (v := nI (k + 1)) (lv' := [(3, .int (nI (k + 1))), (1, .int (nI (max (zs_most g k) ((k - v) + 1)))), (2, .int (nI v)), (0, .ref (ia_h E 0))]) hx hb dX0_mostAtWork_50 hl (k := 2) rfl (zk_inc k) (by decide) rfl (fun ls hl => ?_)
        refine lv_goto (tgt := 6) hx hb dX0_mostAtWork_53 (by decide) ?_
        have e9 : max (zs_most g k) ((k - v) + 1) = zs_most g (k + 1) := by omega
        rw [e9, ev] at hl
        exact ih trivial ls (lv_sub hl [1, 2, 0, 3] rfl)
      · refine zk_up (nL := 4) (pcH := 14) (zs_oldest g k) k (fun o => zs_old g k (k - o) o = zs_oldest g (k + 1)) (fun o => [(2, .int (nI o)), (1, .int (nI (zs_most g k))), (3, .int (nI k)), (0, .ref (ia_h E 0))]) ?_ ?_ (k - zs_oldest g k) (zs_oldest g k) (Nat.le_refl _) (by omega) rfl ls (lv_sub hl [1, 0, 2, 3] rfl)
        · intro hP ls hl
          have hl : lv_has ls 4 [(2, .int (nI k)), (1, .int (nI (zs_most g k))), (3, .int (nI k)), (0, .ref (ia_h E 0))] := hl
          have hP : zs_old g k (k - k) k = zs_oldest g (k + 1) := hP
          rw [Nat.sub_self] at hP
          have hP : k = zs_oldest g (k + 1) := hP
          refine lv_iload_n hx hb dX0_mostAtWork_14 rfl (lv_at hl 0 rfl) ?_
          refine lv_iload_n hx hb dX0_mostAtWork_15 rfl (lv_at hl 2 rfl) ?_
          refine zk_cge (tgt := 40) hx hb dX0_mostAtWork_16 (by decide) (by omega) (by omega) (fun c_3 => ?_) (fun c_3 => ?_)
          · exact J k ls (show k = zs_oldest g (k + 1) from by omega) (lv_sub hl [0, 1, 2, 3] rfl)
          · exact absurd (show False from by omega) id
        · intro o ho0 ho ih2 hP ls hl
          have hl : lv_has ls 4 [(2, .int (nI o)), (1, .int (nI (zs_most g k))), (3, .int (nI k)), (0, .ref (ia_h E 0))] := hl
          have hP : zs_old g k (k - o) o = zs_oldest g (k + 1) := hP
          have e7 : (g 13 o ≤ g 12 k → zs_old g k (k - o) o = zs_old g k (k - (o + 1)) (o + 1)) ∧ (¬ g 13 o ≤ g 12 k → zs_old g k (k - o) o = o) := by
            rw [show k - o = (k - (o + 1)) + 1 by omega]
            exact ⟨fun h => if_pos h, fun h => if_neg h⟩
          refine lv_iload_n hx hb dX0_mostAtWork_14 rfl (lv_at hl 0 rfl) ?_
          refine lv_iload_n hx hb dX0_mostAtWork_15 rfl (lv_at hl 2 rfl) ?_
          refine zk_cge (tgt := 40) hx hb dX0_mostAtWork_16 (by decide) (by omega) (by omega) (fun c_4 => ?_) (fun c_4 => ?_)
          · exact J o ls (show o = zs_oldest g (k + 1) from by omega) (lv_sub hl [0, 1, 2, 3] rfl)
          · refine lv_aload_n hx hb dX0_mostAtWork_19 rfl (lv_at hl 3 rfl) ?_
            refine ia_get 13 (v := .ref (ia_h E 13)) hx hb ht hown hO (by decide) rfl zlX0_51 rfl dX0_mostAtWork_20 ?_
            refine lv_iload_n hx hb dX0_mostAtWork_23 rfl (lv_at hl 0 rfl) ?_
            refine ia_ild 13 o hx hb hO rfl (by omega) dX0_mostAtWork_24 ?_
            have b_5 := hg 13 o
            refine lv_aload_n hx hb dX0_mostAtWork_25 rfl (lv_at hl 3 rfl) ?_
            refine ia_get 12 (v := .ref (ia_h E 12)) hx hb ht hown hO (by decide) rfl zlX0_48 rfl dX0_mostAtWork_26 ?_
            refine lv_iload_n hx hb dX0_mostAtWork_29 rfl (lv_at hl 2 rfl) ?_
            refine ia_ild 12 k hx hb hO rfl (by omega) dX0_mostAtWork_30 ?_
            have b_6 := hg 12 k
            refine zk_cgt (tgt := 40) hx hb dX0_mostAtWork_31 (by decide) (by omega) (by omega) (fun c_7 => ?_) (fun c_7 => ?_)
            · exact J o ls (show o = zs_oldest g (k + 1) from by omega) (lv_sub hl [0, 1, 2, 3] rfl)
            · refine lv_iinc (v := nI (o + 1)) (lv' := [(2, .int (nI (o + 1))), (1, .int (nI (zs_most g k))), (3, .int (nI k)), (0, .ref (ia_h E 0))]) hx hb dX0_mostAtWork_34 hl (k := 0) rfl (zk_inc o) (by decide) rfl (fun ls hl => ?_)
              refine lv_goto (tgt := 14) hx hb dX0_mostAtWork_37 (by decide) ?_
              exact ih2 (show zs_old g k (k - (o + 1)) (o + 1) = zs_oldest g (k + 1) from by omega) ls (lv_sub hl [0, 1, 2, 3] rfl)
end
section
set_option maxHeartbeats 4000000 in
set_option maxRecDepth 100000 in
/-- isRegister -/
theorem zc_reg (l : Launch) (x : Int32) : ia_T l yX0_isRegister cX0_isRegister 1 .boolean 0 [.int x] (nI (zs_reg x.toInt)) := by
  refine ia_Tof (by decide) (Nat.le_of_ble_eq_true rfl) (fun p e s m args below meth c ls hx hb hr hlk hl => ?_)
  have hl : lv_has ls 1 [(0, .int x)] := hl
  refine lv_iload_n hx hb dX0_isRegister_0 rfl (lv_at hl 0 rfl) ?_
  refine zi_iflt (tgt := 14) hx hb dX0_isRegister_1 (by decide) (fun c_1 => ?_) (fun c_1 => ?_)
  · refine lv_iconst (v := nI 0) hx hb dX0_isRegister_14 (by decide) ?_
    exact ia_zret hx hb hr hlk (by omega) (congrArg nI (show 0 = zs_reg x.toInt from by unfold zs_reg; (repeat' split) <;> omega)) dX0_isRegister_15
  · refine lv_iload_n hx hb dX0_isRegister_4 rfl (lv_at hl 0 rfl) ?_
    refine lv_bipush (v := nI 31) hx hb dX0_isRegister_5 (by decide) ?_
    have t_3 := nI_toInt (n := 31) (by omega)
    refine zi_cgt (tgt := 14) hx hb dX0_isRegister_7 (by decide) (fun c_2 => ?_) (fun c_2 => ?_)
    · refine lv_iconst (v := nI 0) hx hb dX0_isRegister_14 (by decide) ?_
      exact ia_zret hx hb hr hlk (by omega) (congrArg nI (show 0 = zs_reg x.toInt from by unfold zs_reg; (repeat' split) <;> omega)) dX0_isRegister_15
    · refine lv_iconst (v := nI 1) hx hb dX0_isRegister_10 (by decide) ?_
      refine lv_goto (tgt := 15) hx hb dX0_isRegister_11 (by decide) ?_
      exact ia_zret hx hb hr hlk (by omega) (congrArg nI (show 1 = zs_reg x.toInt from by unfold zs_reg; (repeat' split) <;> omega)) dX0_isRegister_15
set_option maxHeartbeats 4000000 in
set_option maxRecDepth 100000 in
/-- isInstruction -/
theorem zc_ins (l : Launch) (E : ia_E) (n : Nat) (g : Nat → Nat → Nat) (x : Int32) (hn : n ≤ 400) : ia_R l yX0_isInstruction cX0_isInstruction 2 .boolean 0 E n g [.int x] (nI (zs_ins n x.toInt)) := by
  refine ia_Rof (by decide) rfl (Nat.le_of_ble_eq_true rfl) (fun p e s m args below meth c ls hx hb hr hml hown ht hlk hO hl => ?_)
  have hl : lv_has ls 2 [(0, .ref (ia_h E 0)), (1, .int x)] := hl
  refine lv_iload_n hx hb dX0_isInstruction_0 rfl (lv_at hl 1 rfl) ?_
  refine zi_iflt (tgt := 16) hx hb dX0_isInstruction_1 (by decide) (fun c_1 => ?_) (fun c_1 => ?_)
  · refine lv_iconst (v := nI 0) hx hb dX0_isInstruction_16 (by decide) ?_
    exact ia_zret hx hb hr hlk (by omega) (congrArg nI (show 0 = zs_ins n x.toInt from by unfold zs_ins; (repeat' split) <;> omega)) dX0_isInstruction_17
  · refine lv_iload_n hx hb dX0_isInstruction_4 rfl (lv_at hl 1 rfl) ?_
    refine lv_aload_n hx hb dX0_isInstruction_5 rfl (lv_at hl 0 rfl) ?_
    refine ia_get 0 (v := .int (nI n)) hx hb ht hown hO (by decide) rfl zlX0_7 rfl dX0_isInstruction_6 ?_
    have t_3 := nI_toInt (n := n) (by omega)
    refine zi_cge (tgt := 16) hx hb dX0_isInstruction_9 (by decide) (fun c_2 => ?_) (fun c_2 => ?_)
    · refine lv_iconst (v := nI 0) hx hb dX0_isInstruction_16 (by decide) ?_
      exact ia_zret hx hb hr hlk (by omega) (congrArg nI (show 0 = zs_ins n x.toInt from by unfold zs_ins; (repeat' split) <;> omega)) dX0_isInstruction_17
    · refine lv_iconst (v := nI 1) hx hb dX0_isInstruction_12 (by decide) ?_
      refine lv_goto (tgt := 17) hx hb dX0_isInstruction_13 (by decide) ?_
      exact ia_zret hx hb hr hlk (by omega) (congrArg nI (show 1 = zs_ins n x.toInt from by unfold zs_ins; (repeat' split) <;> omega)) dX0_isInstruction_17
set_option maxHeartbeats 4000000 in
set_option maxRecDepth 100000 in
/-- oneIf -/
theorem zc_one (l : Launch) (k : Nat) (hk : k < 2 ^ 31) : ia_T l yX0_oneIf cX0_oneIf 1 .int 0 [.int (nI k)] (nI (zs_one k)) := by
  refine ia_Tof (by decide) (Nat.le_of_ble_eq_true rfl) (fun p e s m args below meth c ls hx hb hr hlk hl => ?_)
  have hl : lv_has ls 1 [(0, .int (nI k))] := hl
  refine lv_iload_n hx hb dX0_oneIf_0 rfl (lv_at hl 0 rfl) ?_
  refine zk_ifeq (tgt := 8) hx hb dX0_oneIf_1 (by decide) (by omega) (fun c_1 => ?_) (fun c_1 => ?_)
  · refine lv_iconst (v := nI 0) hx hb dX0_oneIf_8 (by decide) ?_
    exact ia_iret hx hb hr hlk (congrArg nI (show 0 = zs_one k from by unfold zs_one; (repeat' split) <;> omega)) dX0_oneIf_9
  · refine lv_iconst (v := nI 1) hx hb dX0_oneIf_4 (by decide) ?_
    refine lv_goto (tgt := 9) hx hb dX0_oneIf_5 (by decide) ?_
    exact ia_iret hx hb hr hlk (congrArg nI (show 1 = zs_one k from by unfold zs_one; (repeat' split) <;> omega)) dX0_oneIf_9
end
section
set_option maxHeartbeats 4000000 in
set_option maxRecDepth 100000 in
/-- time -/
theorem zc_ptime_no (l : Launch) (E : ia_E) (n : Nat) (g : Nat → Nat → Nat) (hg : zs_B g) (x w : Int32) (hn : n ≤ 400) (h0 : ¬ (0 ≤ x.toInt ∧ x.toInt < n)) : ia_R l yX0_time cX0_time 3 .int 1 E n g [.int x, .int w] ((-1)) := by
  refine ia_Rof (by decide) rfl (Nat.le_of_ble_eq_true rfl) (fun p e s m args below meth c ls hx hb hr hml hown ht hlk hO hl => ?_)
  have hl : lv_has ls 3 [(0, .ref (ia_h E 0)), (1, .int x), (2, .int w)] := hl
  refine lv_aload_n hx hb dX0_time_0 rfl (lv_at hl 0 rfl) ?_
  refine lv_iload_n hx hb dX0_time_1 rfl (lv_at hl 1 rfl) ?_
  refine ia_call (rest := []) hx hb hml hl.1 hown ht hO (zc_ins l E n g x (by omega)) zgX0_65 zyX0_isInstruction rfl ⟨by decide, by decide⟩ ⟨Nat.zero_le _, Nat.zero_le _⟩ (Nat.le_of_ble_eq_true rfl) rfl dX0_time_2 ?_
  have b_1 := zb_ins n x.toInt
  refine zk_ifne (tgt := 10) hx hb dX0_time_5 (by decide) (by omega) (fun c_2 => ?_) (fun c_2 => ?_)
  · exact absurd (show False from by omega) id
  · refine lv_iconst (v := (-1)) hx hb dX0_time_8 (by decide) ?_
    exact ia_iret hx hb hr hlk rfl dX0_time_9
set_option maxHeartbeats 4000000 in
set_option maxRecDepth 100000 in
/-- time -/
theorem zc_ptime (l : Launch) (E : ia_E) (n : Nat) (g : Nat → Nat → Nat) (hg : zs_B g) (i : Nat) (w : Int32) (hn : n ≤ 400) (hi : i < n) : ia_R l yX0_time cX0_time 3 .int 1 E n g [.int (nI i), .int w] (zp_time g n i w.toInt) := by
  refine ia_Rof (by decide) rfl (Nat.le_of_ble_eq_true rfl) (fun p e s m args below meth c ls hx hb hr hml hown ht hlk hO hl => ?_)
  have hl : lv_has ls 3 [(0, .ref (ia_h E 0)), (1, .int (nI i)), (2, .int w)] := hl
  refine lv_aload_n hx hb dX0_time_0 rfl (lv_at hl 0 rfl) ?_
  refine lv_iload_n hx hb dX0_time_1 rfl (lv_at hl 1 rfl) ?_
  refine ia_call (rest := []) hx hb hml hl.1 hown ht hO (zc_ins l E n g (nI i) (by omega)) zgX0_65 zyX0_isInstruction rfl ⟨by decide, by decide⟩ ⟨Nat.zero_le _, Nat.zero_le _⟩ (Nat.le_of_ble_eq_true rfl) rfl dX0_time_2 ?_
  have t_1 := nI_toInt (n := i) (by omega)
  have b_2 := zb_ins n (nI i).toInt
  refine zk_ifne (tgt := 10) hx hb dX0_time_5 (by decide) (by omega) (fun c_3 => ?_) (fun c_3 => ?_)
  · refine lv_iload_n hx hb dX0_time_10 rfl (lv_at hl 2 rfl) ?_
    rcases (show w.toInt = 0 ∨ w.toInt = 1 ∨ w.toInt = 2 ∨ w.toInt = 3 ∨ w.toInt = 4 ∨ (w.toInt < 0 ∨ 4 < w.toInt) by omega) with w_4 | w_4 | w_4 | w_4 | w_4 | w_4
    · refine lv_tableIn (tgt := 44) (off := 33) hx hb dX0_time_11 (by omega) (by omega) (by rw [w_4]; rfl) (by decide) ?_
      refine lv_aload_n hx hb dX0_time_44 rfl (lv_at hl 0 rfl) ?_
      refine ia_get 11 (v := .ref (ia_h E 11)) hx hb ht hown hO (by decide) rfl zlX0_45 rfl dX0_time_45 ?_
      refine lv_iload_n hx hb dX0_time_48 rfl (lv_at hl 1 rfl) ?_
      refine ia_ild 11 i hx hb hO rfl (by omega) dX0_time_49 ?_
      have b_5 := hg 11 i
      exact ia_iret hx hb hr hlk (by simp [zp_time, w_4]) dX0_time_50
    · refine lv_tableIn (tgt := 51) (off := 40) hx hb dX0_time_11 (by omega) (by omega) (by rw [w_4]; rfl) (by decide) ?_
      refine lv_aload_n hx hb dX0_time_51 rfl (lv_at hl 0 rfl) ?_
      refine ia_get 12 (v := .ref (ia_h E 12)) hx hb ht hown hO (by decide) rfl zlX0_48 rfl dX0_time_52 ?_
      refine lv_iload_n hx hb dX0_time_55 rfl (lv_at hl 1 rfl) ?_
      refine ia_ild 12 i hx hb hO rfl (by omega) dX0_time_56 ?_
      have b_6 := hg 12 i
      exact ia_iret hx hb hr hlk (by simp [zp_time, w_4]) dX0_time_57
    · refine lv_tableIn (tgt := 58) (off := 47) hx hb dX0_time_11 (by omega) (by omega) (by rw [w_4]; rfl) (by decide) ?_
      refine lv_aload_n hx hb dX0_time_58 rfl (lv_at hl 0 rfl) ?_
      refine ia_get 13 (v := .ref (ia_h E 13)) hx hb ht hown hO (by decide) rfl zlX0_51 rfl dX0_time_59 ?_
      refine lv_iload_n hx hb dX0_time_62 rfl (lv_at hl 1 rfl) ?_
      refine ia_ild 13 i hx hb hO rfl (by omega) dX0_time_63 ?_
      have b_7 := hg 13 i
      exact ia_iret hx hb hr hlk (by simp [zp_time, w_4]) dX0_time_64
    · refine lv_tableIn (tgt := 65) (off := 54) hx hb dX0_time_11 (by omega) (by omega) (by rw [w_4]; rfl) (by decide) ?_
      refine lv_aload_n hx hb dX0_time_65 rfl (lv_at hl 0 rfl) ?_
      refine lv_iload_n hx hb dX0_time_66 rfl (lv_at hl 1 rfl) ?_
      refine ia_call (rest := []) hx hb hml hl.1 hown ht hO (zc_gsize l E n g hg i (by omega) (by omega)) zgX0_68 zyX0_groupSize rfl ⟨by decide, by decide⟩ ⟨Nat.zero_le _, Nat.zero_le _⟩ (Nat.le_of_ble_eq_true rfl) rfl dX0_time_67 ?_
      have b_8 := zb_gsize g n i
      exact ia_iret hx hb hr hlk (by simp [zp_time, w_4]) dX0_time_70
    · refine lv_tableIn (tgt := 71) (off := 60) hx hb dX0_time_11 (by omega) (by omega) (by rw [w_4]; rfl) (by decide) ?_
      refine lv_aload_n hx hb dX0_time_71 rfl (lv_at hl 0 rfl) ?_
      refine lv_iload_n hx hb dX0_time_72 rfl (lv_at hl 1 rfl) ?_
      refine ia_call (rest := []) hx hb hml hl.1 hown ht hO (zc_second l E n g hg i (by omega)) zgX0_72 zyX0_isIssuedAsSecond rfl ⟨by decide, by decide⟩ ⟨Nat.zero_le _, Nat.zero_le _⟩ (Nat.le_of_ble_eq_true rfl) rfl dX0_time_73 ?_
      have b_9 := zb_second g i
      refine ia_callS (rest := []) hx hb hml hl.1 hown ht (zc_one l (zs_second g i) (by omega)) zgX0_75 zyX0_oneIf rfl ⟨by decide, by decide⟩ ⟨Nat.zero_le _, Nat.zero_le _⟩ (Nat.le_of_ble_eq_true rfl) rfl dX0_time_76 ?_
      have b_10 := zb_one (zs_second g i)
      exact ia_iret hx hb hr hlk (by simp [zp_time, w_4]) dX0_time_79
    · refine lv_tableOut (tgt := 80) hx hb dX0_time_11 (by omega) (by decide) ?_
      refine lv_iconst (v := (-1)) hx hb dX0_time_80 (by decide) ?_
      exact ia_iret hx hb hr hlk (by unfold zp_time; rw [if_neg (by omega), if_neg (by omega), if_neg (by omega), if_neg (by omega), if_neg (by omega)]) dX0_time_81
  · exact absurd (show False from by omega) id
set_option maxHeartbeats 4000000 in
set_option maxRecDepth 100000 in
/-- of -/
theorem zc_pof_no (l : Launch) (E : ia_E) (n : Nat) (g : Nat → Nat → Nat) (hg : zs_B g) (x w : Int32) (hn : n ≤ 400) (h0 : ¬ (0 ≤ x.toInt ∧ x.toInt < n)) : ia_R l yX0_of cX0_of 3 .int 3 E n g [.int x, .int w] ((-1)) := by
  refine ia_Rof (by decide) rfl (Nat.le_of_ble_eq_true rfl) (fun p e s m args below meth c ls hx hb hr hml hown ht hlk hO hl => ?_)
  have hl : lv_has ls 3 [(0, .ref (ia_h E 0)), (1, .int x), (2, .int w)] := hl
  refine lv_aload_n hx hb dX0_of_0 rfl (lv_at hl 0 rfl) ?_
  refine lv_iload_n hx hb dX0_of_1 rfl (lv_at hl 1 rfl) ?_
  refine ia_call (rest := []) hx hb hml hl.1 hown ht hO (zc_ins l E n g x (by omega)) zgX0_65 zyX0_isInstruction rfl ⟨by decide, by decide⟩ ⟨Nat.zero_le _, Nat.zero_le _⟩ (Nat.le_of_ble_eq_true rfl) rfl dX0_of_2 ?_
  have b_1 := zb_ins n x.toInt
  refine zk_ifne (tgt := 10) hx hb dX0_of_5 (by decide) (by omega) (fun c_2 => ?_) (fun c_2 => ?_)
  · exact absurd (show False from by omega) id
  · refine lv_iconst (v := (-1)) hx hb dX0_of_8 (by decide) ?_
    exact ia_iret hx hb hr hlk rfl dX0_of_9
set_option maxHeartbeats 4000000 in
set_option maxRecDepth 100000 in
/-- of -/
theorem zc_pof (l : Launch) (E : ia_E) (n : Nat) (g : Nat → Nat → Nat) (hg : zs_B g) (i : Nat) (w : Int32) (hn : n ≤ 400) (hi : i < n) : ia_R l yX0_of cX0_of 3 .int 3 E n g [.int (nI i), .int w] (zp_of g i w.toInt) := by
  refine ia_Rof (by decide) rfl (Nat.le_of_ble_eq_true rfl) (fun p e s m args below meth c ls hx hb hr hml hown ht hlk hO hl => ?_)
  have hl : lv_has ls 3 [(0, .ref (ia_h E 0)), (1, .int (nI i)), (2, .int w)] := hl
  refine lv_aload_n hx hb dX0_of_0 rfl (lv_at hl 0 rfl) ?_
  refine lv_iload_n hx hb dX0_of_1 rfl (lv_at hl 1 rfl) ?_
  refine ia_call (rest := []) hx hb hml hl.1 hown ht hO (zc_ins l E n g (nI i) (by omega)) zgX0_65 zyX0_isInstruction rfl ⟨by decide, by decide⟩ ⟨Nat.zero_le _, Nat.zero_le _⟩ (Nat.le_of_ble_eq_true rfl) rfl dX0_of_2 ?_
  have t_1 := nI_toInt (n := i) (by omega)
  have b_2 := zb_ins n (nI i).toInt
  refine zk_ifne (tgt := 10) hx hb dX0_of_5 (by decide) (by omega) (fun c_3 => ?_) (fun c_3 => ?_)
  · refine lv_iload_n hx hb dX0_of_10 rfl (lv_at hl 2 rfl) ?_
    rcases (show w.toInt = 0 ∨ w.toInt = 1 ∨ w.toInt = 2 ∨ w.toInt = 3 ∨ w.toInt = 4 ∨ w.toInt = 5 ∨ w.toInt = 6 ∨ w.toInt = 7 ∨ (w.toInt < 0 ∨ 7 < w.toInt) by omega) with w_4 | w_4 | w_4 | w_4 | w_4 | w_4 | w_4 | w_4 | w_4
    · refine lv_tableIn (tgt := 56) (off := 45) hx hb dX0_of_11 (by omega) (by omega) (by rw [w_4]; rfl) (by decide) ?_
      refine lv_aload_n hx hb dX0_of_56 rfl (lv_at hl 0 rfl) ?_
      refine ia_get 1 (v := .ref (ia_h E 1)) hx hb ht hown hO (by decide) rfl zlX0_13 rfl dX0_of_57 ?_
      refine lv_iload_n hx hb dX0_of_60 rfl (lv_at hl 1 rfl) ?_
      refine ia_ild 1 i hx hb hO rfl (by omega) dX0_of_61 ?_
      have b_5 := hg 1 i
      exact ia_iret hx hb hr hlk (by simp [zp_of, w_4]) dX0_of_62
    · refine lv_tableIn (tgt := 63) (off := 52) hx hb dX0_of_11 (by omega) (by omega) (by rw [w_4]; rfl) (by decide) ?_
      refine lv_aload_n hx hb dX0_of_63 rfl (lv_at hl 0 rfl) ?_
      refine ia_get 2 (v := .ref (ia_h E 2)) hx hb ht hown hO (by decide) rfl zlX0_17 rfl dX0_of_64 ?_
      refine lv_iload_n hx hb dX0_of_67 rfl (lv_at hl 1 rfl) ?_
      refine ia_ild 2 i hx hb hO rfl (by omega) dX0_of_68 ?_
      have b_6 := hg 2 i
      exact ia_iret hx hb hr hlk (by simp [zp_of, w_4]) dX0_of_69
    · refine lv_tableIn (tgt := 70) (off := 59) hx hb dX0_of_11 (by omega) (by omega) (by rw [w_4]; rfl) (by decide) ?_
      refine lv_aload_n hx hb dX0_of_70 rfl (lv_at hl 0 rfl) ?_
      refine ia_get 3 (v := .ref (ia_h E 3)) hx hb ht hown hO (by decide) rfl zlX0_20 rfl dX0_of_71 ?_
      refine lv_iload_n hx hb dX0_of_74 rfl (lv_at hl 1 rfl) ?_
      refine ia_ild 3 i hx hb hO rfl (by omega) dX0_of_75 ?_
      have b_7 := hg 3 i
      exact ia_iret hx hb hr hlk (by simp [zp_of, w_4]) dX0_of_76
    · refine lv_tableIn (tgt := 77) (off := 66) hx hb dX0_of_11 (by omega) (by omega) (by rw [w_4]; rfl) (by decide) ?_
      refine lv_aload_n hx hb dX0_of_77 rfl (lv_at hl 0 rfl) ?_
      refine ia_get 4 (v := .ref (ia_h E 4)) hx hb ht hown hO (by decide) rfl zlX0_23 rfl dX0_of_78 ?_
      refine lv_iload_n hx hb dX0_of_81 rfl (lv_at hl 1 rfl) ?_
      refine ia_ild 4 i hx hb hO rfl (by omega) dX0_of_82 ?_
      have b_8 := hg 4 i
      exact ia_iret hx hb hr hlk (by simp [zp_of, w_4]) dX0_of_83
    · refine lv_tableIn (tgt := 84) (off := 73) hx hb dX0_of_11 (by omega) (by omega) (by rw [w_4]; rfl) (by decide) ?_
      refine lv_aload_n hx hb dX0_of_84 rfl (lv_at hl 0 rfl) ?_
      refine ia_get 9 (v := .ref (ia_h E 9)) hx hb ht hown hO (by decide) rfl zlX0_39 rfl dX0_of_85 ?_
      refine lv_iload_n hx hb dX0_of_88 rfl (lv_at hl 1 rfl) ?_
      refine ia_zld 9 i hx hb hO rfl (by omega) dX0_of_89 ?_
      have b_9 := hg 9 i
      refine ia_callS (rest := []) hx hb hml hl.1 hown ht (zc_one l (g 9 i) (by omega)) zgX0_75 zyX0_oneIf rfl ⟨by decide, by decide⟩ ⟨Nat.zero_le _, Nat.zero_le _⟩ (Nat.le_of_ble_eq_true rfl) rfl dX0_of_90 ?_
      have b_10 := zb_one (g 9 i)
      exact ia_iret hx hb hr hlk (by simp [zp_of, w_4]) dX0_of_93
    · refine lv_tableIn (tgt := 94) (off := 83) hx hb dX0_of_11 (by omega) (by omega) (by rw [w_4]; rfl) (by decide) ?_
      refine lv_aload_n hx hb dX0_of_94 rfl (lv_at hl 0 rfl) ?_
      refine ia_get 8 (v := .ref (ia_h E 8)) hx hb ht hown hO (by decide) rfl zlX0_36 rfl dX0_of_95 ?_
      refine lv_iload_n hx hb dX0_of_98 rfl (lv_at hl 1 rfl) ?_
      refine ia_zld 8 i hx hb hO rfl (by omega) dX0_of_99 ?_
      have b_11 := hg 8 i
      refine ia_callS (rest := []) hx hb hml hl.1 hown ht (zc_one l (g 8 i) (by omega)) zgX0_75 zyX0_oneIf rfl ⟨by decide, by decide⟩ ⟨Nat.zero_le _, Nat.zero_le _⟩ (Nat.le_of_ble_eq_true rfl) rfl dX0_of_100 ?_
      have b_12 := zb_one (g 8 i)
      exact ia_iret hx hb hr hlk (by simp [zp_of, w_4]) dX0_of_103
    · refine lv_tableIn (tgt := 104) (off := 93) hx hb dX0_of_11 (by omega) (by omega) (by rw [w_4]; rfl) (by decide) ?_
      refine lv_aload_n hx hb dX0_of_104 rfl (lv_at hl 0 rfl) ?_
      refine lv_iload_n hx hb dX0_of_105 rfl (lv_at hl 1 rfl) ?_
      refine ia_call (rest := []) hx hb hml hl.1 hown ht hO (zc_redir l E n g hg i (by omega)) zgX0_79 zyX0_isRedirected rfl ⟨by decide, by decide⟩ ⟨Nat.zero_le _, Nat.zero_le _⟩ (Nat.le_of_ble_eq_true rfl) rfl dX0_of_106 ?_
      have b_13 := zb_redir g i
      refine ia_callS (rest := []) hx hb hml hl.1 hown ht (zc_one l (zs_redir g i) (by omega)) zgX0_75 zyX0_oneIf rfl ⟨by decide, by decide⟩ ⟨Nat.zero_le _, Nat.zero_le _⟩ (Nat.le_of_ble_eq_true rfl) rfl dX0_of_109 ?_
      have b_14 := zb_one (zs_redir g i)
      exact ia_iret hx hb hr hlk (by simp [zp_of, w_4]) dX0_of_112
    · refine lv_tableIn (tgt := 113) (off := 102) hx hb dX0_of_11 (by omega) (by omega) (by rw [w_4]; rfl) (by decide) ?_
      refine lv_aload_n hx hb dX0_of_113 rfl (lv_at hl 0 rfl) ?_
      refine lv_iload_n hx hb dX0_of_114 rfl (lv_at hl 1 rfl) ?_
      refine ia_call (rest := []) hx hb hml hl.1 hown ht hO (zc_lies l E n g hg i (by omega)) zgX0_82 zyX0_liesBehind rfl ⟨by decide, by decide⟩ ⟨Nat.zero_le _, Nat.zero_le _⟩ (Nat.le_of_ble_eq_true rfl) rfl dX0_of_115 ?_
      have b_15 := zb_lies g i
      refine ia_callS (rest := []) hx hb hml hl.1 hown ht (zc_one l (zs_lies g i) (by omega)) zgX0_75 zyX0_oneIf rfl ⟨by decide, by decide⟩ ⟨Nat.zero_le _, Nat.zero_le _⟩ (Nat.le_of_ble_eq_true rfl) rfl dX0_of_118 ?_
      have b_16 := zb_one (zs_lies g i)
      exact ia_iret hx hb hr hlk (by simp [zp_of, w_4]) dX0_of_121
    · refine lv_tableOut (tgt := 122) hx hb dX0_of_11 (by omega) (by decide) ?_
      refine lv_iconst (v := (-1)) hx hb dX0_of_122 (by decide) ?_
      exact ia_iret hx hb hr hlk (by unfold zp_of; rw [if_neg (by omega), if_neg (by omega), if_neg (by omega), if_neg (by omega), if_neg (by omega), if_neg (by omega), if_neg (by omega), if_neg (by omega)]) dX0_of_123
  · exact absurd (show False from by omega) id
set_option maxHeartbeats 4000000 in
set_option maxRecDepth 100000 in
/-- stage -/
theorem zc_pstage_no (l : Launch) (E : ia_E) (n : Nat) (g : Nat → Nat → Nat) (hg : zs_B g) (x y : Int32) (hn : n ≤ 400) (h0 : ¬ (0 ≤ x.toInt ∧ x.toInt < n) ∨ y.toInt < 0) : ia_R l yX0_stage cX0_stage 3 .int 1 E n g [.int x, .int y] ((-1)) := by
  refine ia_Rof (by decide) rfl (Nat.le_of_ble_eq_true rfl) (fun p e s m args below meth c ls hx hb hr hml hown ht hlk hO hl => ?_)
  have hl : lv_has ls 3 [(0, .ref (ia_h E 0)), (1, .int x), (2, .int y)] := hl
  refine lv_aload_n hx hb dX0_stage_0 rfl (lv_at hl 0 rfl) ?_
  refine lv_iload_n hx hb dX0_stage_1 rfl (lv_at hl 1 rfl) ?_
  refine ia_call (rest := []) hx hb hml hl.1 hown ht hO (zc_ins l E n g x (by omega)) zgX0_65 zyX0_isInstruction rfl ⟨by decide, by decide⟩ ⟨Nat.zero_le _, Nat.zero_le _⟩ (Nat.le_of_ble_eq_true rfl) rfl dX0_stage_2 ?_
  have b_1 := zb_ins n x.toInt
  refine zk_ifeq (tgt := 12) hx hb dX0_stage_5 (by decide) (by omega) (fun c_2 => ?_) (fun c_2 => ?_)
  · refine lv_iconst (v := (-1)) hx hb dX0_stage_12 (by decide) ?_
    exact ia_iret hx hb hr hlk rfl dX0_stage_13
  · refine lv_iload_n hx hb dX0_stage_8 rfl (lv_at hl 2 rfl) ?_
    refine zi_ifge (tgt := 14) hx hb dX0_stage_9 (by decide) (fun c_3 => ?_) (fun c_3 => ?_)
    · exact absurd (show False from by omega) id
    · refine lv_iconst (v := (-1)) hx hb dX0_stage_12 (by decide) ?_
      exact ia_iret hx hb hr hlk rfl dX0_stage_13
set_option maxHeartbeats 4000000 in
set_option maxRecDepth 100000 in
/-- stage -/
theorem zc_pstage (l : Launch) (E : ia_E) (n : Nat) (g : Nat → Nat → Nat) (hg : zs_B g) (i y : Nat) (hn : n ≤ 400) (hi : i < n) (hy : y < 2 ^ 31) : ia_R l yX0_stage cX0_stage 3 .int 1 E n g [.int (nI i), .int (nI y)] (nI (zs_stage g i y)) := by
  refine ia_Rof (by decide) rfl (Nat.le_of_ble_eq_true rfl) (fun p e s m args below meth c ls hx hb hr hml hown ht hlk hO hl => ?_)
  have hl : lv_has ls 3 [(0, .ref (ia_h E 0)), (1, .int (nI i)), (2, .int (nI y))] := hl
  refine lv_aload_n hx hb dX0_stage_0 rfl (lv_at hl 0 rfl) ?_
  refine lv_iload_n hx hb dX0_stage_1 rfl (lv_at hl 1 rfl) ?_
  refine ia_call (rest := []) hx hb hml hl.1 hown ht hO (zc_ins l E n g (nI i) (by omega)) zgX0_65 zyX0_isInstruction rfl ⟨by decide, by decide⟩ ⟨Nat.zero_le _, Nat.zero_le _⟩ (Nat.le_of_ble_eq_true rfl) rfl dX0_stage_2 ?_
  have t_1 := nI_toInt (n := i) (by omega)
  have b_2 := zb_ins n (nI i).toInt
  refine zk_ifeq (tgt := 12) hx hb dX0_stage_5 (by decide) (by omega) (fun c_3 => ?_) (fun c_3 => ?_)
  · exact absurd (show False from by omega) id
  · refine lv_iload_n hx hb dX0_stage_8 rfl (lv_at hl 2 rfl) ?_
    refine zk_ifge (tgt := 14) hx hb dX0_stage_9 (by decide) (by omega) ?_
    refine lv_aload_n hx hb dX0_stage_14 rfl (lv_at hl 0 rfl) ?_
    refine lv_iload_n hx hb dX0_stage_15 rfl (lv_at hl 1 rfl) ?_
    refine lv_iload_n hx hb dX0_stage_16 rfl (lv_at hl 2 rfl) ?_
    refine ia_call (rest := []) hx hb hml hl.1 hown ht hO (zc_stage l E n g hg i y (by omega) (by omega)) zgX0_85 zyX0_stageAt rfl ⟨by decide, by decide⟩ ⟨Nat.zero_le _, Nat.zero_le _⟩ (Nat.le_of_ble_eq_true rfl) rfl dX0_stage_17 ?_
    have b_5 := zb_stage g i y
    exact ia_iret hx hb hr hlk rfl dX0_stage_20
set_option maxHeartbeats 4000000 in
set_option maxRecDepth 100000 in
/-- many -/
theorem zc_pmany_no (l : Launch) (E : ia_E) (n : Nat) (g : Nat → Nat → Nat) (hg : zs_B g) (x y : Int32) (hn : n ≤ 400) (h0 : x.toInt < 0 ∨ 3 < x.toInt ∨ y.toInt < 0) : ia_R l yX0_many cX0_many 5 .int 1 E n g [.int x, .int y] ((-1)) := by
  refine ia_Rof (by decide) rfl (Nat.le_of_ble_eq_true rfl) (fun p e s m args below meth c ls hx hb hr hml hown ht hlk hO hl => ?_)
  have hl : lv_has ls 5 [(0, .ref (ia_h E 0)), (1, .int x), (2, .int y)] := hl
  refine lv_iload_n hx hb dX0_many_0 rfl (lv_at hl 1 rfl) ?_
  refine zi_iflt (tgt := 13) hx hb dX0_many_1 (by decide) (fun c_1 => ?_) (fun c_1 => ?_)
  · refine lv_iconst (v := (-1)) hx hb dX0_many_13 (by decide) ?_
    exact ia_iret hx hb hr hlk rfl dX0_many_14
  · refine lv_iload_n hx hb dX0_many_4 rfl (lv_at hl 1 rfl) ?_
    refine lv_iconst (v := nI 3) hx hb dX0_many_5 (by decide) ?_
    have t_3 := nI_toInt (n := 3) (by omega)
    refine zi_cgt (tgt := 13) hx hb dX0_many_6 (by decide) (fun c_2 => ?_) (fun c_2 => ?_)
    · refine lv_iconst (v := (-1)) hx hb dX0_many_13 (by decide) ?_
      exact ia_iret hx hb hr hlk rfl dX0_many_14
    · refine lv_iload_n hx hb dX0_many_9 rfl (lv_at hl 2 rfl) ?_
      refine zi_ifge (tgt := 15) hx hb dX0_many_10 (by decide) (fun c_4 => ?_) (fun c_4 => ?_)
      · exact absurd (show False from by omega) id
      · refine lv_iconst (v := (-1)) hx hb dX0_many_13 (by decide) ?_
        exact ia_iret hx hb hr hlk rfl dX0_many_14
set_option maxHeartbeats 4000000 in
set_option maxRecDepth 100000 in
/-- many -/
theorem zc_pmany (l : Launch) (E : ia_E) (n : Nat) (g : Nat → Nat → Nat) (hg : zs_B g) (x y : Nat) (hn : n ≤ 400) (hx0 : x ≤ 3) (hy : y < 2 ^ 31) : ia_R l yX0_many cX0_many 5 .int 1 E n g [.int (nI x), .int (nI y)] (nI (zs_many g x y n)) := by
  refine ia_Rof (by decide) rfl (Nat.le_of_ble_eq_true rfl) (fun p e s m args below meth c ls hx hb hr hml hown ht hlk hO hl => ?_)
  have hl : lv_has ls 5 [(0, .ref (ia_h E 0)), (1, .int (nI x)), (2, .int (nI y))] := hl
  refine lv_iload_n hx hb dX0_many_0 rfl (lv_at hl 1 rfl) ?_
  refine zk_iflt (tgt := 13) hx hb dX0_many_1 (by decide) (by omega) ?_
  refine lv_iload_n hx hb dX0_many_4 rfl (lv_at hl 1 rfl) ?_
  refine lv_iconst (v := nI 3) hx hb dX0_many_5 (by decide) ?_
  refine zk_cgt (tgt := 13) hx hb dX0_many_6 (by decide) (by omega) (by omega) (fun c_2 => ?_) (fun c_2 => ?_)
  · exact absurd (show False from by omega) id
  · refine lv_iload_n hx hb dX0_many_9 rfl (lv_at hl 2 rfl) ?_
    refine zk_ifge (tgt := 15) hx hb dX0_many_10 (by decide) (by omega) ?_
    refine lv_iconst (v := nI 0) hx hb dX0_many_15 (by decide) ?_
    refine lv_istore_n (lv' := [(3, .int (nI 0)), (0, .ref (ia_h E 0)), (1, .int (nI x)), (2, .int (nI y))]) hx hb dX0_many_16 rfl hl (by decide) rfl (fun ls hl => ?_)
    refine lv_iconst (v := nI 0) hx hb dX0_many_17 (by decide) ?_
    refine lv_istore (lv' := [(4, .int (nI 0)), (3, .int (nI 0)), (0, .ref (ia_h E 0)), (1, .int (nI x)), (2, .int (nI y))]) hx hb dX0_many_18 hl (by decide) rfl (fun ls hl => ?_)
    refine zk_up (nL := 5) (pcH := 20) 0 n (fun _ => True) (fun k => [(3, .int (nI (zs_many g x y k))), (4, .int (nI k)), (0, .ref (ia_h E 0)), (1, .int (nI x)), (2, .int (nI y))]) ?_ ?_ n 0 (Nat.le_refl _) (by omega) trivial ls (lv_sub hl [1, 0, 2, 3, 4] rfl)
    · intro _ ls hl
      have hl : lv_has ls 5 [(3, .int (nI (zs_many g x y n))), (4, .int (nI n)), (0, .ref (ia_h E 0)), (1, .int (nI x)), (2, .int (nI y))] := hl
      refine lv_iload hx hb dX0_many_20 (lv_at hl 1 rfl) ?_
      refine lv_aload_n hx hb dX0_many_22 rfl (lv_at hl 2 rfl) ?_
      refine ia_get 0 (v := .int (nI n)) hx hb ht hown hO (by decide) rfl zlX0_7 rfl dX0_many_23 ?_
      refine zk_cge (tgt := 49) hx hb dX0_many_26 (by decide) (by omega) (by omega) (fun c_4 => ?_) (fun c_4 => ?_)
      · refine lv_iload_n hx hb dX0_many_49 rfl (lv_at hl 0 rfl) ?_
        exact ia_iret hx hb hr hlk rfl dX0_many_50
      · exact absurd (show False from by omega) id
    · intro k hk0 hk ih _ ls hl
      have hl : lv_has ls 5 [(3, .int (nI (zs_many g x y k))), (4, .int (nI k)), (0, .ref (ia_h E 0)), (1, .int (nI x)), (2, .int (nI y))] := hl
      have e1 : (zs_stage g k y = x → zs_many g x y (k + 1) = zs_many g x y k + 1) ∧ (¬ zs_stage g k y = x → zs_many g x y (k + 1) = zs_many g x y k + 0) := ⟨fun h => congrArg (fun z => zs_many g x y k + z) (if_pos h), fun h => congrArg (fun z => zs_many g x y k + z) (if_neg h)⟩
      have e2 := zb_many g x y k
      refine lv_iload hx hb dX0_many_20 (lv_at hl 1 rfl) ?_
      refine lv_aload_n hx hb dX0_many_22 rfl (lv_at hl 2 rfl) ?_
      refine ia_get 0 (v := .int (nI n)) hx hb ht hown hO (by decide) rfl zlX0_7 rfl dX0_many_23 ?_
      refine zk_cge (tgt := 49) hx hb dX0_many_26 (by decide) (by omega) (by omega) (fun c_5 => ?_) (fun c_5 => ?_)
      · exact absurd (show False from by omega) id
      · refine lv_aload_n hx hb dX0_many_29 rfl (lv_at hl 2 rfl) ?_
        refine lv_iload hx hb dX0_many_30 (lv_at hl 1 rfl) ?_
        refine lv_iload_n hx hb dX0_many_32 rfl (lv_at hl 4 rfl) ?_
        refine ia_call (rest := []) hx hb hml hl.1 hown ht hO (zc_stage l E n g hg k y (by omega) (by omega)) zgX0_85 zyX0_stageAt rfl ⟨by decide, by decide⟩ ⟨Nat.zero_le _, Nat.zero_le _⟩ (Nat.le_of_ble_eq_true rfl) rfl dX0_many_33 ?_
        have b_6 := zb_stage g k y
        refine lv_iload_n hx hb dX0_many_36 rfl (lv_at hl 3 rfl) ?_
        refine zk_cne (tgt := 43) hx hb dX0_many_37 (by decide) (by omega) (by omega) (fun c_7 => ?_) (fun c_7 => ?_)
        · refine lv_iinc (v := nI (k + 1)) (lv' := [(4, .int (nI (k + 1))), (3, .int (nI (zs_many g x y k))), (0, .ref (ia_h E 0)), (1, .int (nI x)), (2, .int (nI y))]) hx hb dX0_many_43 hl (k := 1) rfl (zk_inc k) (by decide) rfl (fun ls hl => ?_)
          refine lv_goto (tgt := 20) hx hb dX0_many_46 (by decide) ?_
          have e9 : zs_many g x y k = zs_many g x y (k + 1) := by omega
          rw [e9] at hl
          exact ih trivial ls (lv_sub hl [1, 0, 2, 3, 4] rfl)
        · refine lv_iinc (v := nI ((zs_many g x y k) + 1)) (lv' := [(3, .int (nI ((zs_many g x y k) + 1))), (4, .int (nI k)), (0, .ref (ia_h E 0)), (1, .int (nI x)), (2, .int (nI y))]) hx hb dX0_many_40 hl (k := 0) rfl (zk_inc (zs_many g x y k)) (by decide) rfl (fun ls hl => ?_)
          refine lv_iinc (v := nI (k + 1)) (lv' := [(4, .int (nI (k + 1))), (3, .int (nI ((zs_many g x y k) + 1))), (0, .ref (ia_h E 0)), (1, .int (nI x)), (2, .int (nI y))]) hx hb dX0_many_43 hl (k := 1) rfl (zk_inc k) (by decide) rfl (fun ls hl => ?_)
          refine lv_goto (tgt := 20) hx hb dX0_many_46 (by decide) ?_
          have e9 : (zs_many g x y k) + 1 = zs_many g x y (k + 1) := by omega
          rw [e9] at hl
          exact ih trivial ls (lv_sub hl [1, 0, 2, 3, 4] rfl)
set_option maxHeartbeats 4000000 in
set_option maxRecDepth 100000 in
/-- doneBefore -/
theorem zc_dbef2 (l : Launch) (E : ia_E) (n : Nat) (g : Nat → Nat → Nat) (hg : zs_B g) (i : Nat) (hi : i ≤ 400) : ia_R l yX0_doneBefore cX0_doneBefore 2 .int 0 E n g [.int (nI i)] (nI (zs_dbef g i)) := by
  refine ia_Rof (by decide) rfl (Nat.le_of_ble_eq_true rfl) (fun p e s m args below meth c ls hx hb hr hml hown ht hlk hO hl => ?_)
  have hl : lv_has ls 2 [(0, .ref (ia_h E 0)), (1, .int (nI i))] := hl
  refine lv_iload_n hx hb dX0_doneBefore_0 rfl (lv_at hl 1 rfl) ?_
  refine zk_ifle (tgt := 15) hx hb dX0_doneBefore_1 (by decide) (by omega) (fun c_1 => ?_) (fun c_1 => ?_)
  · refine lv_iconst (v := nI 0) hx hb dX0_doneBefore_15 (by decide) ?_
    exact ia_iret hx hb hr hlk (congrArg nI (show 0 = zs_dbef g i from by unfold zs_dbef; (repeat' split) <;> omega)) dX0_doneBefore_16
  · refine lv_aload_n hx hb dX0_doneBefore_4 rfl (lv_at hl 0 rfl) ?_
    refine ia_get 13 (v := .ref (ia_h E 13)) hx hb ht hown hO (by decide) rfl zlX0_51 rfl dX0_doneBefore_5 ?_
    refine lv_iload_n hx hb dX0_doneBefore_8 rfl (lv_at hl 1 rfl) ?_
    refine lv_iconst (v := nI 1) hx hb dX0_doneBefore_9 (by decide) ?_
    refine zk_sub hx hb (by omega) dX0_doneBefore_10 ?_
    refine ia_ild 13 (i - 1) hx hb hO rfl (by omega) dX0_doneBefore_11 ?_
    have b_2 := hg 13 (i - 1)
    refine lv_goto (tgt := 16) hx hb dX0_doneBefore_12 (by decide) ?_
    exact ia_iret hx hb hr hlk (congrArg nI (show g 13 (i - 1) = zs_dbef g i from by unfold zs_dbef; (repeat' split) <;> omega)) dX0_doneBefore_16
set_option maxHeartbeats 4000000 in
set_option maxRecDepth 100000 in
/-- look -/
theorem zc_plook (l : Launch) (E : ia_E) (n : Nat) (g : Nat → Nat → Nat) (hg : zs_B g) (w : Int32) (hn : n ≤ 400) (hm : ∀ k, k < n → zs_dbef g k ≤ g 13 k) : ia_R l yX0_look cX0_look 2 .int 2 E n g [.int w] (zp_look g n w.toInt) := by
  refine ia_Rof (by decide) rfl (Nat.le_of_ble_eq_true rfl) (fun p e s m args below meth c ls hx hb hr hml hown ht hlk hO hl => ?_)
  have hl : lv_has ls 2 [(0, .ref (ia_h E 0)), (1, .int w)] := hl
  refine lv_iload_n hx hb dX0_look_0 rfl (lv_at hl 1 rfl) ?_
  rcases (show w.toInt = 0 ∨ w.toInt = 1 ∨ w.toInt = 2 ∨ w.toInt = 3 ∨ w.toInt = 4 ∨ w.toInt = 5 ∨ w.toInt = 6 ∨ (w.toInt < 0 ∨ 6 < w.toInt) by omega) with w_1 | w_1 | w_1 | w_1 | w_1 | w_1 | w_1 | w_1
  · refine lv_tableIn (tgt := 44) (off := 43) hx hb dX0_look_1 (by omega) (by omega) (by rw [w_1]; rfl) (by decide) ?_
    refine lv_aload_n hx hb dX0_look_44 rfl (lv_at hl 0 rfl) ?_
    refine ia_get 0 (v := .int (nI n)) hx hb ht hown hO (by decide) rfl zlX0_7 rfl dX0_look_45 ?_
    exact ia_iret hx hb hr hlk (by simp [zp_look, w_1]) dX0_look_48
  · refine lv_tableIn (tgt := 49) (off := 48) hx hb dX0_look_1 (by omega) (by omega) (by rw [w_1]; rfl) (by decide) ?_
    refine lv_aload_n hx hb dX0_look_49 rfl (lv_at hl 0 rfl) ?_
    refine lv_aload_n hx hb dX0_look_50 rfl (lv_at hl 0 rfl) ?_
    refine ia_get 0 (v := .int (nI n)) hx hb ht hown hO (by decide) rfl zlX0_7 rfl dX0_look_51 ?_
    refine ia_call (rest := []) hx hb hml hl.1 hown ht hO (zc_dbef2 l E n g hg n (by omega)) zgX0_89 zyX0_doneBefore rfl ⟨by decide, by decide⟩ ⟨Nat.zero_le _, Nat.zero_le _⟩ (Nat.le_of_ble_eq_true rfl) rfl dX0_look_54 ?_
    have b_2 := zb_dbef hg n
    exact ia_iret hx hb hr hlk (by simp [zp_look, w_1]) dX0_look_57
  · refine lv_tableIn (tgt := 58) (off := 57) hx hb dX0_look_1 (by omega) (by omega) (by rw [w_1]; rfl) (by decide) ?_
    refine lv_aload_n hx hb dX0_look_58 rfl (lv_at hl 0 rfl) ?_
    refine ia_call (rest := []) hx hb hml hl.1 hown ht hO (zc_two l E n g hg (by omega)) zgX0_92 zyX0_cyclesWithTwoDone rfl ⟨by decide, by decide⟩ ⟨Nat.zero_le _, Nat.zero_le _⟩ (Nat.le_of_ble_eq_true rfl) rfl dX0_look_59 ?_
    exact ia_iret hx hb hr hlk (by simp [zp_look, w_1]) dX0_look_62
  · refine lv_tableIn (tgt := 63) (off := 62) hx hb dX0_look_1 (by omega) (by omega) (by rw [w_1]; rfl) (by decide) ?_
    refine lv_aload_n hx hb dX0_look_63 rfl (lv_at hl 0 rfl) ?_
    refine ia_call (rest := []) hx hb hml hl.1 hown ht hO (zc_long l E n g hg (by omega) hm) zgX0_96 zyX0_longestWayBetweenDone rfl ⟨by decide, by decide⟩ ⟨Nat.zero_le _, Nat.zero_le _⟩ (Nat.le_of_ble_eq_true rfl) rfl dX0_look_64 ?_
    exact ia_iret hx hb hr hlk (by simp [zp_look, w_1]) dX0_look_67
  · refine lv_tableIn (tgt := 68) (off := 67) hx hb dX0_look_1 (by omega) (by omega) (by rw [w_1]; rfl) (by decide) ?_
    refine lv_aload_n hx hb dX0_look_68 rfl (lv_at hl 0 rfl) ?_
    refine ia_call (rest := []) hx hb hml hl.1 hown ht hO (zc_groups l E n g hg (by omega)) zgX0_99 zyX0_groups rfl ⟨by decide, by decide⟩ ⟨Nat.zero_le _, Nat.zero_le _⟩ (Nat.le_of_ble_eq_true rfl) rfl dX0_look_69 ?_
    exact ia_iret hx hb hr hlk (by simp [zp_look, w_1]) dX0_look_72
  · refine lv_tableIn (tgt := 73) (off := 72) hx hb dX0_look_1 (by omega) (by omega) (by rw [w_1]; rfl) (by decide) ?_
    refine lv_aload_n hx hb dX0_look_73 rfl (lv_at hl 0 rfl) ?_
    refine ia_call (rest := []) hx hb hml hl.1 hown ht hO (zc_pairs l E n g hg (by omega)) zgX0_102 zyX0_pairsIssuedAtOnce rfl ⟨by decide, by decide⟩ ⟨Nat.zero_le _, Nat.zero_le _⟩ (Nat.le_of_ble_eq_true rfl) rfl dX0_look_74 ?_
    exact ia_iret hx hb hr hlk (by simp [zp_look, w_1]) dX0_look_77
  · refine lv_tableIn (tgt := 78) (off := 77) hx hb dX0_look_1 (by omega) (by omega) (by rw [w_1]; rfl) (by decide) ?_
    refine lv_aload_n hx hb dX0_look_78 rfl (lv_at hl 0 rfl) ?_
    refine ia_call (rest := []) hx hb hml hl.1 hown ht hO (zc_most l E n g hg (by omega)) zgX0_105 zyX0_mostAtWork rfl ⟨by decide, by decide⟩ ⟨Nat.zero_le _, Nat.zero_le _⟩ (Nat.le_of_ble_eq_true rfl) rfl dX0_look_79 ?_
    exact ia_iret hx hb hr hlk (by simp [zp_look, w_1]) dX0_look_82
  · refine lv_tableOut (tgt := 83) hx hb dX0_look_1 (by omega) (by decide) ?_
    refine lv_iconst (v := (-1)) hx hb dX0_look_83 (by decide) ?_
    exact ia_iret hx hb hr hlk (by unfold zp_look; rw [if_neg (by omega), if_neg (by omega), if_neg (by omega), if_neg (by omega), if_neg (by omega), if_neg (by omega), if_neg (by omega)]) dX0_look_84
end
section
set_option maxHeartbeats 4000000 in
set_option maxRecDepth 100000 in
/-- settle -/
theorem zc_settle (l : Launch) (E : ia_E) (n : Nat) (g : Nat → Nat → Nat) (hg : zs_B g) (i : Nat) (hi : i < 400) (sz : Nat) : ia_V l yX0_settle cX0_settle 2 4 E n g sz [.int (nI i)] (n) (zs_settle g i) := by
  refine ia_Vof (by decide) rfl (Nat.le_of_ble_eq_true rfl) (fun p e s m args below meth c ls A hx hb hr hml hown ht hlk hA hO hD hS hl => ?_)
  have hl : lv_has ls 2 [(0, .ref (ia_h E 0)), (1, .int (nI i))] := hl
  refine lv_aload_n hx hb dX0_settle_0 rfl (lv_at hl 0 rfl) ?_
  refine ia_get 8 (v := .ref (ia_h E 8)) hx hb ht hown hO (by decide) rfl zlX0_36 rfl dX0_settle_1 ?_
  refine lv_iload_n hx hb dX0_settle_4 rfl (lv_at hl 1 rfl) ?_
  refine zk_cut (nL := 2) 37 (fun v_1 => v_1 = zs_slot g i) (fun v_1 => [(0, .ref (ia_h E 0)), (1, .int (nI i))]) (fun v_1 => [.int (nI v_1), .int (nI i), .ref (ia_h E 8)]) (fun v_1 ls e_2 hl => ?_) (fun J_3 => ?_)
  · have e_2 : v_1 = zs_slot g i := e_2
    have hl : lv_has ls 2 [(0, .ref (ia_h E 0)), (1, .int (nI i))] := hl
    have bz_1 := zb_slot g i
    refine ia_zst 8 i v_1 hx hb hO hD hS rfl (ia_set8 E n g i v_1) (by omega) (by omega) dX0_settle_37 (fun H locs hO hD hS => ?_)
    have hg_4 : zs_B (ia_up g 8 i v_1) := zs_B_up hg (by omega)
    obtain ⟨g_4, eg_4⟩ : ∃ z, z = ia_up g 8 i v_1 := ⟨_, rfl⟩
    rw [← eg_4] at hO hD hg_4
    have fg_4 : g_4 8 i = v_1 := by rw [eg_4]; simp [ia_up]
    refine lv_aload_n hx hb dX0_settle_38 rfl (lv_at hl 0 rfl) ?_
    refine ia_get 9 (v := .ref (ia_h E 9)) hx hb ht hown hO (by decide) rfl zlX0_39 rfl dX0_settle_39 ?_
    refine lv_iload_n hx hb dX0_settle_42 rfl (lv_at hl 1 rfl) ?_
    refine zk_cut (nL := 2) 87 (fun v_5 => v_5 = zs_fail g_4 i) (fun v_5 => [(0, .ref (ia_h E 0)), (1, .int (nI i))]) (fun v_5 => [.int (nI v_5), .int (nI i), .ref (ia_h E 9)]) (fun v_5 ls e_6 hl => ?_) (fun J_7 => ?_)
    · have e_6 : v_5 = zs_fail g_4 i := e_6
      have hl : lv_has ls 2 [(0, .ref (ia_h E 0)), (1, .int (nI i))] := hl
      have bz_2 := zb_fail g_4 i
      refine ia_zst 9 i v_5 hx hb hO hD hS rfl (ia_set9 E n g_4 i v_5) (by omega) (by omega) dX0_settle_87 (fun H locs hO hD hS => ?_)
      have hg_8 : zs_B (ia_up g_4 9 i v_5) := zs_B_up hg_4 (by omega)
      obtain ⟨g_8, eg_8⟩ : ∃ z, z = ia_up g_4 9 i v_5 := ⟨_, rfl⟩
      rw [← eg_8] at hO hD hg_8
      have fg_8 : g_8 9 i = v_5 := by rw [eg_8]; simp [ia_up]
      refine lv_aload_n hx hb dX0_settle_88 rfl (lv_at hl 0 rfl) ?_
      refine ia_get 10 (v := .ref (ia_h E 10)) hx hb ht hown hO (by decide) rfl zlX0_42 rfl dX0_settle_89 ?_
      refine lv_iload_n hx hb dX0_settle_92 rfl (lv_at hl 1 rfl) ?_
      refine zk_cut (nL := 2) 106 (fun v_9 => v_9 = zs_begin g_8 i) (fun v_9 => [(0, .ref (ia_h E 0)), (1, .int (nI i))]) (fun v_9 => [.int (nI v_9), .int (nI i), .ref (ia_h E 10)]) (fun v_9 ls e_10 hl => ?_) (fun J_11 => ?_)
      · have e_10 : v_9 = zs_begin g_8 i := e_10
        have hl : lv_has ls 2 [(0, .ref (ia_h E 0)), (1, .int (nI i))] := hl
        have bz_3 := zb_begin g_8 i
        refine ia_zst 10 i v_9 hx hb hO hD hS rfl (ia_set10 E n g_8 i v_9) (by omega) (by omega) dX0_settle_106 (fun H locs hO hD hS => ?_)
        have hg_12 : zs_B (ia_up g_8 10 i v_9) := zs_B_up hg_8 (by omega)
        obtain ⟨g_12, eg_12⟩ : ∃ z, z = ia_up g_8 10 i v_9 := ⟨_, rfl⟩
        rw [← eg_12] at hO hD hg_12
        have fg_12 : g_12 10 i = v_9 := by rw [eg_12]; simp [ia_up]
        refine lv_aload_n hx hb dX0_settle_107 rfl (lv_at hl 0 rfl) ?_
        refine ia_get 11 (v := .ref (ia_h E 11)) hx hb ht hown hO (by decide) rfl zlX0_45 rfl dX0_settle_108 ?_
        refine lv_iload_n hx hb dX0_settle_111 rfl (lv_at hl 1 rfl) ?_
        refine lv_aload_n hx hb dX0_settle_112 rfl (lv_at hl 0 rfl) ?_
        refine lv_iload_n hx hb dX0_settle_113 rfl (lv_at hl 1 rfl) ?_
        refine ia_call (rest := [.int (nI i), .ref (ia_h E 11)]) hx hb hml hl.1 hown ht hO (zc_fetch l E n g_12 hg_12 i (by omega)) zgX0_115 zyX0_leastFetchTime rfl ⟨by decide, by decide⟩ ⟨Nat.zero_le _, Nat.zero_le _⟩ (Nat.le_of_ble_eq_true rfl) rfl dX0_settle_114 ?_
        have b_13 := zb_fetch hg_12 i
        refine ia_ist 11 i (zs_fetch g_12 i) hx hb hO hD hS rfl (ia_set11 E n g_12 i (zs_fetch g_12 i)) (by omega) dX0_settle_117 (fun H locs hO hD hS => ?_)
        have hg_14 : zs_B (ia_up g_12 11 i (zs_fetch g_12 i)) := zs_B_up hg_12 (by omega)
        obtain ⟨g_14, eg_14⟩ : ∃ z, z = ia_up g_12 11 i (zs_fetch g_12 i) := ⟨_, rfl⟩
        rw [← eg_14] at hO hD hg_14
        have fg_14 : g_14 11 i = zs_fetch g_12 i := by rw [eg_14]; simp [ia_up]
        refine lv_aload_n hx hb dX0_settle_118 rfl (lv_at hl 0 rfl) ?_
        refine ia_get 12 (v := .ref (ia_h E 12)) hx hb ht hown hO (by decide) rfl zlX0_48 rfl dX0_settle_119 ?_
        refine lv_iload_n hx hb dX0_settle_122 rfl (lv_at hl 1 rfl) ?_
        refine lv_aload_n hx hb dX0_settle_123 rfl (lv_at hl 0 rfl) ?_
        refine lv_iload_n hx hb dX0_settle_124 rfl (lv_at hl 1 rfl) ?_
        refine ia_call (rest := [.int (nI i), .ref (ia_h E 12)]) hx hb hml hl.1 hown ht hO (zc_issue l E n g_14 hg_14 i (by omega)) zgX0_118 zyX0_leastIssueTime rfl ⟨by decide, by decide⟩ ⟨Nat.zero_le _, Nat.zero_le _⟩ (Nat.le_of_ble_eq_true rfl) rfl dX0_settle_125 ?_
        have b_15 := zb_issue hg_14 i (by omega)
        refine ia_ist 12 i (zs_issue g_14 i) hx hb hO hD hS rfl (ia_set12 E n g_14 i (zs_issue g_14 i)) (by omega) dX0_settle_128 (fun H locs hO hD hS => ?_)
        have hg_16 : zs_B (ia_up g_14 12 i (zs_issue g_14 i)) := zs_B_up hg_14 (by omega)
        obtain ⟨g_16, eg_16⟩ : ∃ z, z = ia_up g_14 12 i (zs_issue g_14 i) := ⟨_, rfl⟩
        rw [← eg_16] at hO hD hg_16
        have fg_16 : g_16 12 i = zs_issue g_14 i := by rw [eg_16]; simp [ia_up]
        refine lv_aload_n hx hb dX0_settle_129 rfl (lv_at hl 0 rfl) ?_
        refine ia_get 13 (v := .ref (ia_h E 13)) hx hb ht hown hO (by decide) rfl zlX0_51 rfl dX0_settle_130 ?_
        refine lv_iload_n hx hb dX0_settle_133 rfl (lv_at hl 1 rfl) ?_
        refine lv_aload_n hx hb dX0_settle_134 rfl (lv_at hl 0 rfl) ?_
        refine lv_iload_n hx hb dX0_settle_135 rfl (lv_at hl 1 rfl) ?_
        refine ia_call (rest := [.int (nI i), .ref (ia_h E 13)]) hx hb hml hl.1 hown ht hO (zc_done l E n g_16 hg_16 i (by omega)) zgX0_121 zyX0_leastDoneTime rfl ⟨by decide, by decide⟩ ⟨Nat.zero_le _, Nat.zero_le _⟩ (Nat.le_of_ble_eq_true rfl) rfl dX0_settle_136 ?_
        have b_17 := zb_done hg_16 i (by omega)
        refine ia_ist 13 i (zs_done g_16 i) hx hb hO hD hS rfl (ia_set13 E n g_16 i (zs_done g_16 i)) (by omega) dX0_settle_139 (fun H locs hO hD hS => ?_)
        have hg_18 : zs_B (ia_up g_16 13 i (zs_done g_16 i)) := zs_B_up hg_16 (by omega)
        obtain ⟨g_18, eg_18⟩ : ∃ z, z = ia_up g_16 13 i (zs_done g_16 i) := ⟨_, rfl⟩
        rw [← eg_18] at hO hD hg_18
        have fg_18 : g_18 13 i = zs_done g_16 i := by rw [eg_18]; simp [ia_up]
        exact ia_vret hx hb hr hlk hO hD hS (by subst eg_18 eg_16 eg_14 eg_12 eg_8 eg_4; subst e_2 e_6 e_10; rfl) dX0_settle_140
      · refine lv_aload_n hx hb dX0_settle_93 rfl (lv_at hl 0 rfl) ?_
        refine lv_iload_n hx hb dX0_settle_94 rfl (lv_at hl 1 rfl) ?_
        refine ia_call (rest := [.int (nI i), .ref (ia_h E 10)]) hx hb hml hl.1 hown ht hO (zc_joins l E n g_8 hg_8 i (by omega)) zgX0_112 zyX0_joinsGroup rfl ⟨by decide, by decide⟩ ⟨Nat.zero_le _, Nat.zero_le _⟩ (Nat.le_of_ble_eq_true rfl) rfl dX0_settle_95 ?_
        have b_19 := zb_joins g_8 i
        refine zk_ifne (tgt := 105) hx hb dX0_settle_98 (by decide) (by omega) (fun c_20 => ?_) (fun c_20 => ?_)
        · refine lv_iconst (v := nI 0) hx hb dX0_settle_105 (by decide) ?_
          exact J_11 0 ls (show 0 = zs_begin g_8 i from by unfold zs_begin; (repeat' split) <;> omega) (lv_sub hl [0, 1] rfl)
        · refine lv_iconst (v := nI 1) hx hb dX0_settle_101 (by decide) ?_
          refine lv_goto (tgt := 106) hx hb dX0_settle_102 (by decide) ?_
          exact J_11 1 ls (show 1 = zs_begin g_8 i from by unfold zs_begin; (repeat' split) <;> omega) (lv_sub hl [0, 1] rfl)
    · refine lv_aload_n hx hb dX0_settle_43 rfl (lv_at hl 0 rfl) ?_
      refine ia_get 7 (v := .ref (ia_h E 7)) hx hb ht hown hO (by decide) rfl zlX0_33 rfl dX0_settle_44 ?_
      refine lv_iload_n hx hb dX0_settle_47 rfl (lv_at hl 1 rfl) ?_
      refine ia_zld 7 i hx hb hO rfl (by omega) dX0_settle_48 ?_
      have b_21 := hg_4 7 i
      refine zk_ifne (tgt := 82) hx hb dX0_settle_49 (by decide) (by omega) (fun c_22 => ?_) (fun c_22 => ?_)
      · refine lv_iconst (v := nI 1) hx hb dX0_settle_82 (by decide) ?_
        refine lv_goto (tgt := 87) hx hb dX0_settle_83 (by decide) ?_
        exact J_7 1 ls (show 1 = zs_fail g_4 i from by unfold zs_fail; (repeat' split) <;> omega) (lv_sub hl [0, 1] rfl)
      · refine lv_aload_n hx hb dX0_settle_52 rfl (lv_at hl 0 rfl) ?_
        refine ia_get 1 (v := .ref (ia_h E 1)) hx hb ht hown hO (by decide) rfl zlX0_13 rfl dX0_settle_53 ?_
        refine lv_iload_n hx hb dX0_settle_56 rfl (lv_at hl 1 rfl) ?_
        refine ia_ild 1 i hx hb hO rfl (by omega) dX0_settle_57 ?_
        have b_23 := hg_4 1 i
        refine lv_bipush (v := nI 7) hx hb dX0_settle_58 (by decide) ?_
        refine zk_ceq (tgt := 82) hx hb dX0_settle_60 (by decide) (by omega) (by omega) (fun c_24 => ?_) (fun c_24 => ?_)
        · refine lv_iconst (v := nI 1) hx hb dX0_settle_82 (by decide) ?_
          refine lv_goto (tgt := 87) hx hb dX0_settle_83 (by decide) ?_
          exact J_7 1 ls (show 1 = zs_fail g_4 i from by unfold zs_fail; (repeat' split) <;> omega) (lv_sub hl [0, 1] rfl)
        · refine lv_aload_n hx hb dX0_settle_63 rfl (lv_at hl 0 rfl) ?_
          refine ia_get 1 (v := .ref (ia_h E 1)) hx hb ht hown hO (by decide) rfl zlX0_13 rfl dX0_settle_64 ?_
          refine lv_iload_n hx hb dX0_settle_67 rfl (lv_at hl 1 rfl) ?_
          refine ia_ild 1 i hx hb hO rfl (by omega) dX0_settle_68 ?_
          have b_25 := hg_4 1 i
          refine lv_iconst (v := nI 5) hx hb dX0_settle_69 (by decide) ?_
          refine zk_cne (tgt := 86) hx hb dX0_settle_70 (by decide) (by omega) (by omega) (fun c_26 => ?_) (fun c_26 => ?_)
          · refine lv_iconst (v := nI 0) hx hb dX0_settle_86 (by decide) ?_
            exact J_7 0 ls (show 0 = zs_fail g_4 i from by unfold zs_fail; (repeat' split) <;> omega) (lv_sub hl [0, 1] rfl)
          · refine lv_aload_n hx hb dX0_settle_73 rfl (lv_at hl 0 rfl) ?_
            refine ia_get 8 (v := .ref (ia_h E 8)) hx hb ht hown hO (by decide) rfl zlX0_36 rfl dX0_settle_74 ?_
            refine lv_iload_n hx hb dX0_settle_77 rfl (lv_at hl 1 rfl) ?_
            refine ia_zld 8 i hx hb hO rfl (by omega) dX0_settle_78 ?_
            have b_27 := hg_4 8 i
            refine zk_ifeq (tgt := 86) hx hb dX0_settle_79 (by decide) (by omega) (fun c_28 => ?_) (fun c_28 => ?_)
            · refine lv_iconst (v := nI 0) hx hb dX0_settle_86 (by decide) ?_
              exact J_7 0 ls (show 0 = zs_fail g_4 i from by unfold zs_fail; (repeat' split) <;> omega) (lv_sub hl [0, 1] rfl)
            · refine lv_iconst (v := nI 1) hx hb dX0_settle_82 (by decide) ?_
              refine lv_goto (tgt := 87) hx hb dX0_settle_83 (by decide) ?_
              exact J_7 1 ls (show 1 = zs_fail g_4 i from by unfold zs_fail; (repeat' split) <;> omega) (lv_sub hl [0, 1] rfl)
  · refine lv_iload_n hx hb dX0_settle_5 rfl (lv_at hl 1 rfl) ?_
    refine zk_ifle (tgt := 36) hx hb dX0_settle_6 (by decide) (by omega) (fun c_29 => ?_) (fun c_29 => ?_)
    · refine lv_iconst (v := nI 0) hx hb dX0_settle_36 (by decide) ?_
      exact J_3 0 ls (show 0 = zs_slot g i from by unfold zs_slot; (repeat' split) <;> omega) (lv_sub hl [0, 1] rfl)
    · refine lv_aload_n hx hb dX0_settle_9 rfl (lv_at hl 0 rfl) ?_
      refine ia_get 1 (v := .ref (ia_h E 1)) hx hb ht hown hO (by decide) rfl zlX0_13 rfl dX0_settle_10 ?_
      refine lv_iload_n hx hb dX0_settle_13 rfl (lv_at hl 1 rfl) ?_
      refine lv_iconst (v := nI 1) hx hb dX0_settle_14 (by decide) ?_
      refine zk_sub hx hb (by omega) dX0_settle_15 ?_
      refine ia_ild 1 (i - 1) hx hb hO rfl (by omega) dX0_settle_16 ?_
      have b_30 := hg 1 (i - 1)
      refine lv_iconst (v := nI 5) hx hb dX0_settle_17 (by decide) ?_
      refine zk_cne (tgt := 36) hx hb dX0_settle_18 (by decide) (by omega) (by omega) (fun c_31 => ?_) (fun c_31 => ?_)
      · refine lv_iconst (v := nI 0) hx hb dX0_settle_36 (by decide) ?_
        exact J_3 0 ls (show 0 = zs_slot g i from by unfold zs_slot; (repeat' split) <;> omega) (lv_sub hl [0, 1] rfl)
      · refine lv_aload_n hx hb dX0_settle_21 rfl (lv_at hl 0 rfl) ?_
        refine ia_get 9 (v := .ref (ia_h E 9)) hx hb ht hown hO (by decide) rfl zlX0_39 rfl dX0_settle_22 ?_
        refine lv_iload_n hx hb dX0_settle_25 rfl (lv_at hl 1 rfl) ?_
        refine lv_iconst (v := nI 1) hx hb dX0_settle_26 (by decide) ?_
        refine zk_sub hx hb (by omega) dX0_settle_27 ?_
        refine ia_zld 9 (i - 1) hx hb hO rfl (by omega) dX0_settle_28 ?_
        have b_32 := hg 9 (i - 1)
        refine zk_ifne (tgt := 36) hx hb dX0_settle_29 (by decide) (by omega) (fun c_33 => ?_) (fun c_33 => ?_)
        · refine lv_iconst (v := nI 0) hx hb dX0_settle_36 (by decide) ?_
          exact J_3 0 ls (show 0 = zs_slot g i from by unfold zs_slot; (repeat' split) <;> omega) (lv_sub hl [0, 1] rfl)
        · refine lv_iconst (v := nI 1) hx hb dX0_settle_32 (by decide) ?_
          refine lv_goto (tgt := 37) hx hb dX0_settle_33 (by decide) ?_
          exact J_3 1 ls (show 1 = zs_slot g i from by unfold zs_slot; (repeat' split) <;> omega) (lv_sub hl [0, 1] rfl)
set_option maxHeartbeats 4000000 in
set_option maxRecDepth 100000 in
/-- append -/
theorem zc_append (l : Launch) (E : ia_E) (n : Nat) (g : Nat → Nat → Nat) (hg : zs_B g) (k d a b f go : Nat) (hn : n < 400) (hk : k ≤ 7 ∧ d ≤ 31 ∧ a ≤ 31 ∧ b ≤ 31) (hf : f ≤ 2 ∧ go ≤ 1) (sz : Nat) : ia_M l yX0_append cX0_append 8 .int 5 E n g sz [.int (nI k), .int (nI d), .int (nI a), .int (nI b), .int (nI f), .int (nI go)] (nI n) (n + 1) (zs_append g n k d a b f go) := by
  refine ia_Mof (by decide) rfl (Nat.le_of_ble_eq_true rfl) (fun p e s m args below meth c ls A hx hb hr hml hown ht hlk hA hO hD hS hl => ?_)
  have hl : lv_has ls 8 [(0, .ref (ia_h E 0)), (1, .int (nI k)), (2, .int (nI d)), (3, .int (nI a)), (4, .int (nI b)), (5, .int (nI f)), (6, .int (nI go))] := hl
  refine lv_aload_n hx hb dX0_append_0 rfl (lv_at hl 0 rfl) ?_
  refine ia_get 0 (v := .int (nI n)) hx hb ht hown hO (by decide) rfl zlX0_7 rfl dX0_append_1 ?_
  refine lv_sipush (v := nI 400) hx hb dX0_append_4 (by decide) ?_
  refine zk_clt (tgt := 12) hx hb dX0_append_7 (by decide) (by omega) (by omega) (fun c_1 => ?_) (fun c_1 => ?_)
  · refine lv_aload_n hx hb dX0_append_12 rfl (lv_at hl 0 rfl) ?_
    refine ia_get 0 (v := .int (nI n)) hx hb ht hown hO (by decide) rfl zlX0_7 rfl dX0_append_13 ?_
    refine lv_istore (lv' := [(7, .int (nI n)), (0, .ref (ia_h E 0)), (1, .int (nI k)), (2, .int (nI d)), (3, .int (nI a)), (4, .int (nI b)), (5, .int (nI f)), (6, .int (nI go))]) hx hb dX0_append_16 hl (by decide) rfl (fun ls hl => ?_)
    refine lv_aload_n hx hb dX0_append_18 rfl (lv_at hl 1 rfl) ?_
    refine ia_get 1 (v := .ref (ia_h E 1)) hx hb ht hown hO (by decide) rfl zlX0_13 rfl dX0_append_19 ?_
    refine lv_iload hx hb dX0_append_22 (lv_at hl 0 rfl) ?_
    refine lv_iload_n hx hb dX0_append_24 rfl (lv_at hl 2 rfl) ?_
    refine ia_ist 1 n k hx hb hO hD hS rfl (ia_set1 E n g n k) (by omega) dX0_append_25 (fun H locs hO hD hS => ?_)
    have hg_2 : zs_B (ia_up g 1 n k) := zs_B_up hg (by omega)
    obtain ⟨g_2, eg_2⟩ : ∃ z, z = ia_up g 1 n k := ⟨_, rfl⟩
    rw [← eg_2] at hO hD hg_2
    have fg_2 : g_2 1 n = k := by rw [eg_2]; simp [ia_up]
    refine lv_aload_n hx hb dX0_append_26 rfl (lv_at hl 1 rfl) ?_
    refine ia_get 2 (v := .ref (ia_h E 2)) hx hb ht hown hO (by decide) rfl zlX0_17 rfl dX0_append_27 ?_
    refine lv_iload hx hb dX0_append_30 (lv_at hl 0 rfl) ?_
    refine lv_iload_n hx hb dX0_append_32 rfl (lv_at hl 3 rfl) ?_
    refine ia_ist 2 n d hx hb hO hD hS rfl (ia_set2 E n g_2 n d) (by omega) dX0_append_33 (fun H locs hO hD hS => ?_)
    have hg_3 : zs_B (ia_up g_2 2 n d) := zs_B_up hg_2 (by omega)
    obtain ⟨g_3, eg_3⟩ : ∃ z, z = ia_up g_2 2 n d := ⟨_, rfl⟩
    rw [← eg_3] at hO hD hg_3
    have fg_3 : g_3 2 n = d := by rw [eg_3]; simp [ia_up]
    refine lv_aload_n hx hb dX0_append_34 rfl (lv_at hl 1 rfl) ?_
    refine ia_get 3 (v := .ref (ia_h E 3)) hx hb ht hown hO (by decide) rfl zlX0_20 rfl dX0_append_35 ?_
    refine lv_iload hx hb dX0_append_38 (lv_at hl 0 rfl) ?_
    refine lv_iload_n hx hb dX0_append_40 rfl (lv_at hl 4 rfl) ?_
    refine ia_ist 3 n a hx hb hO hD hS rfl (ia_set3 E n g_3 n a) (by omega) dX0_append_41 (fun H locs hO hD hS => ?_)
    have hg_4 : zs_B (ia_up g_3 3 n a) := zs_B_up hg_3 (by omega)
    obtain ⟨g_4, eg_4⟩ : ∃ z, z = ia_up g_3 3 n a := ⟨_, rfl⟩
    rw [← eg_4] at hO hD hg_4
    have fg_4 : g_4 3 n = a := by rw [eg_4]; simp [ia_up]
    refine lv_aload_n hx hb dX0_append_42 rfl (lv_at hl 1 rfl) ?_
    refine ia_get 4 (v := .ref (ia_h E 4)) hx hb ht hown hO (by decide) rfl zlX0_23 rfl dX0_append_43 ?_
    refine lv_iload hx hb dX0_append_46 (lv_at hl 0 rfl) ?_
    refine lv_iload hx hb dX0_append_48 (lv_at hl 5 rfl) ?_
    refine ia_ist 4 n b hx hb hO hD hS rfl (ia_set4 E n g_4 n b) (by omega) dX0_append_50 (fun H locs hO hD hS => ?_)
    have hg_5 : zs_B (ia_up g_4 4 n b) := zs_B_up hg_4 (by omega)
    obtain ⟨g_5, eg_5⟩ : ∃ z, z = ia_up g_4 4 n b := ⟨_, rfl⟩
    rw [← eg_5] at hO hD hg_5
    have fg_5 : g_5 4 n = b := by rw [eg_5]; simp [ia_up]
    refine lv_aload_n hx hb dX0_append_51 rfl (lv_at hl 1 rfl) ?_
    refine ia_get 5 (v := .ref (ia_h E 5)) hx hb ht hown hO (by decide) rfl zlX0_26 rfl dX0_append_52 ?_
    refine lv_iload hx hb dX0_append_55 (lv_at hl 0 rfl) ?_
    refine lv_iload hx hb dX0_append_57 (lv_at hl 6 rfl) ?_
    refine ia_ist 5 n f hx hb hO hD hS rfl (ia_set5 E n g_5 n f) (by omega) dX0_append_59 (fun H locs hO hD hS => ?_)
    have hg_6 : zs_B (ia_up g_5 5 n f) := zs_B_up hg_5 (by omega)
    obtain ⟨g_6, eg_6⟩ : ∃ z, z = ia_up g_5 5 n f := ⟨_, rfl⟩
    rw [← eg_6] at hO hD hg_6
    have fg_6 : g_6 5 n = f := by rw [eg_6]; simp [ia_up]
    refine lv_aload_n hx hb dX0_append_60 rfl (lv_at hl 1 rfl) ?_
    refine ia_get 6 (v := .ref (ia_h E 6)) hx hb ht hown hO (by decide) rfl zlX0_29 rfl dX0_append_61 ?_
    refine lv_iload hx hb dX0_append_64 (lv_at hl 0 rfl) ?_
    refine lv_iload hx hb dX0_append_66 (lv_at hl 7 rfl) ?_
    refine ia_zst 6 n go hx hb hO hD hS rfl (ia_set6 E n g_6 n go) (by omega) (by omega) dX0_append_68 (fun H locs hO hD hS => ?_)
    have hg_7 : zs_B (ia_up g_6 6 n go) := zs_B_up hg_6 (by omega)
    obtain ⟨g_7, eg_7⟩ : ∃ z, z = ia_up g_6 6 n go := ⟨_, rfl⟩
    rw [← eg_7] at hO hD hg_7
    have fg_7 : g_7 6 n = go := by rw [eg_7]; simp [ia_up]
    refine lv_aload_n hx hb dX0_append_69 rfl (lv_at hl 1 rfl) ?_
    refine ia_get 7 (v := .ref (ia_h E 7)) hx hb ht hown hO (by decide) rfl zlX0_33 rfl dX0_append_70 ?_
    refine lv_iload hx hb dX0_append_73 (lv_at hl 0 rfl) ?_
    refine lv_iconst (v := nI 0) hx hb dX0_append_75 (by decide) ?_
    refine ia_zst 7 n 0 hx hb hO hD hS rfl (ia_set7 E n g_7 n 0) (by omega) (by omega) dX0_append_76 (fun H locs hO hD hS => ?_)
    have hg_8 : zs_B (ia_up g_7 7 n 0) := zs_B_up hg_7 (by omega)
    obtain ⟨g_8, eg_8⟩ : ∃ z, z = ia_up g_7 7 n 0 := ⟨_, rfl⟩
    rw [← eg_8] at hO hD hg_8
    have fg_8 : g_8 7 n = 0 := by rw [eg_8]; simp [ia_up]
    refine lv_aload_n hx hb dX0_append_77 rfl (lv_at hl 1 rfl) ?_
    refine lv_dup hx hb dX0_append_78 rfl ?_
    refine ia_get 0 (v := .int (nI n)) hx hb ht hown hO (by decide) rfl zlX0_7 rfl dX0_append_79 ?_
    refine lv_iconst (v := nI 1) hx hb dX0_append_82 (by decide) ?_
    refine zk_add hx hb dX0_append_83 ?_
    refine ia_putn (n + 1) hx hb ht hown hO hD hS zlX0_7 dX0_append_84 (fun H locs hO hD hS => ?_)
    refine lv_aload_n hx hb dX0_append_87 rfl (lv_at hl 1 rfl) ?_
    refine lv_iload hx hb dX0_append_88 (lv_at hl 0 rfl) ?_
    refine ia_callV (rest := []) hx hb hml hl.1 hown ht hO hD hS hA (zc_settle l E (n + 1) g_8 hg_8 n (by omega) _) zgX0_108 zyX0_settle rfl ⟨by decide, by decide⟩ ⟨Nat.zero_le _, Nat.zero_le _⟩ (Nat.le_of_ble_eq_true rfl) rfl dX0_append_90 (fun H locs hO hD hS => ?_)
    refine lv_iload hx hb dX0_append_93 (lv_at hl 0 rfl) ?_
    exact ia_miret hx hb hr hlk hO hD hS rfl (by subst eg_8 eg_7 eg_6 eg_5 eg_4 eg_3 eg_2; rfl) dX0_append_95
  · exact absurd (show False from by omega) id
set_option maxHeartbeats 4000000 in
set_option maxRecDepth 100000 in
/-- append -/
theorem zc_append_full (l : Launch) (E : ia_E) (n : Nat) (g : Nat → Nat → Nat) (hg : zs_B g) (k d a b f go : Nat) (hn : n = 400) (sz : Nat) : ia_M l yX0_append cX0_append 8 .int 5 E n g sz [.int (nI k), .int (nI d), .int (nI a), .int (nI b), .int (nI f), .int (nI go)] ((-1)) (n) (g) := by
  refine ia_Mof (by decide) rfl (Nat.le_of_ble_eq_true rfl) (fun p e s m args below meth c ls A hx hb hr hml hown ht hlk hA hO hD hS hl => ?_)
  have hl : lv_has ls 8 [(0, .ref (ia_h E 0)), (1, .int (nI k)), (2, .int (nI d)), (3, .int (nI a)), (4, .int (nI b)), (5, .int (nI f)), (6, .int (nI go))] := hl
  refine lv_aload_n hx hb dX0_append_0 rfl (lv_at hl 0 rfl) ?_
  refine ia_get 0 (v := .int (nI n)) hx hb ht hown hO (by decide) rfl zlX0_7 rfl dX0_append_1 ?_
  refine lv_sipush (v := nI 400) hx hb dX0_append_4 (by decide) ?_
  refine zk_clt (tgt := 12) hx hb dX0_append_7 (by decide) (by omega) (by omega) (fun c_1 => ?_) (fun c_1 => ?_)
  · exact absurd (show False from by omega) id
  · refine lv_iconst (v := (-1)) hx hb dX0_append_10 (by decide) ?_
    exact ia_miret hx hb hr hlk hO hD hS rfl (by rfl) dX0_append_11
set_option maxHeartbeats 4000000 in
set_option maxRecDepth 100000 in
/-- failLast -/
theorem zc_failLast (l : Launch) (E : ia_E) (n : Nat) (g : Nat → Nat → Nat) (hg : zs_B g)  (hn : 0 < n ∧ n ≤ 400) (sz : Nat) : ia_V l yX0_failLast cX0_failLast 2 5 E n g sz [] (n) (zs_failLast g (n - 1)) := by
  refine ia_Vof (by decide) rfl (Nat.le_of_ble_eq_true rfl) (fun p e s m args below meth c ls A hx hb hr hml hown ht hlk hA hO hD hS hl => ?_)
  have hl : lv_has ls 2 [(0, .ref (ia_h E 0))] := hl
  refine lv_aload_n hx hb dX0_failLast_0 rfl (lv_at hl 0 rfl) ?_
  refine ia_get 0 (v := .int (nI n)) hx hb ht hown hO (by decide) rfl zlX0_7 rfl dX0_failLast_1 ?_
  refine lv_iconst (v := nI 1) hx hb dX0_failLast_4 (by decide) ?_
  refine zk_sub hx hb (by omega) dX0_failLast_5 ?_
  refine lv_istore_n (lv' := [(1, .int (nI (n - 1))), (0, .ref (ia_h E 0))]) hx hb dX0_failLast_6 rfl hl (by decide) rfl (fun ls hl => ?_)
  refine lv_iload_n hx hb dX0_failLast_7 rfl (lv_at hl 0 rfl) ?_
  refine zk_iflt (tgt := 23) hx hb dX0_failLast_8 (by decide) (by omega) ?_
  refine lv_aload_n hx hb dX0_failLast_11 rfl (lv_at hl 1 rfl) ?_
  refine ia_get 7 (v := .ref (ia_h E 7)) hx hb ht hown hO (by decide) rfl zlX0_33 rfl dX0_failLast_12 ?_
  refine lv_iload_n hx hb dX0_failLast_15 rfl (lv_at hl 0 rfl) ?_
  refine lv_iconst (v := nI 1) hx hb dX0_failLast_16 (by decide) ?_
  refine ia_zst 7 (n - 1) 1 hx hb hO hD hS rfl (ia_set7 E n g (n - 1) 1) (by omega) (by omega) dX0_failLast_17 (fun H locs hO hD hS => ?_)
  have hg_2 : zs_B (ia_up g 7 (n - 1) 1) := zs_B_up hg (by omega)
  obtain ⟨g_2, eg_2⟩ : ∃ z, z = ia_up g 7 (n - 1) 1 := ⟨_, rfl⟩
  rw [← eg_2] at hO hD hg_2
  have fg_2 : g_2 7 (n - 1) = 1 := by rw [eg_2]; simp [ia_up]
  refine lv_aload_n hx hb dX0_failLast_18 rfl (lv_at hl 1 rfl) ?_
  refine lv_iload_n hx hb dX0_failLast_19 rfl (lv_at hl 0 rfl) ?_
  refine ia_callV (rest := []) hx hb hml hl.1 hown ht hO hD hS hA (zc_settle l E n g_2 hg_2 (n - 1) (by omega) _) zgX0_108 zyX0_settle rfl ⟨by decide, by decide⟩ ⟨Nat.zero_le _, Nat.zero_le _⟩ (Nat.le_of_ble_eq_true rfl) rfl dX0_failLast_20 (fun H locs hO hD hS => ?_)
  exact ia_vret hx hb hr hlk hO hD hS (by subst eg_2; rfl) dX0_failLast_23
end
section
set_option maxHeartbeats 4000000 in
set_option maxRecDepth 100000 in
/-- put -/
theorem zc_put_no (l : Launch) (E : ia_E) (n : Nat) (g : Nat → Nat → Nat) (hg : zs_B g) (k d a b : Int32) (h0 : k.toInt < 0 ∨ 7 < k.toInt ∨ k.toInt = 5 ∨ ¬ (0 ≤ d.toInt ∧ d.toInt ≤ 31) ∨ ¬ (0 ≤ a.toInt ∧ a.toInt ≤ 31) ∨ ¬ (0 ≤ b.toInt ∧ b.toInt ≤ 31) ∨ (k.toInt = 7 ∧ ¬ (d.toInt = 0 ∧ a.toInt = 0 ∧ b.toInt = 0))) (sz : Nat) : ia_M l yX0_put cX0_put 5 .int 6 E n g sz [.int k, .int d, .int a, .int b] ((-1)) (n) (g) := by
  refine ia_Mof (by decide) rfl (Nat.le_of_ble_eq_true rfl) (fun p e s m args below meth c ls A hx hb hr hml hown ht hlk hA hO hD hS hl => ?_)
  have hl : lv_has ls 5 [(0, .ref (ia_h E 0)), (1, .int k), (2, .int d), (3, .int a), (4, .int b)] := hl
  refine lv_iload_n hx hb dX0_put_0 rfl (lv_at hl 1 rfl) ?_
  refine zi_iflt (tgt := 15) hx hb dX0_put_1 (by decide) (fun c_1 => ?_) (fun c_1 => ?_)
  · refine lv_iconst (v := (-1)) hx hb dX0_put_15 (by decide) ?_
    exact ia_miret hx hb hr hlk hO hD hS rfl (by rfl) dX0_put_16
  · refine lv_iload_n hx hb dX0_put_4 rfl (lv_at hl 1 rfl) ?_
    refine lv_bipush (v := nI 7) hx hb dX0_put_5 (by decide) ?_
    have t_3 := nI_toInt (n := 7) (by omega)
    refine zi_cgt (tgt := 15) hx hb dX0_put_7 (by decide) (fun c_2 => ?_) (fun c_2 => ?_)
    · refine lv_iconst (v := (-1)) hx hb dX0_put_15 (by decide) ?_
      exact ia_miret hx hb hr hlk hO hD hS rfl (by rfl) dX0_put_16
    · refine lv_iload_n hx hb dX0_put_10 rfl (lv_at hl 1 rfl) ?_
      refine lv_iconst (v := nI 5) hx hb dX0_put_11 (by decide) ?_
      have t_5 := nI_toInt (n := 5) (by omega)
      refine zi_cne (tgt := 17) hx hb dX0_put_12 (by decide) (fun c_4 => ?_) (fun c_4 => ?_)
      · refine lv_iload_n hx hb dX0_put_17 rfl (lv_at hl 2 rfl) ?_
        refine ia_callS (rest := []) hx hb hml hl.1 hown ht (zc_reg l d) zgX0_54 zyX0_isRegister rfl ⟨by decide, by decide⟩ ⟨Nat.zero_le _, Nat.zero_le _⟩ (Nat.le_of_ble_eq_true rfl) rfl dX0_put_18 ?_
        have b_6 := zb_reg d.toInt
        refine zk_ifeq (tgt := 39) hx hb dX0_put_21 (by decide) (by omega) (fun c_7 => ?_) (fun c_7 => ?_)
        · refine lv_iconst (v := (-1)) hx hb dX0_put_39 (by decide) ?_
          exact ia_miret hx hb hr hlk hO hD hS rfl (by rfl) dX0_put_40
        · refine lv_iload_n hx hb dX0_put_24 rfl (lv_at hl 3 rfl) ?_
          refine ia_callS (rest := []) hx hb hml hl.1 hown ht (zc_reg l a) zgX0_54 zyX0_isRegister rfl ⟨by decide, by decide⟩ ⟨Nat.zero_le _, Nat.zero_le _⟩ (Nat.le_of_ble_eq_true rfl) rfl dX0_put_25 ?_
          have b_8 := zb_reg a.toInt
          refine zk_ifeq (tgt := 39) hx hb dX0_put_28 (by decide) (by omega) (fun c_9 => ?_) (fun c_9 => ?_)
          · refine lv_iconst (v := (-1)) hx hb dX0_put_39 (by decide) ?_
            exact ia_miret hx hb hr hlk hO hD hS rfl (by rfl) dX0_put_40
          · refine lv_iload hx hb dX0_put_31 (lv_at hl 4 rfl) ?_
            refine ia_callS (rest := []) hx hb hml hl.1 hown ht (zc_reg l b) zgX0_54 zyX0_isRegister rfl ⟨by decide, by decide⟩ ⟨Nat.zero_le _, Nat.zero_le _⟩ (Nat.le_of_ble_eq_true rfl) rfl dX0_put_33 ?_
            have b_10 := zb_reg b.toInt
            refine zk_ifne (tgt := 41) hx hb dX0_put_36 (by decide) (by omega) (fun c_11 => ?_) (fun c_11 => ?_)
            · refine lv_iload_n hx hb dX0_put_41 rfl (lv_at hl 1 rfl) ?_
              refine lv_bipush (v := nI 7) hx hb dX0_put_42 (by decide) ?_
              have t_13 := nI_toInt (n := 7) (by omega)
              refine zi_cne (tgt := 62) hx hb dX0_put_44 (by decide) (fun c_12 => ?_) (fun c_12 => ?_)
              · exact absurd (show False from by omega) id
              · refine lv_iload_n hx hb dX0_put_47 rfl (lv_at hl 2 rfl) ?_
                refine zi_ifne (tgt := 60) hx hb dX0_put_48 (by decide) (fun c_14 => ?_) (fun c_14 => ?_)
                · refine lv_iconst (v := (-1)) hx hb dX0_put_60 (by decide) ?_
                  exact ia_miret hx hb hr hlk hO hD hS rfl (by rfl) dX0_put_61
                · refine lv_iload_n hx hb dX0_put_51 rfl (lv_at hl 3 rfl) ?_
                  refine zi_ifne (tgt := 60) hx hb dX0_put_52 (by decide) (fun c_15 => ?_) (fun c_15 => ?_)
                  · refine lv_iconst (v := (-1)) hx hb dX0_put_60 (by decide) ?_
                    exact ia_miret hx hb hr hlk hO hD hS rfl (by rfl) dX0_put_61
                  · refine lv_iload hx hb dX0_put_55 (lv_at hl 4 rfl) ?_
                    refine zi_ifeq (tgt := 62) hx hb dX0_put_57 (by decide) (fun c_16 => ?_) (fun c_16 => ?_)
                    · exact absurd (show False from by omega) id
                    · refine lv_iconst (v := (-1)) hx hb dX0_put_60 (by decide) ?_
                      exact ia_miret hx hb hr hlk hO hD hS rfl (by rfl) dX0_put_61
            · refine lv_iconst (v := (-1)) hx hb dX0_put_39 (by decide) ?_
              exact ia_miret hx hb hr hlk hO hD hS rfl (by rfl) dX0_put_40
      · refine lv_iconst (v := (-1)) hx hb dX0_put_15 (by decide) ?_
        exact ia_miret hx hb hr hlk hO hD hS rfl (by rfl) dX0_put_16
set_option maxHeartbeats 4000000 in
set_option maxRecDepth 100000 in
/-- put -/
theorem zc_put (l : Launch) (E : ia_E) (n : Nat) (g : Nat → Nat → Nat) (hg : zs_B g) (k d a b : Nat) (hn : n < 400) (hk : k ≤ 7 ∧ d ≤ 31 ∧ a ≤ 31 ∧ b ≤ 31) (h5 : k ≠ 5) (h7 : k = 7 → d = 0 ∧ a = 0 ∧ b = 0) (sz : Nat) : ia_M l yX0_put cX0_put 5 .int 6 E n g sz [.int (nI k), .int (nI d), .int (nI a), .int (nI b)] (nI n) (n + 1) (zs_append g n k d a b 0 0) := by
  refine ia_Mof (by decide) rfl (Nat.le_of_ble_eq_true rfl) (fun p e s m args below meth c ls A hx hb hr hml hown ht hlk hA hO hD hS hl => ?_)
  have hl : lv_has ls 5 [(0, .ref (ia_h E 0)), (1, .int (nI k)), (2, .int (nI d)), (3, .int (nI a)), (4, .int (nI b))] := hl
  refine lv_iload_n hx hb dX0_put_0 rfl (lv_at hl 1 rfl) ?_
  refine zk_iflt (tgt := 15) hx hb dX0_put_1 (by decide) (by omega) ?_
  refine lv_iload_n hx hb dX0_put_4 rfl (lv_at hl 1 rfl) ?_
  refine lv_bipush (v := nI 7) hx hb dX0_put_5 (by decide) ?_
  refine zk_cgt (tgt := 15) hx hb dX0_put_7 (by decide) (by omega) (by omega) (fun c_2 => ?_) (fun c_2 => ?_)
  · exact absurd (show False from by omega) id
  · refine lv_iload_n hx hb dX0_put_10 rfl (lv_at hl 1 rfl) ?_
    refine lv_iconst (v := nI 5) hx hb dX0_put_11 (by decide) ?_
    refine zk_cne (tgt := 17) hx hb dX0_put_12 (by decide) (by omega) (by omega) (fun c_3 => ?_) (fun c_3 => ?_)
    · refine lv_iload_n hx hb dX0_put_17 rfl (lv_at hl 2 rfl) ?_
      refine ia_callS (rest := []) hx hb hml hl.1 hown ht (zc_reg l (nI d)) zgX0_54 zyX0_isRegister rfl ⟨by decide, by decide⟩ ⟨Nat.zero_le _, Nat.zero_le _⟩ (Nat.le_of_ble_eq_true rfl) rfl dX0_put_18 ?_
      have t_4 := nI_toInt (n := d) (by omega)
      have b_5 := zb_reg (nI d).toInt
      refine zk_ifeq (tgt := 39) hx hb dX0_put_21 (by decide) (by omega) (fun c_6 => ?_) (fun c_6 => ?_)
      · exact absurd (show False from by omega) id
      · refine lv_iload_n hx hb dX0_put_24 rfl (lv_at hl 3 rfl) ?_
        refine ia_callS (rest := []) hx hb hml hl.1 hown ht (zc_reg l (nI a)) zgX0_54 zyX0_isRegister rfl ⟨by decide, by decide⟩ ⟨Nat.zero_le _, Nat.zero_le _⟩ (Nat.le_of_ble_eq_true rfl) rfl dX0_put_25 ?_
        have t_7 := nI_toInt (n := a) (by omega)
        have b_8 := zb_reg (nI a).toInt
        refine zk_ifeq (tgt := 39) hx hb dX0_put_28 (by decide) (by omega) (fun c_9 => ?_) (fun c_9 => ?_)
        · exact absurd (show False from by omega) id
        · refine lv_iload hx hb dX0_put_31 (lv_at hl 4 rfl) ?_
          refine ia_callS (rest := []) hx hb hml hl.1 hown ht (zc_reg l (nI b)) zgX0_54 zyX0_isRegister rfl ⟨by decide, by decide⟩ ⟨Nat.zero_le _, Nat.zero_le _⟩ (Nat.le_of_ble_eq_true rfl) rfl dX0_put_33 ?_
          have t_10 := nI_toInt (n := b) (by omega)
          have b_11 := zb_reg (nI b).toInt
          refine zk_ifne (tgt := 41) hx hb dX0_put_36 (by decide) (by omega) (fun c_12 => ?_) (fun c_12 => ?_)
          · refine lv_iload_n hx hb dX0_put_41 rfl (lv_at hl 1 rfl) ?_
            refine lv_bipush (v := nI 7) hx hb dX0_put_42 (by decide) ?_
            refine zk_cne (tgt := 62) hx hb dX0_put_44 (by decide) (by omega) (by omega) (fun c_13 => ?_) (fun c_13 => ?_)
            · refine lv_aload_n hx hb dX0_put_62 rfl (lv_at hl 0 rfl) ?_
              refine lv_iload_n hx hb dX0_put_63 rfl (lv_at hl 1 rfl) ?_
              refine lv_iload_n hx hb dX0_put_64 rfl (lv_at hl 2 rfl) ?_
              refine lv_iload_n hx hb dX0_put_65 rfl (lv_at hl 3 rfl) ?_
              refine lv_iload hx hb dX0_put_66 (lv_at hl 4 rfl) ?_
              refine lv_iconst (v := nI 0) hx hb dX0_put_68 (by decide) ?_
              refine lv_iconst (v := nI 0) hx hb dX0_put_69 (by decide) ?_
              refine ia_callM (rest := []) hx hb hml hl.1 hown ht hO hD hS hA (zc_append l E n g hg k d a b 0 0 (by omega) (by omega) (by omega) _) zgX0_58 zyX0_append rfl ⟨by decide, by decide⟩ ⟨Nat.zero_le _, Nat.zero_le _⟩ (Nat.le_of_ble_eq_true rfl) rfl dX0_put_70 (fun H locs hO hD hS => ?_)
              exact ia_miret hx hb hr hlk hO hD hS rfl (by rfl) dX0_put_73
            · refine lv_iload_n hx hb dX0_put_47 rfl (lv_at hl 2 rfl) ?_
              refine zk_ifne (tgt := 60) hx hb dX0_put_48 (by decide) (by omega) (fun c_14 => ?_) (fun c_14 => ?_)
              · exact absurd (show False from by omega) id
              · refine lv_iload_n hx hb dX0_put_51 rfl (lv_at hl 3 rfl) ?_
                refine zk_ifne (tgt := 60) hx hb dX0_put_52 (by decide) (by omega) (fun c_15 => ?_) (fun c_15 => ?_)
                · exact absurd (show False from by omega) id
                · refine lv_iload hx hb dX0_put_55 (lv_at hl 4 rfl) ?_
                  refine zk_ifeq (tgt := 62) hx hb dX0_put_57 (by decide) (by omega) (fun c_16 => ?_) (fun c_16 => ?_)
                  · refine lv_aload_n hx hb dX0_put_62 rfl (lv_at hl 0 rfl) ?_
                    refine lv_iload_n hx hb dX0_put_63 rfl (lv_at hl 1 rfl) ?_
                    refine lv_iload_n hx hb dX0_put_64 rfl (lv_at hl 2 rfl) ?_
                    refine lv_iload_n hx hb dX0_put_65 rfl (lv_at hl 3 rfl) ?_
                    refine lv_iload hx hb dX0_put_66 (lv_at hl 4 rfl) ?_
                    refine lv_iconst (v := nI 0) hx hb dX0_put_68 (by decide) ?_
                    refine lv_iconst (v := nI 0) hx hb dX0_put_69 (by decide) ?_
                    refine ia_callM (rest := []) hx hb hml hl.1 hown ht hO hD hS hA (zc_append l E n g hg k d a b 0 0 (by omega) (by omega) (by omega) _) zgX0_58 zyX0_append rfl ⟨by decide, by decide⟩ ⟨Nat.zero_le _, Nat.zero_le _⟩ (Nat.le_of_ble_eq_true rfl) rfl dX0_put_70 (fun H locs hO hD hS => ?_)
                    exact ia_miret hx hb hr hlk hO hD hS rfl (by rfl) dX0_put_73
                  · exact absurd (show False from by omega) id
          · exact absurd (show False from by omega) id
    · exact absurd (show False from by omega) id
set_option maxHeartbeats 4000000 in
set_option maxRecDepth 100000 in
/-- put -/
theorem zc_put_full (l : Launch) (E : ia_E) (n : Nat) (g : Nat → Nat → Nat) (hg : zs_B g) (k d a b : Nat) (hn : n = 400) (hk : k ≤ 7 ∧ d ≤ 31 ∧ a ≤ 31 ∧ b ≤ 31) (h5 : k ≠ 5) (h7 : k = 7 → d = 0 ∧ a = 0 ∧ b = 0) (sz : Nat) : ia_M l yX0_put cX0_put 5 .int 6 E n g sz [.int (nI k), .int (nI d), .int (nI a), .int (nI b)] ((-1)) (n) (g) := by
  refine ia_Mof (by decide) rfl (Nat.le_of_ble_eq_true rfl) (fun p e s m args below meth c ls A hx hb hr hml hown ht hlk hA hO hD hS hl => ?_)
  have hl : lv_has ls 5 [(0, .ref (ia_h E 0)), (1, .int (nI k)), (2, .int (nI d)), (3, .int (nI a)), (4, .int (nI b))] := hl
  refine lv_iload_n hx hb dX0_put_0 rfl (lv_at hl 1 rfl) ?_
  refine zk_iflt (tgt := 15) hx hb dX0_put_1 (by decide) (by omega) ?_
  refine lv_iload_n hx hb dX0_put_4 rfl (lv_at hl 1 rfl) ?_
  refine lv_bipush (v := nI 7) hx hb dX0_put_5 (by decide) ?_
  refine zk_cgt (tgt := 15) hx hb dX0_put_7 (by decide) (by omega) (by omega) (fun c_2 => ?_) (fun c_2 => ?_)
  · exact absurd (show False from by omega) id
  · refine lv_iload_n hx hb dX0_put_10 rfl (lv_at hl 1 rfl) ?_
    refine lv_iconst (v := nI 5) hx hb dX0_put_11 (by decide) ?_
    refine zk_cne (tgt := 17) hx hb dX0_put_12 (by decide) (by omega) (by omega) (fun c_3 => ?_) (fun c_3 => ?_)
    · refine lv_iload_n hx hb dX0_put_17 rfl (lv_at hl 2 rfl) ?_
      refine ia_callS (rest := []) hx hb hml hl.1 hown ht (zc_reg l (nI d)) zgX0_54 zyX0_isRegister rfl ⟨by decide, by decide⟩ ⟨Nat.zero_le _, Nat.zero_le _⟩ (Nat.le_of_ble_eq_true rfl) rfl dX0_put_18 ?_
      have t_4 := nI_toInt (n := d) (by omega)
      have b_5 := zb_reg (nI d).toInt
      refine zk_ifeq (tgt := 39) hx hb dX0_put_21 (by decide) (by omega) (fun c_6 => ?_) (fun c_6 => ?_)
      · exact absurd (show False from by omega) id
      · refine lv_iload_n hx hb dX0_put_24 rfl (lv_at hl 3 rfl) ?_
        refine ia_callS (rest := []) hx hb hml hl.1 hown ht (zc_reg l (nI a)) zgX0_54 zyX0_isRegister rfl ⟨by decide, by decide⟩ ⟨Nat.zero_le _, Nat.zero_le _⟩ (Nat.le_of_ble_eq_true rfl) rfl dX0_put_25 ?_
        have t_7 := nI_toInt (n := a) (by omega)
        have b_8 := zb_reg (nI a).toInt
        refine zk_ifeq (tgt := 39) hx hb dX0_put_28 (by decide) (by omega) (fun c_9 => ?_) (fun c_9 => ?_)
        · exact absurd (show False from by omega) id
        · refine lv_iload hx hb dX0_put_31 (lv_at hl 4 rfl) ?_
          refine ia_callS (rest := []) hx hb hml hl.1 hown ht (zc_reg l (nI b)) zgX0_54 zyX0_isRegister rfl ⟨by decide, by decide⟩ ⟨Nat.zero_le _, Nat.zero_le _⟩ (Nat.le_of_ble_eq_true rfl) rfl dX0_put_33 ?_
          have t_10 := nI_toInt (n := b) (by omega)
          have b_11 := zb_reg (nI b).toInt
          refine zk_ifne (tgt := 41) hx hb dX0_put_36 (by decide) (by omega) (fun c_12 => ?_) (fun c_12 => ?_)
          · refine lv_iload_n hx hb dX0_put_41 rfl (lv_at hl 1 rfl) ?_
            refine lv_bipush (v := nI 7) hx hb dX0_put_42 (by decide) ?_
            refine zk_cne (tgt := 62) hx hb dX0_put_44 (by decide) (by omega) (by omega) (fun c_13 => ?_) (fun c_13 => ?_)
            · refine lv_aload_n hx hb dX0_put_62 rfl (lv_at hl 0 rfl) ?_
              refine lv_iload_n hx hb dX0_put_63 rfl (lv_at hl 1 rfl) ?_
              refine lv_iload_n hx hb dX0_put_64 rfl (lv_at hl 2 rfl) ?_
              refine lv_iload_n hx hb dX0_put_65 rfl (lv_at hl 3 rfl) ?_
              refine lv_iload hx hb dX0_put_66 (lv_at hl 4 rfl) ?_
              refine lv_iconst (v := nI 0) hx hb dX0_put_68 (by decide) ?_
              refine lv_iconst (v := nI 0) hx hb dX0_put_69 (by decide) ?_
              refine ia_callM (rest := []) hx hb hml hl.1 hown ht hO hD hS hA (zc_append_full l E n g hg k d a b 0 0 (by omega) _) zgX0_58 zyX0_append rfl ⟨by decide, by decide⟩ ⟨Nat.zero_le _, Nat.zero_le _⟩ (Nat.le_of_ble_eq_true rfl) rfl dX0_put_70 (fun H locs hO hD hS => ?_)
              exact ia_miret hx hb hr hlk hO hD hS rfl (by rfl) dX0_put_73
            · refine lv_iload_n hx hb dX0_put_47 rfl (lv_at hl 2 rfl) ?_
              refine zk_ifne (tgt := 60) hx hb dX0_put_48 (by decide) (by omega) (fun c_14 => ?_) (fun c_14 => ?_)
              · exact absurd (show False from by omega) id
              · refine lv_iload_n hx hb dX0_put_51 rfl (lv_at hl 3 rfl) ?_
                refine zk_ifne (tgt := 60) hx hb dX0_put_52 (by decide) (by omega) (fun c_15 => ?_) (fun c_15 => ?_)
                · exact absurd (show False from by omega) id
                · refine lv_iload hx hb dX0_put_55 (lv_at hl 4 rfl) ?_
                  refine zk_ifeq (tgt := 62) hx hb dX0_put_57 (by decide) (by omega) (fun c_16 => ?_) (fun c_16 => ?_)
                  · refine lv_aload_n hx hb dX0_put_62 rfl (lv_at hl 0 rfl) ?_
                    refine lv_iload_n hx hb dX0_put_63 rfl (lv_at hl 1 rfl) ?_
                    refine lv_iload_n hx hb dX0_put_64 rfl (lv_at hl 2 rfl) ?_
                    refine lv_iload_n hx hb dX0_put_65 rfl (lv_at hl 3 rfl) ?_
                    refine lv_iload hx hb dX0_put_66 (lv_at hl 4 rfl) ?_
                    refine lv_iconst (v := nI 0) hx hb dX0_put_68 (by decide) ?_
                    refine lv_iconst (v := nI 0) hx hb dX0_put_69 (by decide) ?_
                    refine ia_callM (rest := []) hx hb hml hl.1 hown ht hO hD hS hA (zc_append_full l E n g hg k d a b 0 0 (by omega) _) zgX0_58 zyX0_append rfl ⟨by decide, by decide⟩ ⟨Nat.zero_le _, Nat.zero_le _⟩ (Nat.le_of_ble_eq_true rfl) rfl dX0_put_70 (fun H locs hO hD hS => ?_)
                    exact ia_miret hx hb hr hlk hO hD hS rfl (by rfl) dX0_put_73
                  · exact absurd (show False from by omega) id
          · exact absurd (show False from by omega) id
    · exact absurd (show False from by omega) id
set_option maxHeartbeats 4000000 in
set_option maxRecDepth 100000 in
/-- branch -/
theorem zc_branch_no (l : Launch) (E : ia_E) (n : Nat) (g : Nat → Nat → Nat) (hg : zs_B g) (f : Int32) (go : Nat) (d a : Int32) (h0 : f.toInt < 0 ∨ 2 < f.toInt ∨ ¬ (0 ≤ d.toInt ∧ d.toInt ≤ 31) ∨ ¬ (0 ≤ a.toInt ∧ a.toInt ≤ 31)) (sz : Nat) : ia_M l yX0_branch cX0_branch 5 .int 6 E n g sz [.int f, .int (nI go), .int d, .int a] ((-1)) (n) (g) := by
  refine ia_Mof (by decide) rfl (Nat.le_of_ble_eq_true rfl) (fun p e s m args below meth c ls A hx hb hr hml hown ht hlk hA hO hD hS hl => ?_)
  have hl : lv_has ls 5 [(0, .ref (ia_h E 0)), (1, .int f), (2, .int (nI go)), (3, .int d), (4, .int a)] := hl
  refine lv_iload_n hx hb dX0_branch_0 rfl (lv_at hl 1 rfl) ?_
  refine zi_iflt (tgt := 9) hx hb dX0_branch_1 (by decide) (fun c_1 => ?_) (fun c_1 => ?_)
  · refine lv_iconst (v := (-1)) hx hb dX0_branch_9 (by decide) ?_
    exact ia_miret hx hb hr hlk hO hD hS rfl (by rfl) dX0_branch_10
  · refine lv_iload_n hx hb dX0_branch_4 rfl (lv_at hl 1 rfl) ?_
    refine lv_iconst (v := nI 2) hx hb dX0_branch_5 (by decide) ?_
    have t_3 := nI_toInt (n := 2) (by omega)
    refine zi_cle (tgt := 11) hx hb dX0_branch_6 (by decide) (fun c_2 => ?_) (fun c_2 => ?_)
    · refine lv_iload_n hx hb dX0_branch_11 rfl (lv_at hl 3 rfl) ?_
      refine ia_callS (rest := []) hx hb hml hl.1 hown ht (zc_reg l d) zgX0_54 zyX0_isRegister rfl ⟨by decide, by decide⟩ ⟨Nat.zero_le _, Nat.zero_le _⟩ (Nat.le_of_ble_eq_true rfl) rfl dX0_branch_12 ?_
      have b_4 := zb_reg d.toInt
      refine zk_ifeq (tgt := 26) hx hb dX0_branch_15 (by decide) (by omega) (fun c_5 => ?_) (fun c_5 => ?_)
      · refine lv_iconst (v := (-1)) hx hb dX0_branch_26 (by decide) ?_
        exact ia_miret hx hb hr hlk hO hD hS rfl (by rfl) dX0_branch_27
      · refine lv_iload hx hb dX0_branch_18 (lv_at hl 4 rfl) ?_
        refine ia_callS (rest := []) hx hb hml hl.1 hown ht (zc_reg l a) zgX0_54 zyX0_isRegister rfl ⟨by decide, by decide⟩ ⟨Nat.zero_le _, Nat.zero_le _⟩ (Nat.le_of_ble_eq_true rfl) rfl dX0_branch_20 ?_
        have b_6 := zb_reg a.toInt
        refine zk_ifne (tgt := 28) hx hb dX0_branch_23 (by decide) (by omega) (fun c_7 => ?_) (fun c_7 => ?_)
        · exact absurd (show False from by omega) id
        · refine lv_iconst (v := (-1)) hx hb dX0_branch_26 (by decide) ?_
          exact ia_miret hx hb hr hlk hO hD hS rfl (by rfl) dX0_branch_27
    · refine lv_iconst (v := (-1)) hx hb dX0_branch_9 (by decide) ?_
      exact ia_miret hx hb hr hlk hO hD hS rfl (by rfl) dX0_branch_10
set_option maxHeartbeats 4000000 in
set_option maxRecDepth 100000 in
/-- branch -/
theorem zc_branch (l : Launch) (E : ia_E) (n : Nat) (g : Nat → Nat → Nat) (hg : zs_B g) (f go d a : Nat) (hn : n < 400) (hf : f ≤ 2 ∧ go ≤ 1) (hk : d ≤ 31 ∧ a ≤ 31) (sz : Nat) : ia_M l yX0_branch cX0_branch 5 .int 6 E n g sz [.int (nI f), .int (nI go), .int (nI d), .int (nI a)] (nI n) (n + 1) (zs_append g n 5 d a 0 f go) := by
  refine ia_Mof (by decide) rfl (Nat.le_of_ble_eq_true rfl) (fun p e s m args below meth c ls A hx hb hr hml hown ht hlk hA hO hD hS hl => ?_)
  have hl : lv_has ls 5 [(0, .ref (ia_h E 0)), (1, .int (nI f)), (2, .int (nI go)), (3, .int (nI d)), (4, .int (nI a))] := hl
  refine lv_iload_n hx hb dX0_branch_0 rfl (lv_at hl 1 rfl) ?_
  refine zk_iflt (tgt := 9) hx hb dX0_branch_1 (by decide) (by omega) ?_
  refine lv_iload_n hx hb dX0_branch_4 rfl (lv_at hl 1 rfl) ?_
  refine lv_iconst (v := nI 2) hx hb dX0_branch_5 (by decide) ?_
  refine zk_cle (tgt := 11) hx hb dX0_branch_6 (by decide) (by omega) (by omega) (fun c_2 => ?_) (fun c_2 => ?_)
  · refine lv_iload_n hx hb dX0_branch_11 rfl (lv_at hl 3 rfl) ?_
    refine ia_callS (rest := []) hx hb hml hl.1 hown ht (zc_reg l (nI d)) zgX0_54 zyX0_isRegister rfl ⟨by decide, by decide⟩ ⟨Nat.zero_le _, Nat.zero_le _⟩ (Nat.le_of_ble_eq_true rfl) rfl dX0_branch_12 ?_
    have t_3 := nI_toInt (n := d) (by omega)
    have b_4 := zb_reg (nI d).toInt
    refine zk_ifeq (tgt := 26) hx hb dX0_branch_15 (by decide) (by omega) (fun c_5 => ?_) (fun c_5 => ?_)
    · exact absurd (show False from by omega) id
    · refine lv_iload hx hb dX0_branch_18 (lv_at hl 4 rfl) ?_
      refine ia_callS (rest := []) hx hb hml hl.1 hown ht (zc_reg l (nI a)) zgX0_54 zyX0_isRegister rfl ⟨by decide, by decide⟩ ⟨Nat.zero_le _, Nat.zero_le _⟩ (Nat.le_of_ble_eq_true rfl) rfl dX0_branch_20 ?_
      have t_6 := nI_toInt (n := a) (by omega)
      have b_7 := zb_reg (nI a).toInt
      refine zk_ifne (tgt := 28) hx hb dX0_branch_23 (by decide) (by omega) (fun c_8 => ?_) (fun c_8 => ?_)
      · refine lv_aload_n hx hb dX0_branch_28 rfl (lv_at hl 0 rfl) ?_
        refine lv_iconst (v := nI 5) hx hb dX0_branch_29 (by decide) ?_
        refine lv_iload_n hx hb dX0_branch_30 rfl (lv_at hl 3 rfl) ?_
        refine lv_iload hx hb dX0_branch_31 (lv_at hl 4 rfl) ?_
        refine lv_iconst (v := nI 0) hx hb dX0_branch_33 (by decide) ?_
        refine lv_iload_n hx hb dX0_branch_34 rfl (lv_at hl 1 rfl) ?_
        refine lv_iload_n hx hb dX0_branch_35 rfl (lv_at hl 2 rfl) ?_
        refine ia_callM (rest := []) hx hb hml hl.1 hown ht hO hD hS hA (zc_append l E n g hg 5 d a 0 f go (by omega) (by omega) (by omega) _) zgX0_58 zyX0_append rfl ⟨by decide, by decide⟩ ⟨Nat.zero_le _, Nat.zero_le _⟩ (Nat.le_of_ble_eq_true rfl) rfl dX0_branch_36 (fun H locs hO hD hS => ?_)
        exact ia_miret hx hb hr hlk hO hD hS rfl (by rfl) dX0_branch_39
      · exact absurd (show False from by omega) id
  · exact absurd (show False from by omega) id
set_option maxHeartbeats 4000000 in
set_option maxRecDepth 100000 in
/-- branch -/
theorem zc_branch_full (l : Launch) (E : ia_E) (n : Nat) (g : Nat → Nat → Nat) (hg : zs_B g) (f go d a : Nat) (hn : n = 400) (hf : f ≤ 2 ∧ go ≤ 1) (hk : d ≤ 31 ∧ a ≤ 31) (sz : Nat) : ia_M l yX0_branch cX0_branch 5 .int 6 E n g sz [.int (nI f), .int (nI go), .int (nI d), .int (nI a)] ((-1)) (n) (g) := by
  refine ia_Mof (by decide) rfl (Nat.le_of_ble_eq_true rfl) (fun p e s m args below meth c ls A hx hb hr hml hown ht hlk hA hO hD hS hl => ?_)
  have hl : lv_has ls 5 [(0, .ref (ia_h E 0)), (1, .int (nI f)), (2, .int (nI go)), (3, .int (nI d)), (4, .int (nI a))] := hl
  refine lv_iload_n hx hb dX0_branch_0 rfl (lv_at hl 1 rfl) ?_
  refine zk_iflt (tgt := 9) hx hb dX0_branch_1 (by decide) (by omega) ?_
  refine lv_iload_n hx hb dX0_branch_4 rfl (lv_at hl 1 rfl) ?_
  refine lv_iconst (v := nI 2) hx hb dX0_branch_5 (by decide) ?_
  refine zk_cle (tgt := 11) hx hb dX0_branch_6 (by decide) (by omega) (by omega) (fun c_2 => ?_) (fun c_2 => ?_)
  · refine lv_iload_n hx hb dX0_branch_11 rfl (lv_at hl 3 rfl) ?_
    refine ia_callS (rest := []) hx hb hml hl.1 hown ht (zc_reg l (nI d)) zgX0_54 zyX0_isRegister rfl ⟨by decide, by decide⟩ ⟨Nat.zero_le _, Nat.zero_le _⟩ (Nat.le_of_ble_eq_true rfl) rfl dX0_branch_12 ?_
    have t_3 := nI_toInt (n := d) (by omega)
    have b_4 := zb_reg (nI d).toInt
    refine zk_ifeq (tgt := 26) hx hb dX0_branch_15 (by decide) (by omega) (fun c_5 => ?_) (fun c_5 => ?_)
    · exact absurd (show False from by omega) id
    · refine lv_iload hx hb dX0_branch_18 (lv_at hl 4 rfl) ?_
      refine ia_callS (rest := []) hx hb hml hl.1 hown ht (zc_reg l (nI a)) zgX0_54 zyX0_isRegister rfl ⟨by decide, by decide⟩ ⟨Nat.zero_le _, Nat.zero_le _⟩ (Nat.le_of_ble_eq_true rfl) rfl dX0_branch_20 ?_
      have t_6 := nI_toInt (n := a) (by omega)
      have b_7 := zb_reg (nI a).toInt
      refine zk_ifne (tgt := 28) hx hb dX0_branch_23 (by decide) (by omega) (fun c_8 => ?_) (fun c_8 => ?_)
      · refine lv_aload_n hx hb dX0_branch_28 rfl (lv_at hl 0 rfl) ?_
        refine lv_iconst (v := nI 5) hx hb dX0_branch_29 (by decide) ?_
        refine lv_iload_n hx hb dX0_branch_30 rfl (lv_at hl 3 rfl) ?_
        refine lv_iload hx hb dX0_branch_31 (lv_at hl 4 rfl) ?_
        refine lv_iconst (v := nI 0) hx hb dX0_branch_33 (by decide) ?_
        refine lv_iload_n hx hb dX0_branch_34 rfl (lv_at hl 1 rfl) ?_
        refine lv_iload_n hx hb dX0_branch_35 rfl (lv_at hl 2 rfl) ?_
        refine ia_callM (rest := []) hx hb hml hl.1 hown ht hO hD hS hA (zc_append_full l E n g hg 5 d a 0 f go (by omega) _) zgX0_58 zyX0_append rfl ⟨by decide, by decide⟩ ⟨Nat.zero_le _, Nat.zero_le _⟩ (Nat.le_of_ble_eq_true rfl) rfl dX0_branch_36 (fun H locs hO hD hS => ?_)
        exact ia_miret hx hb hr hlk hO hD hS rfl (by rfl) dX0_branch_39
      · exact absurd (show False from by omega) id
  · exact absurd (show False from by omega) id
set_option maxHeartbeats 4000000 in
set_option maxRecDepth 100000 in
/-- fail -/
theorem zc_fail_no (l : Launch) (E : ia_E) (n : Nat) (g : Nat → Nat → Nat) (hg : zs_B g)  (hn : n = 0) (sz : Nat) : ia_M l yX0_fail cX0_fail 1 .boolean 6 E n g sz [] (nI 0) (n) (g) := by
  refine ia_Mof (by decide) rfl (Nat.le_of_ble_eq_true rfl) (fun p e s m args below meth c ls A hx hb hr hml hown ht hlk hA hO hD hS hl => ?_)
  have hl : lv_has ls 1 [(0, .ref (ia_h E 0))] := hl
  refine lv_aload_n hx hb dX0_fail_0 rfl (lv_at hl 0 rfl) ?_
  refine ia_get 0 (v := .int (nI n)) hx hb ht hown hO (by decide) rfl zlX0_7 rfl dX0_fail_1 ?_
  refine zk_ifne (tgt := 9) hx hb dX0_fail_4 (by decide) (by omega) (fun c_1 => ?_) (fun c_1 => ?_)
  · exact absurd (show False from by omega) id
  · refine lv_iconst (v := nI 0) hx hb dX0_fail_7 (by decide) ?_
    exact ia_mzret hx hb hr hlk hO hD hS (by omega) rfl (by rfl) dX0_fail_8
set_option maxHeartbeats 4000000 in
set_option maxRecDepth 100000 in
/-- fail -/
theorem zc_fail (l : Launch) (E : ia_E) (n : Nat) (g : Nat → Nat → Nat) (hg : zs_B g)  (hn : 0 < n ∧ n ≤ 400) (sz : Nat) : ia_M l yX0_fail cX0_fail 1 .boolean 6 E n g sz [] (nI 1) (n) (zs_failLast g (n - 1)) := by
  refine ia_Mof (by decide) rfl (Nat.le_of_ble_eq_true rfl) (fun p e s m args below meth c ls A hx hb hr hml hown ht hlk hA hO hD hS hl => ?_)
  have hl : lv_has ls 1 [(0, .ref (ia_h E 0))] := hl
  refine lv_aload_n hx hb dX0_fail_0 rfl (lv_at hl 0 rfl) ?_
  refine ia_get 0 (v := .int (nI n)) hx hb ht hown hO (by decide) rfl zlX0_7 rfl dX0_fail_1 ?_
  refine zk_ifne (tgt := 9) hx hb dX0_fail_4 (by decide) (by omega) (fun c_1 => ?_) (fun c_1 => ?_)
  · refine lv_aload_n hx hb dX0_fail_9 rfl (lv_at hl 0 rfl) ?_
    refine ia_callV (rest := []) hx hb hml hl.1 hown ht hO hD hS hA (zc_failLast l E n g hg (by omega) _) zgX0_62 zyX0_failLast rfl ⟨by decide, by decide⟩ ⟨Nat.zero_le _, Nat.zero_le _⟩ (Nat.le_of_ble_eq_true rfl) rfl dX0_fail_10 (fun H locs hO hD hS => ?_)
    refine lv_iconst (v := nI 1) hx hb dX0_fail_13 (by decide) ?_
    exact ia_mzret hx hb hr hlk hO hD hS (by omega) rfl (by rfl) dX0_fail_14
  · exact absurd (show False from by omega) id
set_option maxHeartbeats 4000000 in
set_option maxRecDepth 100000 in
/-- drop -/
theorem zc_drop_no (l : Launch) (E : ia_E) (n : Nat) (g : Nat → Nat → Nat) (hg : zs_B g) (x : Int32) (hn : n ≤ 400) (h0 : x.toInt < 0 ∨ n < x.toInt) (sz : Nat) : ia_M l yX0_drop cX0_drop 2 .boolean 0 E n g sz [.int x] (nI 0) (n) (g) := by
  refine ia_Mof (by decide) rfl (Nat.le_of_ble_eq_true rfl) (fun p e s m args below meth c ls A hx hb hr hml hown ht hlk hA hO hD hS hl => ?_)
  have hl : lv_has ls 2 [(0, .ref (ia_h E 0)), (1, .int x)] := hl
  refine lv_iload_n hx hb dX0_drop_0 rfl (lv_at hl 1 rfl) ?_
  refine zi_iflt (tgt := 12) hx hb dX0_drop_1 (by decide) (fun c_1 => ?_) (fun c_1 => ?_)
  · refine lv_iconst (v := nI 0) hx hb dX0_drop_12 (by decide) ?_
    exact ia_mzret hx hb hr hlk hO hD hS (by omega) rfl (by rfl) dX0_drop_13
  · refine lv_iload_n hx hb dX0_drop_4 rfl (lv_at hl 1 rfl) ?_
    refine lv_aload_n hx hb dX0_drop_5 rfl (lv_at hl 0 rfl) ?_
    refine ia_get 0 (v := .int (nI n)) hx hb ht hown hO (by decide) rfl zlX0_7 rfl dX0_drop_6 ?_
    have t_3 := nI_toInt (n := n) (by omega)
    refine zi_cle (tgt := 14) hx hb dX0_drop_9 (by decide) (fun c_2 => ?_) (fun c_2 => ?_)
    · exact absurd (show False from by omega) id
    · refine lv_iconst (v := nI 0) hx hb dX0_drop_12 (by decide) ?_
      exact ia_mzret hx hb hr hlk hO hD hS (by omega) rfl (by rfl) dX0_drop_13
set_option maxHeartbeats 4000000 in
set_option maxRecDepth 100000 in
/-- drop -/
theorem zc_drop (l : Launch) (E : ia_E) (n : Nat) (g : Nat → Nat → Nat) (hg : zs_B g) (x : Nat) (hn : n ≤ 400) (hx0 : x ≤ n) (sz : Nat) : ia_M l yX0_drop cX0_drop 2 .boolean 0 E n g sz [.int (nI x)] (nI 1) (n - x) (g) := by
  refine ia_Mof (by decide) rfl (Nat.le_of_ble_eq_true rfl) (fun p e s m args below meth c ls A hx hb hr hml hown ht hlk hA hO hD hS hl => ?_)
  have hl : lv_has ls 2 [(0, .ref (ia_h E 0)), (1, .int (nI x))] := hl
  refine lv_iload_n hx hb dX0_drop_0 rfl (lv_at hl 1 rfl) ?_
  refine zk_iflt (tgt := 12) hx hb dX0_drop_1 (by decide) (by omega) ?_
  refine lv_iload_n hx hb dX0_drop_4 rfl (lv_at hl 1 rfl) ?_
  refine lv_aload_n hx hb dX0_drop_5 rfl (lv_at hl 0 rfl) ?_
  refine ia_get 0 (v := .int (nI n)) hx hb ht hown hO (by decide) rfl zlX0_7 rfl dX0_drop_6 ?_
  refine zk_cle (tgt := 14) hx hb dX0_drop_9 (by decide) (by omega) (by omega) (fun c_2 => ?_) (fun c_2 => ?_)
  · refine lv_aload_n hx hb dX0_drop_14 rfl (lv_at hl 0 rfl) ?_
    refine lv_dup hx hb dX0_drop_15 rfl ?_
    refine ia_get 0 (v := .int (nI n)) hx hb ht hown hO (by decide) rfl zlX0_7 rfl dX0_drop_16 ?_
    refine lv_iload_n hx hb dX0_drop_19 rfl (lv_at hl 1 rfl) ?_
    refine zk_sub hx hb (by omega) dX0_drop_20 ?_
    refine ia_putn (n - x) hx hb ht hown hO hD hS zlX0_7 dX0_drop_21 (fun H locs hO hD hS => ?_)
    refine lv_iconst (v := nI 1) hx hb dX0_drop_24 (by decide) ?_
    exact ia_mzret hx hb hr hlk hO hD hS (by omega) rfl (by rfl) dX0_drop_25
  · exact absurd (show False from by omega) id
set_option maxHeartbeats 4000000 in
set_option maxRecDepth 100000 in
/-- clear -/
theorem zc_clear (l : Launch) (E : ia_E) (n : Nat) (g : Nat → Nat → Nat) (hg : zs_B g)   (sz : Nat) : ia_V l yX0_clear cX0_clear 1 0 E n g sz [] (0) (g) := by
  refine ia_Vof (by decide) rfl (Nat.le_of_ble_eq_true rfl) (fun p e s m args below meth c ls A hx hb hr hml hown ht hlk hA hO hD hS hl => ?_)
  have hl : lv_has ls 1 [(0, .ref (ia_h E 0))] := hl
  refine lv_aload_n hx hb dX0_clear_0 rfl (lv_at hl 0 rfl) ?_
  refine lv_iconst (v := nI 0) hx hb dX0_clear_1 (by decide) ?_
  refine ia_putn 0 hx hb ht hown hO hD hS zlX0_7 dX0_clear_2 (fun H locs hO hD hS => ?_)
  exact ia_vret hx hb hr hlk hO hD hS (by rfl) dX0_clear_5
set_option maxHeartbeats 4000000 in
set_option maxRecDepth 100000 in
/-- again -/
theorem zc_again_no1 (l : Launch) (E : ia_E) (n : Nat) (g : Nat → Nat → Nat) (hg : zs_B g) (x y : Int32) (hn : n ≤ 400) (h0 : ¬ (0 ≤ x.toInt ∧ x.toInt < n)) (sz : Nat) : ia_M l yX0_again cX0_again 4 .int 6 E n g sz [.int x, .int y] ((-1)) (n) (g) := by
  refine ia_Mof (by decide) rfl (Nat.le_of_ble_eq_true rfl) (fun p e s m args below meth c ls A hx hb hr hml hown ht hlk hA hO hD hS hl => ?_)
  have hl : lv_has ls 4 [(0, .ref (ia_h E 0)), (1, .int x), (2, .int y)] := hl
  refine lv_aload_n hx hb dX0_again_0 rfl (lv_at hl 0 rfl) ?_
  refine lv_iload_n hx hb dX0_again_1 rfl (lv_at hl 1 rfl) ?_
  refine ia_call (rest := []) hx hb hml hl.1 hown ht hO (zc_ins l E n g x (by omega)) zgX0_65 zyX0_isInstruction rfl ⟨by decide, by decide⟩ ⟨Nat.zero_le _, Nat.zero_le _⟩ (Nat.le_of_ble_eq_true rfl) rfl dX0_again_2 ?_
  have b_1 := zb_ins n x.toInt
  refine zk_ifeq (tgt := 35) hx hb dX0_again_5 (by decide) (by omega) (fun c_2 => ?_) (fun c_2 => ?_)
  · refine lv_iconst (v := (-1)) hx hb dX0_again_35 (by decide) ?_
    exact ia_miret hx hb hr hlk hO hD hS rfl (by rfl) dX0_again_36
  · exact absurd (show False from by omega) id
set_option maxHeartbeats 4000000 in
set_option maxRecDepth 100000 in
/-- again -/
theorem zc_again_no2 (l : Launch) (E : ia_E) (n : Nat) (g : Nat → Nat → Nat) (hg : zs_B g) (i : Nat) (y : Int32) (hn : n ≤ 400) (hi : i < n) (h0 : y.toInt < 1 ∨ ((n - i : Nat) : Int) < y.toInt ∨ ((400 - n : Nat) : Int) < y.toInt) (sz : Nat) : ia_M l yX0_again cX0_again 4 .int 6 E n g sz [.int (nI i), .int y] ((-1)) (n) (g) := by
  refine ia_Mof (by decide) rfl (Nat.le_of_ble_eq_true rfl) (fun p e s m args below meth c ls A hx hb hr hml hown ht hlk hA hO hD hS hl => ?_)
  have hl : lv_has ls 4 [(0, .ref (ia_h E 0)), (1, .int (nI i)), (2, .int y)] := hl
  refine lv_aload_n hx hb dX0_again_0 rfl (lv_at hl 0 rfl) ?_
  refine lv_iload_n hx hb dX0_again_1 rfl (lv_at hl 1 rfl) ?_
  refine ia_call (rest := []) hx hb hml hl.1 hown ht hO (zc_ins l E n g (nI i) (by omega)) zgX0_65 zyX0_isInstruction rfl ⟨by decide, by decide⟩ ⟨Nat.zero_le _, Nat.zero_le _⟩ (Nat.le_of_ble_eq_true rfl) rfl dX0_again_2 ?_
  have t_1 := nI_toInt (n := i) (by omega)
  have b_2 := zb_ins n (nI i).toInt
  refine zk_ifeq (tgt := 35) hx hb dX0_again_5 (by decide) (by omega) (fun c_3 => ?_) (fun c_3 => ?_)
  · refine lv_iconst (v := (-1)) hx hb dX0_again_35 (by decide) ?_
    exact ia_miret hx hb hr hlk hO hD hS rfl (by rfl) dX0_again_36
  · refine lv_iload_n hx hb dX0_again_8 rfl (lv_at hl 2 rfl) ?_
    refine lv_iconst (v := nI 1) hx hb dX0_again_9 (by decide) ?_
    have t_5 := nI_toInt (n := 1) (by omega)
    refine zi_clt (tgt := 35) hx hb dX0_again_10 (by decide) (fun c_4 => ?_) (fun c_4 => ?_)
    · refine lv_iconst (v := (-1)) hx hb dX0_again_35 (by decide) ?_
      exact ia_miret hx hb hr hlk hO hD hS rfl (by rfl) dX0_again_36
    · refine lv_iload_n hx hb dX0_again_13 rfl (lv_at hl 2 rfl) ?_
      refine lv_aload_n hx hb dX0_again_14 rfl (lv_at hl 0 rfl) ?_
      refine ia_get 0 (v := .int (nI n)) hx hb ht hown hO (by decide) rfl zlX0_7 rfl dX0_again_15 ?_
      refine lv_iload_n hx hb dX0_again_18 rfl (lv_at hl 1 rfl) ?_
      refine zk_sub hx hb (by omega) dX0_again_19 ?_
      have t_7 := nI_toInt (n := n - i) (by omega)
      refine zi_cgt (tgt := 35) hx hb dX0_again_20 (by decide) (fun c_6 => ?_) (fun c_6 => ?_)
      · refine lv_iconst (v := (-1)) hx hb dX0_again_35 (by decide) ?_
        exact ia_miret hx hb hr hlk hO hD hS rfl (by rfl) dX0_again_36
      · refine lv_iload_n hx hb dX0_again_23 rfl (lv_at hl 2 rfl) ?_
        refine lv_sipush (v := nI 400) hx hb dX0_again_24 (by decide) ?_
        refine lv_aload_n hx hb dX0_again_27 rfl (lv_at hl 0 rfl) ?_
        refine ia_get 0 (v := .int (nI n)) hx hb ht hown hO (by decide) rfl zlX0_7 rfl dX0_again_28 ?_
        refine zk_sub hx hb (by omega) dX0_again_31 ?_
        have t_9 := nI_toInt (n := 400 - n) (by omega)
        refine zi_cle (tgt := 37) hx hb dX0_again_32 (by decide) (fun c_8 => ?_) (fun c_8 => ?_)
        · exact absurd (show False from by omega) id
        · refine lv_iconst (v := (-1)) hx hb dX0_again_35 (by decide) ?_
          exact ia_miret hx hb hr hlk hO hD hS rfl (by rfl) dX0_again_36
set_option maxHeartbeats 4000000 in
set_option maxRecDepth 100000 in
/-- again -/
theorem zc_again (l : Launch) (E : ia_E) (n : Nat) (g : Nat → Nat → Nat) (hg : zs_B g) (i y : Nat) (hv : zs_V g) (hn : n ≤ 400) (hi : i < n) (hy : 1 ≤ y ∧ y ≤ n - i ∧ y ≤ 400 - n) (sz : Nat) : ia_M l yX0_again cX0_again 4 .int 6 E n g sz [.int (nI i), .int (nI y)] (nI (n + y)) (n + y) (zs_again g n i y) := by
  refine ia_Mof (by decide) rfl (Nat.le_of_ble_eq_true rfl) (fun p e s m args below meth c ls A hx hb hr hml hown ht hlk hA hO hD hS hl => ?_)
  have hl : lv_has ls 4 [(0, .ref (ia_h E 0)), (1, .int (nI i)), (2, .int (nI y))] := hl
  refine lv_aload_n hx hb dX0_again_0 rfl (lv_at hl 0 rfl) ?_
  refine lv_iload_n hx hb dX0_again_1 rfl (lv_at hl 1 rfl) ?_
  refine ia_call (rest := []) hx hb hml hl.1 hown ht hO (zc_ins l E n g (nI i) (by omega)) zgX0_65 zyX0_isInstruction rfl ⟨by decide, by decide⟩ ⟨Nat.zero_le _, Nat.zero_le _⟩ (Nat.le_of_ble_eq_true rfl) rfl dX0_again_2 ?_
  have t_1 := nI_toInt (n := i) (by omega)
  have b_2 := zb_ins n (nI i).toInt
  refine zk_ifeq (tgt := 35) hx hb dX0_again_5 (by decide) (by omega) (fun c_3 => ?_) (fun c_3 => ?_)
  · exact absurd (show False from by omega) id
  · refine lv_iload_n hx hb dX0_again_8 rfl (lv_at hl 2 rfl) ?_
    refine lv_iconst (v := nI 1) hx hb dX0_again_9 (by decide) ?_
    refine zk_clt (tgt := 35) hx hb dX0_again_10 (by decide) (by omega) (by omega) (fun c_4 => ?_) (fun c_4 => ?_)
    · exact absurd (show False from by omega) id
    · refine lv_iload_n hx hb dX0_again_13 rfl (lv_at hl 2 rfl) ?_
      refine lv_aload_n hx hb dX0_again_14 rfl (lv_at hl 0 rfl) ?_
      refine ia_get 0 (v := .int (nI n)) hx hb ht hown hO (by decide) rfl zlX0_7 rfl dX0_again_15 ?_
      refine lv_iload_n hx hb dX0_again_18 rfl (lv_at hl 1 rfl) ?_
      refine zk_sub hx hb (by omega) dX0_again_19 ?_
      refine zk_cgt (tgt := 35) hx hb dX0_again_20 (by decide) (by omega) (by omega) (fun c_5 => ?_) (fun c_5 => ?_)
      · exact absurd (show False from by omega) id
      · refine lv_iload_n hx hb dX0_again_23 rfl (lv_at hl 2 rfl) ?_
        refine lv_sipush (v := nI 400) hx hb dX0_again_24 (by decide) ?_
        refine lv_aload_n hx hb dX0_again_27 rfl (lv_at hl 0 rfl) ?_
        refine ia_get 0 (v := .int (nI n)) hx hb ht hown hO (by decide) rfl zlX0_7 rfl dX0_again_28 ?_
        refine zk_sub hx hb (by omega) dX0_again_31 ?_
        refine zk_cle (tgt := 37) hx hb dX0_again_32 (by decide) (by omega) (by omega) (fun c_6 => ?_) (fun c_6 => ?_)
        · refine lv_iload_n hx hb dX0_again_37 rfl (lv_at hl 1 rfl) ?_
          refine lv_istore_n (lv' := [(3, .int (nI i)), (0, .ref (ia_h E 0)), (1, .int (nI i)), (2, .int (nI y))]) hx hb dX0_again_38 rfl hl (by decide) rfl (fun ls hl => ?_)
          refine zk_upH (nL := 4) (pcH := 39) y (fun k H locs => ia_O E (n + k) (zs_again g n i k) s H ∧ va_D A (ia_w E (n + k) (zs_again g n i k)) ∧ va_S A s.heap H locs) (fun k => [(3, .int (nI (i + k))), (0, .ref (ia_h E 0)), (1, .int (nI i)), (2, .int (nI y))]) ?_ ?_ y 0 (by omega) _ _ ⟨hO, hD, hS⟩ ls (lv_sub hl [0, 1, 2, 3] rfl)
          · intro H locs hI ls hl
            obtain ⟨hO, hD, hS⟩ := hI
            have hl : lv_has ls 4 [(3, .int (nI (i + y))), (0, .ref (ia_h E 0)), (1, .int (nI i)), (2, .int (nI y))] := hl
            refine lv_iload_n hx hb dX0_again_39 rfl (lv_at hl 0 rfl) ?_
            refine lv_iload_n hx hb dX0_again_40 rfl (lv_at hl 2 rfl) ?_
            refine lv_iload_n hx hb dX0_again_41 rfl (lv_at hl 3 rfl) ?_
            refine zk_add hx hb dX0_again_42 ?_
            refine zk_cge (tgt := 106) hx hb dX0_again_43 (by decide) (by omega) (by omega) (fun c_7 => ?_) (fun c_7 => ?_)
            · refine lv_aload_n hx hb dX0_again_106 rfl (lv_at hl 1 rfl) ?_
              refine ia_get 0 (v := .int (nI (n + y))) hx hb ht hown hO (by decide) rfl zlX0_7 rfl dX0_again_107 ?_
              exact ia_miret hx hb hr hlk hO hD hS rfl rfl dX0_again_110
            · exact absurd (show False from by omega) id
          · intro k hk ih H locs hI ls hl
            obtain ⟨hO, hD, hS⟩ := hI
            have hl : lv_has ls 4 [(3, .int (nI (i + k))), (0, .ref (ia_h E 0)), (1, .int (nI i)), (2, .int (nI y))] := hl
            obtain ⟨hga, hva⟩ := zs_BV_again hg hv n i k
            have e1 : zs_again g n i (k + 1) = zs_cell (zs_again g n i k) (n + k) (i + k) := rfl
            rw [e1] at ih
            generalize zs_again g n i k = G at hO hD hga hva ih
            have hvj := hva (i + k)
            refine lv_iload_n hx hb dX0_again_39 rfl (lv_at hl 0 rfl) ?_
            refine lv_iload_n hx hb dX0_again_40 rfl (lv_at hl 2 rfl) ?_
            refine lv_iload_n hx hb dX0_again_41 rfl (lv_at hl 3 rfl) ?_
            refine zk_add hx hb dX0_again_42 ?_
            refine zk_cge (tgt := 106) hx hb dX0_again_43 (by decide) (by omega) (by omega) (fun c_8 => ?_) (fun c_8 => ?_)
            · exact absurd (show False from by omega) id
            · refine lv_aload_n hx hb dX0_again_46 rfl (lv_at hl 1 rfl) ?_
              refine lv_aload_n hx hb dX0_again_47 rfl (lv_at hl 1 rfl) ?_
              refine ia_get 1 (v := .ref (ia_h E 1)) hx hb ht hown hO (by decide) rfl zlX0_13 rfl dX0_again_48 ?_
              refine lv_iload_n hx hb dX0_again_51 rfl (lv_at hl 0 rfl) ?_
              refine ia_ild 1 (i + k) hx hb hO rfl (by omega) dX0_again_52 ?_
              have b_9 := hga 1 (i + k)
              refine lv_aload_n hx hb dX0_again_53 rfl (lv_at hl 1 rfl) ?_
              refine ia_get 2 (v := .ref (ia_h E 2)) hx hb ht hown hO (by decide) rfl zlX0_17 rfl dX0_again_54 ?_
              refine lv_iload_n hx hb dX0_again_57 rfl (lv_at hl 0 rfl) ?_
              refine ia_ild 2 (i + k) hx hb hO rfl (by omega) dX0_again_58 ?_
              have b_10 := hga 2 (i + k)
              refine lv_aload_n hx hb dX0_again_59 rfl (lv_at hl 1 rfl) ?_
              refine ia_get 3 (v := .ref (ia_h E 3)) hx hb ht hown hO (by decide) rfl zlX0_20 rfl dX0_again_60 ?_
              refine lv_iload_n hx hb dX0_again_63 rfl (lv_at hl 0 rfl) ?_
              refine ia_ild 3 (i + k) hx hb hO rfl (by omega) dX0_again_64 ?_
              have b_11 := hga 3 (i + k)
              refine lv_aload_n hx hb dX0_again_65 rfl (lv_at hl 1 rfl) ?_
              refine ia_get 4 (v := .ref (ia_h E 4)) hx hb ht hown hO (by decide) rfl zlX0_23 rfl dX0_again_66 ?_
              refine lv_iload_n hx hb dX0_again_69 rfl (lv_at hl 0 rfl) ?_
              refine ia_ild 4 (i + k) hx hb hO rfl (by omega) dX0_again_70 ?_
              have b_12 := hga 4 (i + k)
              refine lv_aload_n hx hb dX0_again_71 rfl (lv_at hl 1 rfl) ?_
              refine ia_get 5 (v := .ref (ia_h E 5)) hx hb ht hown hO (by decide) rfl zlX0_26 rfl dX0_again_72 ?_
              refine lv_iload_n hx hb dX0_again_75 rfl (lv_at hl 0 rfl) ?_
              refine ia_ild 5 (i + k) hx hb hO rfl (by omega) dX0_again_76 ?_
              have b_13 := hga 5 (i + k)
              refine lv_aload_n hx hb dX0_again_77 rfl (lv_at hl 1 rfl) ?_
              refine ia_get 6 (v := .ref (ia_h E 6)) hx hb ht hown hO (by decide) rfl zlX0_29 rfl dX0_again_78 ?_
              refine lv_iload_n hx hb dX0_again_81 rfl (lv_at hl 0 rfl) ?_
              refine ia_zld 6 (i + k) hx hb hO rfl (by omega) dX0_again_82 ?_
              have b_14 := hga 6 (i + k)
              refine ia_callM (rest := []) hx hb hml hl.1 hown ht hO hD hS hA (zc_append l E (n + k) G hga (G 1 (i + k)) (G 2 (i + k)) (G 3 (i + k)) (G 4 (i + k)) (G 5 (i + k)) (G 6 (i + k)) (by omega) (by omega) (by omega) _) zgX0_58 zyX0_append rfl ⟨by decide, by decide⟩ ⟨Nat.zero_le _, Nat.zero_le _⟩ (Nat.le_of_ble_eq_true rfl) rfl dX0_again_83 (fun H locs hO hD hS => ?_)
              have hG1 : zs_B (zs_append G (n + k) (G 1 (i + k)) (G 2 (i + k)) (G 3 (i + k)) (G 4 (i + k)) (G 5 (i + k)) (G 6 (i + k))) := zs_B_append hga (by omega) (by omega)
              obtain ⟨G1, eG1⟩ : ∃ z, z = zs_append G (n + k) (G 1 (i + k)) (G 2 (i + k)) (G 3 (i + k)) (G 4 (i + k)) (G 5 (i + k)) (G 6 (i + k)) := ⟨_, rfl⟩
              rw [← eG1] at hO hD hG1
              have e2 : zs_cell G (n + k) (i + k) = (if G1 7 (i + k) = 0 then G1 else zs_failLast G1 (n + k)) := by rw [eG1]; rfl
              rw [e2] at ih
              refine lv_pop hx hb dX0_again_86 rfl ?_
              refine lv_aload_n hx hb dX0_again_87 rfl (lv_at hl 1 rfl) ?_
              refine ia_get 7 (v := .ref (ia_h E 7)) hx hb ht hown hO (by decide) rfl zlX0_33 rfl dX0_again_88 ?_
              refine lv_iload_n hx hb dX0_again_91 rfl (lv_at hl 0 rfl) ?_
              refine ia_zld 7 (i + k) hx hb hO rfl (by omega) dX0_again_92 ?_
              have b_15 := hG1 7 (i + k)
              refine zk_ifeq (tgt := 100) hx hb dX0_again_93 (by decide) (by omega) (fun c_16 => ?_) (fun c_16 => ?_)
              · refine lv_iinc (v := nI (i + (k + 1))) (lv' := [(3, .int (nI (i + (k + 1)))), (0, .ref (ia_h E 0)), (1, .int (nI i)), (2, .int (nI y))]) hx hb dX0_again_100 hl (k := 0) rfl (zk_inc (i + k)) (by decide) rfl (fun ls hl => ?_)
                refine lv_goto (tgt := 39) hx hb dX0_again_103 (by decide) ?_
                rw [if_pos c_16] at ih
                exact ih H locs ⟨hO, hD, hS⟩ ls (lv_sub hl [0, 1, 2, 3] rfl)
              · refine lv_aload_n hx hb dX0_again_96 rfl (lv_at hl 1 rfl) ?_
                refine ia_callV (rest := []) hx hb hml hl.1 hown ht hO hD hS hA (zc_failLast l E ((n + k) + 1) G1 hG1 (by omega) _) zgX0_62 zyX0_failLast rfl ⟨by decide, by decide⟩ ⟨Nat.zero_le _, Nat.zero_le _⟩ (Nat.le_of_ble_eq_true rfl) rfl dX0_again_97 (fun H locs hO hD hS => ?_)
                refine lv_iinc (v := nI (i + (k + 1))) (lv' := [(3, .int (nI (i + (k + 1)))), (0, .ref (ia_h E 0)), (1, .int (nI i)), (2, .int (nI y))]) hx hb dX0_again_100 hl (k := 0) rfl (zk_inc (i + k)) (by decide) rfl (fun ls hl => ?_)
                refine lv_goto (tgt := 39) hx hb dX0_again_103 (by decide) ?_
                rw [if_neg c_16] at ih
                have hO : ia_O E (n + (k + 1)) (zs_failLast G1 (n + k)) s H := hO
                have hD : va_D A (ia_w E (n + (k + 1)) (zs_failLast G1 (n + k))) := hD
                exact ih H locs ⟨hO, hD, hS⟩ ls (lv_sub hl [0, 1, 2, 3] rfl)
        · exact absurd (show False from by omega) id
end
section
abbrev ia_new (h0 : Nat) : va_W := [(h0, .inr (0, [.int 0, .null, .null, .null, .null, .null, .null, .null, .null, .null, .null, .null, .null, .null]))]
abbrev ia_born (dC : Nat → ClassId) (dI : Nat → Nat → Nat) (h0 : Nat) (A : Nat → Prop) (E : ia_E) (t : State) : Prop := (E.1 = dC ∧ E.2.1 = dI ∧ ia_h E 0 = h0) ∧ ia_O E 0 (fun _ _ => 0) t t.heap ∧ va_D A (ia_w E 0 (fun _ _ => 0))
set_option maxHeartbeats 4000000 in
set_option maxRecDepth 100000 in
/-- the constructor: thirteen rows of 400, all 0 -/
theorem zc_init (l : Launch) (dC : Nat → ClassId) (dI : Nat → Nat → Nat) (h0 sz : Nat) : Met l yX0_init (ia_ws yX0_init cX0_init 1 none) { frames := 1, cells := 13, slots := 5200, locals := 40 } (va_Pc [.ref h0] (fun U => U.heap.size = sz ∧ va_P (dC, dI) vwCl (ia_new h0) U.heap ∧ va_K (dC, dI) vwCl [] U ∧ va_D (fun _ => True) (ia_new h0))) (va_Qv (fun _ : ia_E => True) (ia_born dC dI h0 (va_A (ia_new h0) sz)) (va_A (ia_new h0) sz)) 13 5200 (va_A (ia_new h0) sz) := by
  refine Met.ofW (cc := cX0_init) (maxL := 1) (ret := none) (by decide) rfl ?_
  intro p e s m args below meth c s₁ B hml hv
  obtain ⟨rfl, hsz, hP, hK, hD0⟩ := hv
  have hx := B.exec
  have hb := B.bytes
  have hr := B.returns
  have hts := atoms_spec (ws := ia_ws yX0_init cX0_init 1 none) B.pre
  have ht : ∀ w ∈ tb, w.before _ s = true := fun w h => hts w (List.mem_cons_of_mem _ h)
  have hown : s.vm.findClass RX0 = some m.cls := findClass_of_methodNamed B.named
  have hlocks := B.notSynchronized
  have hin : meth.name = "<init>" := (name_of_methodNamed B.named B.method).1
  subst hsz
  have hD := hD0.self (sz := s.heap.size)
  generalize hAe : va_A (ia_new h0) s.heap.size = A at hD ⊢
  have hA : ∀ q : Nat, s.heap.size ≤ q → A q := fun q h => by rw [← hAe]; exact Or.inr h
  have hS : va_S A s.heap s.heap [] := va_S.rf
  have hP : va_P (dC, dI) vwCl [(h0, .inr (0, [.int 0, .null, .null, .null, .null, .null, .null, .null, .null, .null, .null, .null, .null, .null]))] s.heap := hP
  have hl := lv_entry ([.ref h0]) (n := 1) (Nat.le_of_ble_eq_true rfl)
  rw [lg_entry_eq]
  generalize (lg_sl ([.ref h0]) ++ List.replicate (1 - (lg_sl ([.ref h0])).length) Slot.unset).toArray = ls at hl ⊢
  have hl : lv_has ls 1 [(0, .ref h0)] := hl
  refine lv_aload_n hx hb dX0_init_0 rfl (lv_at hl 0 rfl) ?_
  refine W.objInit hx hb hown (ht _ zmX0_1) (ht _ zl_oi2) (ht _ zl_oi3) rfl (by rw [hml]; exact hl.1) rfl dX0_init_1 (Nat.le_of_ble_eq_true rfl) (Nat.le_of_ble_eq_true rfl) ?_
  refine W.eq (g2 := F0 m 4 ls []) rfl ?_
  refine lv_aload_n hx hb dX0_init_4 rfl (lv_at hl 0 rfl) ?_
  refine lv_iconst (v := nI 0) hx hb dX0_init_5 (by decide) ?_
  refine va_put (D := (dC, dI)) (ci := 0) (v := .int (nI 0)) (ty := .int) (C := RX0) (T := TX0) (N := 14) hx hb ht inX0 tyX0 tyX0_ok nmX0 hown hK hP hD hS 0 rfl rfl 0 (by decide) (ht _ zlX0_7) (fun _ h9 => h9) rfl (by decide +kernel) rfl rfl (Nat.le_of_ble_eq_true rfl) dX0_init_6 (fun H locs hP hD hS => ?_)
  have hP : va_P (dC, dI) vwCl [(h0, .inr (0, [.int (nI 0), .null, .null, .null, .null, .null, .null, .null, .null, .null, .null, .null, .null, .null]))] H := hP
  have hD : va_D A [(h0, .inr (0, [.int (nI 0), .null, .null, .null, .null, .null, .null, .null, .null, .null, .null, .null, .null, .null]))] := hD
  refine lv_aload_n hx hb dX0_init_9 rfl (lv_at hl 0 rfl) ?_
  refine lv_sipush (v := nI 400) hx hb dX0_init_10 (by decide) ?_
  refine va_newa (atype := .int) (a0 := (400, .inl (fun _ => nI 0))) (ty := .int) hx hb (ht _ za_I) rfl hK hP hD hS hA (fun _ => rfl) (by decide) (by decide) (by decide) (Nat.le_of_ble_eq_true rfl) (Nat.le_of_ble_eq_true rfl) dX0_init_13 (fun q1 c1 H hK hP hD hS => ?_)
  have hP : va_P (dC, dI) vwCl [(h0, .inr (0, [.int (nI 0), .null, .null, .null, .null, .null, .null, .null, .null, .null, .null, .null, .null, .null])), (q1, .inl (c1, 400, .inl (fun _ => nI 0)))] H := hP
  have hD : va_D A [(h0, .inr (0, [.int (nI 0), .null, .null, .null, .null, .null, .null, .null, .null, .null, .null, .null, .null, .null])), (q1, .inl (c1, 400, .inl (fun _ => nI 0)))] := hD
  refine va_putF (D := (dC, dI)) (ci := 0) (v := .ref q1) (ty := .array .int) (C := RX0) (T := TX0) (N := 14) hx hb ht inX0 tyX0 tyX0_ok nmX0 hown hK hP hD hS 0 rfl rfl 1 (by decide) (ht _ zlX0_13) (fun _ h9 => h9) rfl hin rfl (by decide +kernel) rfl rfl (Nat.le_of_ble_eq_true rfl) dX0_init_15 (fun H locs hP hD hS => ?_)
  have hP : va_P (dC, dI) vwCl [(h0, .inr (0, [.int (nI 0), .ref q1, .null, .null, .null, .null, .null, .null, .null, .null, .null, .null, .null, .null])), (q1, .inl (c1, 400, .inl (fun _ => nI 0)))] H := hP
  have hD : va_D A [(h0, .inr (0, [.int (nI 0), .ref q1, .null, .null, .null, .null, .null, .null, .null, .null, .null, .null, .null, .null])), (q1, .inl (c1, 400, .inl (fun _ => nI 0)))] := hD
  refine lv_aload_n hx hb dX0_init_18 rfl (lv_at hl 0 rfl) ?_
  refine lv_sipush (v := nI 400) hx hb dX0_init_19 (by decide) ?_
  refine va_newa (atype := .int) (a0 := (400, .inl (fun _ => nI 0))) (ty := .int) hx hb (ht _ za_I) rfl hK hP hD hS hA (fun _ => rfl) (by decide) (by decide) (by decide) (Nat.le_of_ble_eq_true rfl) (Nat.le_of_ble_eq_true rfl) dX0_init_22 (fun q2 c2 H hK hP hD hS => ?_)
  have hP : va_P (dC, dI) vwCl [(h0, .inr (0, [.int (nI 0), .ref q1, .null, .null, .null, .null, .null, .null, .null, .null, .null, .null, .null, .null])), (q1, .inl (c1, 400, .inl (fun _ => nI 0))), (q2, .inl (c2, 400, .inl (fun _ => nI 0)))] H := hP
  have hD : va_D A [(h0, .inr (0, [.int (nI 0), .ref q1, .null, .null, .null, .null, .null, .null, .null, .null, .null, .null, .null, .null])), (q1, .inl (c1, 400, .inl (fun _ => nI 0))), (q2, .inl (c2, 400, .inl (fun _ => nI 0)))] := hD
  refine va_putF (D := (dC, dI)) (ci := 0) (v := .ref q2) (ty := .array .int) (C := RX0) (T := TX0) (N := 14) hx hb ht inX0 tyX0 tyX0_ok nmX0 hown hK hP hD hS 0 rfl rfl 2 (by decide) (ht _ zlX0_17) (fun _ h9 => h9) rfl hin rfl (by decide +kernel) rfl rfl (Nat.le_of_ble_eq_true rfl) dX0_init_24 (fun H locs hP hD hS => ?_)
  have hP : va_P (dC, dI) vwCl [(h0, .inr (0, [.int (nI 0), .ref q1, .ref q2, .null, .null, .null, .null, .null, .null, .null, .null, .null, .null, .null])), (q1, .inl (c1, 400, .inl (fun _ => nI 0))), (q2, .inl (c2, 400, .inl (fun _ => nI 0)))] H := hP
  have hD : va_D A [(h0, .inr (0, [.int (nI 0), .ref q1, .ref q2, .null, .null, .null, .null, .null, .null, .null, .null, .null, .null, .null])), (q1, .inl (c1, 400, .inl (fun _ => nI 0))), (q2, .inl (c2, 400, .inl (fun _ => nI 0)))] := hD
  refine lv_aload_n hx hb dX0_init_27 rfl (lv_at hl 0 rfl) ?_
  refine lv_sipush (v := nI 400) hx hb dX0_init_28 (by decide) ?_
  refine va_newa (atype := .int) (a0 := (400, .inl (fun _ => nI 0))) (ty := .int) hx hb (ht _ za_I) rfl hK hP hD hS hA (fun _ => rfl) (by decide) (by decide) (by decide) (Nat.le_of_ble_eq_true rfl) (Nat.le_of_ble_eq_true rfl) dX0_init_31 (fun q3 c3 H hK hP hD hS => ?_)
  have hP : va_P (dC, dI) vwCl [(h0, .inr (0, [.int (nI 0), .ref q1, .ref q2, .null, .null, .null, .null, .null, .null, .null, .null, .null, .null, .null])), (q1, .inl (c1, 400, .inl (fun _ => nI 0))), (q2, .inl (c2, 400, .inl (fun _ => nI 0))), (q3, .inl (c3, 400, .inl (fun _ => nI 0)))] H := hP
  have hD : va_D A [(h0, .inr (0, [.int (nI 0), .ref q1, .ref q2, .null, .null, .null, .null, .null, .null, .null, .null, .null, .null, .null])), (q1, .inl (c1, 400, .inl (fun _ => nI 0))), (q2, .inl (c2, 400, .inl (fun _ => nI 0))), (q3, .inl (c3, 400, .inl (fun _ => nI 0)))] := hD
  refine va_putF (D := (dC, dI)) (ci := 0) (v := .ref q3) (ty := .array .int) (C := RX0) (T := TX0) (N := 14) hx hb ht inX0 tyX0 tyX0_ok nmX0 hown hK hP hD hS 0 rfl rfl 3 (by decide) (ht _ zlX0_20) (fun _ h9 => h9) rfl hin rfl (by decide +kernel) rfl rfl (Nat.le_of_ble_eq_true rfl) dX0_init_33 (fun H locs hP hD hS => ?_)
  have hP : va_P (dC, dI) vwCl [(h0, .inr (0, [.int (nI 0), .ref q1, .ref q2, .ref q3, .null, .null, .null, .null, .null, .null, .null, .null, .null, .null])), (q1, .inl (c1, 400, .inl (fun _ => nI 0))), (q2, .inl (c2, 400, .inl (fun _ => nI 0))), (q3, .inl (c3, 400, .inl (fun _ => nI 0)))] H := hP
  have hD : va_D A [(h0, .inr (0, [.int (nI 0), .ref q1, .ref q2, .ref q3, .null, .null, .null, .null, .null, .null, .null, .null, .null, .null])), (q1, .inl (c1, 400, .inl (fun _ => nI 0))), (q2, .inl (c2, 400, .inl (fun _ => nI 0))), (q3, .inl (c3, 400, .inl (fun _ => nI 0)))] := hD
  refine lv_aload_n hx hb dX0_init_36 rfl (lv_at hl 0 rfl) ?_
  refine lv_sipush (v := nI 400) hx hb dX0_init_37 (by decide) ?_
  refine va_newa (atype := .int) (a0 := (400, .inl (fun _ => nI 0))) (ty := .int) hx hb (ht _ za_I) rfl hK hP hD hS hA (fun _ => rfl) (by decide) (by decide) (by decide) (Nat.le_of_ble_eq_true rfl) (Nat.le_of_ble_eq_true rfl) dX0_init_40 (fun q4 c4 H hK hP hD hS => ?_)
  have hP : va_P (dC, dI) vwCl [(h0, .inr (0, [.int (nI 0), .ref q1, .ref q2, .ref q3, .null, .null, .null, .null, .null, .null, .null, .null, .null, .null])), (q1, .inl (c1, 400, .inl (fun _ => nI 0))), (q2, .inl (c2, 400, .inl (fun _ => nI 0))), (q3, .inl (c3, 400, .inl (fun _ => nI 0))), (q4, .inl (c4, 400, .inl (fun _ => nI 0)))] H := hP
  have hD : va_D A [(h0, .inr (0, [.int (nI 0), .ref q1, .ref q2, .ref q3, .null, .null, .null, .null, .null, .null, .null, .null, .null, .null])), (q1, .inl (c1, 400, .inl (fun _ => nI 0))), (q2, .inl (c2, 400, .inl (fun _ => nI 0))), (q3, .inl (c3, 400, .inl (fun _ => nI 0))), (q4, .inl (c4, 400, .inl (fun _ => nI 0)))] := hD
  refine va_putF (D := (dC, dI)) (ci := 0) (v := .ref q4) (ty := .array .int) (C := RX0) (T := TX0) (N := 14) hx hb ht inX0 tyX0 tyX0_ok nmX0 hown hK hP hD hS 0 rfl rfl 4 (by decide) (ht _ zlX0_23) (fun _ h9 => h9) rfl hin rfl (by decide +kernel) rfl rfl (Nat.le_of_ble_eq_true rfl) dX0_init_42 (fun H locs hP hD hS => ?_)
  have hP : va_P (dC, dI) vwCl [(h0, .inr (0, [.int (nI 0), .ref q1, .ref q2, .ref q3, .ref q4, .null, .null, .null, .null, .null, .null, .null, .null, .null])), (q1, .inl (c1, 400, .inl (fun _ => nI 0))), (q2, .inl (c2, 400, .inl (fun _ => nI 0))), (q3, .inl (c3, 400, .inl (fun _ => nI 0))), (q4, .inl (c4, 400, .inl (fun _ => nI 0)))] H := hP
  have hD : va_D A [(h0, .inr (0, [.int (nI 0), .ref q1, .ref q2, .ref q3, .ref q4, .null, .null, .null, .null, .null, .null, .null, .null, .null])), (q1, .inl (c1, 400, .inl (fun _ => nI 0))), (q2, .inl (c2, 400, .inl (fun _ => nI 0))), (q3, .inl (c3, 400, .inl (fun _ => nI 0))), (q4, .inl (c4, 400, .inl (fun _ => nI 0)))] := hD
  refine lv_aload_n hx hb dX0_init_45 rfl (lv_at hl 0 rfl) ?_
  refine lv_sipush (v := nI 400) hx hb dX0_init_46 (by decide) ?_
  refine va_newa (atype := .int) (a0 := (400, .inl (fun _ => nI 0))) (ty := .int) hx hb (ht _ za_I) rfl hK hP hD hS hA (fun _ => rfl) (by decide) (by decide) (by decide) (Nat.le_of_ble_eq_true rfl) (Nat.le_of_ble_eq_true rfl) dX0_init_49 (fun q5 c5 H hK hP hD hS => ?_)
  have hP : va_P (dC, dI) vwCl [(h0, .inr (0, [.int (nI 0), .ref q1, .ref q2, .ref q3, .ref q4, .null, .null, .null, .null, .null, .null, .null, .null, .null])), (q1, .inl (c1, 400, .inl (fun _ => nI 0))), (q2, .inl (c2, 400, .inl (fun _ => nI 0))), (q3, .inl (c3, 400, .inl (fun _ => nI 0))), (q4, .inl (c4, 400, .inl (fun _ => nI 0))), (q5, .inl (c5, 400, .inl (fun _ => nI 0)))] H := hP
  have hD : va_D A [(h0, .inr (0, [.int (nI 0), .ref q1, .ref q2, .ref q3, .ref q4, .null, .null, .null, .null, .null, .null, .null, .null, .null])), (q1, .inl (c1, 400, .inl (fun _ => nI 0))), (q2, .inl (c2, 400, .inl (fun _ => nI 0))), (q3, .inl (c3, 400, .inl (fun _ => nI 0))), (q4, .inl (c4, 400, .inl (fun _ => nI 0))), (q5, .inl (c5, 400, .inl (fun _ => nI 0)))] := hD
  refine va_putF (D := (dC, dI)) (ci := 0) (v := .ref q5) (ty := .array .int) (C := RX0) (T := TX0) (N := 14) hx hb ht inX0 tyX0 tyX0_ok nmX0 hown hK hP hD hS 0 rfl rfl 5 (by decide) (ht _ zlX0_26) (fun _ h9 => h9) rfl hin rfl (by decide +kernel) rfl rfl (Nat.le_of_ble_eq_true rfl) dX0_init_51 (fun H locs hP hD hS => ?_)
  have hP : va_P (dC, dI) vwCl [(h0, .inr (0, [.int (nI 0), .ref q1, .ref q2, .ref q3, .ref q4, .ref q5, .null, .null, .null, .null, .null, .null, .null, .null])), (q1, .inl (c1, 400, .inl (fun _ => nI 0))), (q2, .inl (c2, 400, .inl (fun _ => nI 0))), (q3, .inl (c3, 400, .inl (fun _ => nI 0))), (q4, .inl (c4, 400, .inl (fun _ => nI 0))), (q5, .inl (c5, 400, .inl (fun _ => nI 0)))] H := hP
  have hD : va_D A [(h0, .inr (0, [.int (nI 0), .ref q1, .ref q2, .ref q3, .ref q4, .ref q5, .null, .null, .null, .null, .null, .null, .null, .null])), (q1, .inl (c1, 400, .inl (fun _ => nI 0))), (q2, .inl (c2, 400, .inl (fun _ => nI 0))), (q3, .inl (c3, 400, .inl (fun _ => nI 0))), (q4, .inl (c4, 400, .inl (fun _ => nI 0))), (q5, .inl (c5, 400, .inl (fun _ => nI 0)))] := hD
  refine lv_aload_n hx hb dX0_init_54 rfl (lv_at hl 0 rfl) ?_
  refine lv_sipush (v := nI 400) hx hb dX0_init_55 (by decide) ?_
  refine va_newa (atype := .boolean) (a0 := (400, .inl (fun _ => nI 0))) (ty := .boolean) hx hb (ht _ za_Z) rfl hK hP hD hS hA (fun _ => rfl) (by decide) (by decide) (by decide) (Nat.le_of_ble_eq_true rfl) (Nat.le_of_ble_eq_true rfl) dX0_init_58 (fun q6 c6 H hK hP hD hS => ?_)
  have hP : va_P (dC, dI) vwCl [(h0, .inr (0, [.int (nI 0), .ref q1, .ref q2, .ref q3, .ref q4, .ref q5, .null, .null, .null, .null, .null, .null, .null, .null])), (q1, .inl (c1, 400, .inl (fun _ => nI 0))), (q2, .inl (c2, 400, .inl (fun _ => nI 0))), (q3, .inl (c3, 400, .inl (fun _ => nI 0))), (q4, .inl (c4, 400, .inl (fun _ => nI 0))), (q5, .inl (c5, 400, .inl (fun _ => nI 0))), (q6, .inl (c6, 400, .inl (fun _ => nI 0)))] H := hP
  have hD : va_D A [(h0, .inr (0, [.int (nI 0), .ref q1, .ref q2, .ref q3, .ref q4, .ref q5, .null, .null, .null, .null, .null, .null, .null, .null])), (q1, .inl (c1, 400, .inl (fun _ => nI 0))), (q2, .inl (c2, 400, .inl (fun _ => nI 0))), (q3, .inl (c3, 400, .inl (fun _ => nI 0))), (q4, .inl (c4, 400, .inl (fun _ => nI 0))), (q5, .inl (c5, 400, .inl (fun _ => nI 0))), (q6, .inl (c6, 400, .inl (fun _ => nI 0)))] := hD
  refine va_putF (D := (dC, dI)) (ci := 0) (v := .ref q6) (ty := .array .boolean) (C := RX0) (T := TX0) (N := 14) hx hb ht inX0 tyX0 tyX0_ok nmX0 hown hK hP hD hS 0 rfl rfl 6 (by decide) (ht _ zlX0_29) (fun _ h9 => h9) rfl hin rfl (by decide +kernel) rfl rfl (Nat.le_of_ble_eq_true rfl) dX0_init_60 (fun H locs hP hD hS => ?_)
  have hP : va_P (dC, dI) vwCl [(h0, .inr (0, [.int (nI 0), .ref q1, .ref q2, .ref q3, .ref q4, .ref q5, .ref q6, .null, .null, .null, .null, .null, .null, .null])), (q1, .inl (c1, 400, .inl (fun _ => nI 0))), (q2, .inl (c2, 400, .inl (fun _ => nI 0))), (q3, .inl (c3, 400, .inl (fun _ => nI 0))), (q4, .inl (c4, 400, .inl (fun _ => nI 0))), (q5, .inl (c5, 400, .inl (fun _ => nI 0))), (q6, .inl (c6, 400, .inl (fun _ => nI 0)))] H := hP
  have hD : va_D A [(h0, .inr (0, [.int (nI 0), .ref q1, .ref q2, .ref q3, .ref q4, .ref q5, .ref q6, .null, .null, .null, .null, .null, .null, .null])), (q1, .inl (c1, 400, .inl (fun _ => nI 0))), (q2, .inl (c2, 400, .inl (fun _ => nI 0))), (q3, .inl (c3, 400, .inl (fun _ => nI 0))), (q4, .inl (c4, 400, .inl (fun _ => nI 0))), (q5, .inl (c5, 400, .inl (fun _ => nI 0))), (q6, .inl (c6, 400, .inl (fun _ => nI 0)))] := hD
  refine lv_aload_n hx hb dX0_init_63 rfl (lv_at hl 0 rfl) ?_
  refine lv_sipush (v := nI 400) hx hb dX0_init_64 (by decide) ?_
  refine va_newa (atype := .boolean) (a0 := (400, .inl (fun _ => nI 0))) (ty := .boolean) hx hb (ht _ za_Z) rfl hK hP hD hS hA (fun _ => rfl) (by decide) (by decide) (by decide) (Nat.le_of_ble_eq_true rfl) (Nat.le_of_ble_eq_true rfl) dX0_init_67 (fun q7 c7 H hK hP hD hS => ?_)
  have hP : va_P (dC, dI) vwCl [(h0, .inr (0, [.int (nI 0), .ref q1, .ref q2, .ref q3, .ref q4, .ref q5, .ref q6, .null, .null, .null, .null, .null, .null, .null])), (q1, .inl (c1, 400, .inl (fun _ => nI 0))), (q2, .inl (c2, 400, .inl (fun _ => nI 0))), (q3, .inl (c3, 400, .inl (fun _ => nI 0))), (q4, .inl (c4, 400, .inl (fun _ => nI 0))), (q5, .inl (c5, 400, .inl (fun _ => nI 0))), (q6, .inl (c6, 400, .inl (fun _ => nI 0))), (q7, .inl (c7, 400, .inl (fun _ => nI 0)))] H := hP
  have hD : va_D A [(h0, .inr (0, [.int (nI 0), .ref q1, .ref q2, .ref q3, .ref q4, .ref q5, .ref q6, .null, .null, .null, .null, .null, .null, .null])), (q1, .inl (c1, 400, .inl (fun _ => nI 0))), (q2, .inl (c2, 400, .inl (fun _ => nI 0))), (q3, .inl (c3, 400, .inl (fun _ => nI 0))), (q4, .inl (c4, 400, .inl (fun _ => nI 0))), (q5, .inl (c5, 400, .inl (fun _ => nI 0))), (q6, .inl (c6, 400, .inl (fun _ => nI 0))), (q7, .inl (c7, 400, .inl (fun _ => nI 0)))] := hD
  refine va_putF (D := (dC, dI)) (ci := 0) (v := .ref q7) (ty := .array .boolean) (C := RX0) (T := TX0) (N := 14) hx hb ht inX0 tyX0 tyX0_ok nmX0 hown hK hP hD hS 0 rfl rfl 7 (by decide) (ht _ zlX0_33) (fun _ h9 => h9) rfl hin rfl (by decide +kernel) rfl rfl (Nat.le_of_ble_eq_true rfl) dX0_init_69 (fun H locs hP hD hS => ?_)
  have hP : va_P (dC, dI) vwCl [(h0, .inr (0, [.int (nI 0), .ref q1, .ref q2, .ref q3, .ref q4, .ref q5, .ref q6, .ref q7, .null, .null, .null, .null, .null, .null])), (q1, .inl (c1, 400, .inl (fun _ => nI 0))), (q2, .inl (c2, 400, .inl (fun _ => nI 0))), (q3, .inl (c3, 400, .inl (fun _ => nI 0))), (q4, .inl (c4, 400, .inl (fun _ => nI 0))), (q5, .inl (c5, 400, .inl (fun _ => nI 0))), (q6, .inl (c6, 400, .inl (fun _ => nI 0))), (q7, .inl (c7, 400, .inl (fun _ => nI 0)))] H := hP
  have hD : va_D A [(h0, .inr (0, [.int (nI 0), .ref q1, .ref q2, .ref q3, .ref q4, .ref q5, .ref q6, .ref q7, .null, .null, .null, .null, .null, .null])), (q1, .inl (c1, 400, .inl (fun _ => nI 0))), (q2, .inl (c2, 400, .inl (fun _ => nI 0))), (q3, .inl (c3, 400, .inl (fun _ => nI 0))), (q4, .inl (c4, 400, .inl (fun _ => nI 0))), (q5, .inl (c5, 400, .inl (fun _ => nI 0))), (q6, .inl (c6, 400, .inl (fun _ => nI 0))), (q7, .inl (c7, 400, .inl (fun _ => nI 0)))] := hD
  refine lv_aload_n hx hb dX0_init_72 rfl (lv_at hl 0 rfl) ?_
  refine lv_sipush (v := nI 400) hx hb dX0_init_73 (by decide) ?_
  refine va_newa (atype := .boolean) (a0 := (400, .inl (fun _ => nI 0))) (ty := .boolean) hx hb (ht _ za_Z) rfl hK hP hD hS hA (fun _ => rfl) (by decide) (by decide) (by decide) (Nat.le_of_ble_eq_true rfl) (Nat.le_of_ble_eq_true rfl) dX0_init_76 (fun q8 c8 H hK hP hD hS => ?_)
  have hP : va_P (dC, dI) vwCl [(h0, .inr (0, [.int (nI 0), .ref q1, .ref q2, .ref q3, .ref q4, .ref q5, .ref q6, .ref q7, .null, .null, .null, .null, .null, .null])), (q1, .inl (c1, 400, .inl (fun _ => nI 0))), (q2, .inl (c2, 400, .inl (fun _ => nI 0))), (q3, .inl (c3, 400, .inl (fun _ => nI 0))), (q4, .inl (c4, 400, .inl (fun _ => nI 0))), (q5, .inl (c5, 400, .inl (fun _ => nI 0))), (q6, .inl (c6, 400, .inl (fun _ => nI 0))), (q7, .inl (c7, 400, .inl (fun _ => nI 0))), (q8, .inl (c8, 400, .inl (fun _ => nI 0)))] H := hP
  have hD : va_D A [(h0, .inr (0, [.int (nI 0), .ref q1, .ref q2, .ref q3, .ref q4, .ref q5, .ref q6, .ref q7, .null, .null, .null, .null, .null, .null])), (q1, .inl (c1, 400, .inl (fun _ => nI 0))), (q2, .inl (c2, 400, .inl (fun _ => nI 0))), (q3, .inl (c3, 400, .inl (fun _ => nI 0))), (q4, .inl (c4, 400, .inl (fun _ => nI 0))), (q5, .inl (c5, 400, .inl (fun _ => nI 0))), (q6, .inl (c6, 400, .inl (fun _ => nI 0))), (q7, .inl (c7, 400, .inl (fun _ => nI 0))), (q8, .inl (c8, 400, .inl (fun _ => nI 0)))] := hD
  refine va_putF (D := (dC, dI)) (ci := 0) (v := .ref q8) (ty := .array .boolean) (C := RX0) (T := TX0) (N := 14) hx hb ht inX0 tyX0 tyX0_ok nmX0 hown hK hP hD hS 0 rfl rfl 8 (by decide) (ht _ zlX0_36) (fun _ h9 => h9) rfl hin rfl (by decide +kernel) rfl rfl (Nat.le_of_ble_eq_true rfl) dX0_init_78 (fun H locs hP hD hS => ?_)
  have hP : va_P (dC, dI) vwCl [(h0, .inr (0, [.int (nI 0), .ref q1, .ref q2, .ref q3, .ref q4, .ref q5, .ref q6, .ref q7, .ref q8, .null, .null, .null, .null, .null])), (q1, .inl (c1, 400, .inl (fun _ => nI 0))), (q2, .inl (c2, 400, .inl (fun _ => nI 0))), (q3, .inl (c3, 400, .inl (fun _ => nI 0))), (q4, .inl (c4, 400, .inl (fun _ => nI 0))), (q5, .inl (c5, 400, .inl (fun _ => nI 0))), (q6, .inl (c6, 400, .inl (fun _ => nI 0))), (q7, .inl (c7, 400, .inl (fun _ => nI 0))), (q8, .inl (c8, 400, .inl (fun _ => nI 0)))] H := hP
  have hD : va_D A [(h0, .inr (0, [.int (nI 0), .ref q1, .ref q2, .ref q3, .ref q4, .ref q5, .ref q6, .ref q7, .ref q8, .null, .null, .null, .null, .null])), (q1, .inl (c1, 400, .inl (fun _ => nI 0))), (q2, .inl (c2, 400, .inl (fun _ => nI 0))), (q3, .inl (c3, 400, .inl (fun _ => nI 0))), (q4, .inl (c4, 400, .inl (fun _ => nI 0))), (q5, .inl (c5, 400, .inl (fun _ => nI 0))), (q6, .inl (c6, 400, .inl (fun _ => nI 0))), (q7, .inl (c7, 400, .inl (fun _ => nI 0))), (q8, .inl (c8, 400, .inl (fun _ => nI 0)))] := hD
  refine lv_aload_n hx hb dX0_init_81 rfl (lv_at hl 0 rfl) ?_
  refine lv_sipush (v := nI 400) hx hb dX0_init_82 (by decide) ?_
  refine va_newa (atype := .boolean) (a0 := (400, .inl (fun _ => nI 0))) (ty := .boolean) hx hb (ht _ za_Z) rfl hK hP hD hS hA (fun _ => rfl) (by decide) (by decide) (by decide) (Nat.le_of_ble_eq_true rfl) (Nat.le_of_ble_eq_true rfl) dX0_init_85 (fun q9 c9 H hK hP hD hS => ?_)
  have hP : va_P (dC, dI) vwCl [(h0, .inr (0, [.int (nI 0), .ref q1, .ref q2, .ref q3, .ref q4, .ref q5, .ref q6, .ref q7, .ref q8, .null, .null, .null, .null, .null])), (q1, .inl (c1, 400, .inl (fun _ => nI 0))), (q2, .inl (c2, 400, .inl (fun _ => nI 0))), (q3, .inl (c3, 400, .inl (fun _ => nI 0))), (q4, .inl (c4, 400, .inl (fun _ => nI 0))), (q5, .inl (c5, 400, .inl (fun _ => nI 0))), (q6, .inl (c6, 400, .inl (fun _ => nI 0))), (q7, .inl (c7, 400, .inl (fun _ => nI 0))), (q8, .inl (c8, 400, .inl (fun _ => nI 0))), (q9, .inl (c9, 400, .inl (fun _ => nI 0)))] H := hP
  have hD : va_D A [(h0, .inr (0, [.int (nI 0), .ref q1, .ref q2, .ref q3, .ref q4, .ref q5, .ref q6, .ref q7, .ref q8, .null, .null, .null, .null, .null])), (q1, .inl (c1, 400, .inl (fun _ => nI 0))), (q2, .inl (c2, 400, .inl (fun _ => nI 0))), (q3, .inl (c3, 400, .inl (fun _ => nI 0))), (q4, .inl (c4, 400, .inl (fun _ => nI 0))), (q5, .inl (c5, 400, .inl (fun _ => nI 0))), (q6, .inl (c6, 400, .inl (fun _ => nI 0))), (q7, .inl (c7, 400, .inl (fun _ => nI 0))), (q8, .inl (c8, 400, .inl (fun _ => nI 0))), (q9, .inl (c9, 400, .inl (fun _ => nI 0)))] := hD
  refine va_putF (D := (dC, dI)) (ci := 0) (v := .ref q9) (ty := .array .boolean) (C := RX0) (T := TX0) (N := 14) hx hb ht inX0 tyX0 tyX0_ok nmX0 hown hK hP hD hS 0 rfl rfl 9 (by decide) (ht _ zlX0_39) (fun _ h9 => h9) rfl hin rfl (by decide +kernel) rfl rfl (Nat.le_of_ble_eq_true rfl) dX0_init_87 (fun H locs hP hD hS => ?_)
  have hP : va_P (dC, dI) vwCl [(h0, .inr (0, [.int (nI 0), .ref q1, .ref q2, .ref q3, .ref q4, .ref q5, .ref q6, .ref q7, .ref q8, .ref q9, .null, .null, .null, .null])), (q1, .inl (c1, 400, .inl (fun _ => nI 0))), (q2, .inl (c2, 400, .inl (fun _ => nI 0))), (q3, .inl (c3, 400, .inl (fun _ => nI 0))), (q4, .inl (c4, 400, .inl (fun _ => nI 0))), (q5, .inl (c5, 400, .inl (fun _ => nI 0))), (q6, .inl (c6, 400, .inl (fun _ => nI 0))), (q7, .inl (c7, 400, .inl (fun _ => nI 0))), (q8, .inl (c8, 400, .inl (fun _ => nI 0))), (q9, .inl (c9, 400, .inl (fun _ => nI 0)))] H := hP
  have hD : va_D A [(h0, .inr (0, [.int (nI 0), .ref q1, .ref q2, .ref q3, .ref q4, .ref q5, .ref q6, .ref q7, .ref q8, .ref q9, .null, .null, .null, .null])), (q1, .inl (c1, 400, .inl (fun _ => nI 0))), (q2, .inl (c2, 400, .inl (fun _ => nI 0))), (q3, .inl (c3, 400, .inl (fun _ => nI 0))), (q4, .inl (c4, 400, .inl (fun _ => nI 0))), (q5, .inl (c5, 400, .inl (fun _ => nI 0))), (q6, .inl (c6, 400, .inl (fun _ => nI 0))), (q7, .inl (c7, 400, .inl (fun _ => nI 0))), (q8, .inl (c8, 400, .inl (fun _ => nI 0))), (q9, .inl (c9, 400, .inl (fun _ => nI 0)))] := hD
  refine lv_aload_n hx hb dX0_init_90 rfl (lv_at hl 0 rfl) ?_
  refine lv_sipush (v := nI 400) hx hb dX0_init_91 (by decide) ?_
  refine va_newa (atype := .boolean) (a0 := (400, .inl (fun _ => nI 0))) (ty := .boolean) hx hb (ht _ za_Z) rfl hK hP hD hS hA (fun _ => rfl) (by decide) (by decide) (by decide) (Nat.le_of_ble_eq_true rfl) (Nat.le_of_ble_eq_true rfl) dX0_init_94 (fun q10 c10 H hK hP hD hS => ?_)
  have hP : va_P (dC, dI) vwCl [(h0, .inr (0, [.int (nI 0), .ref q1, .ref q2, .ref q3, .ref q4, .ref q5, .ref q6, .ref q7, .ref q8, .ref q9, .null, .null, .null, .null])), (q1, .inl (c1, 400, .inl (fun _ => nI 0))), (q2, .inl (c2, 400, .inl (fun _ => nI 0))), (q3, .inl (c3, 400, .inl (fun _ => nI 0))), (q4, .inl (c4, 400, .inl (fun _ => nI 0))), (q5, .inl (c5, 400, .inl (fun _ => nI 0))), (q6, .inl (c6, 400, .inl (fun _ => nI 0))), (q7, .inl (c7, 400, .inl (fun _ => nI 0))), (q8, .inl (c8, 400, .inl (fun _ => nI 0))), (q9, .inl (c9, 400, .inl (fun _ => nI 0))), (q10, .inl (c10, 400, .inl (fun _ => nI 0)))] H := hP
  have hD : va_D A [(h0, .inr (0, [.int (nI 0), .ref q1, .ref q2, .ref q3, .ref q4, .ref q5, .ref q6, .ref q7, .ref q8, .ref q9, .null, .null, .null, .null])), (q1, .inl (c1, 400, .inl (fun _ => nI 0))), (q2, .inl (c2, 400, .inl (fun _ => nI 0))), (q3, .inl (c3, 400, .inl (fun _ => nI 0))), (q4, .inl (c4, 400, .inl (fun _ => nI 0))), (q5, .inl (c5, 400, .inl (fun _ => nI 0))), (q6, .inl (c6, 400, .inl (fun _ => nI 0))), (q7, .inl (c7, 400, .inl (fun _ => nI 0))), (q8, .inl (c8, 400, .inl (fun _ => nI 0))), (q9, .inl (c9, 400, .inl (fun _ => nI 0))), (q10, .inl (c10, 400, .inl (fun _ => nI 0)))] := hD
  refine va_putF (D := (dC, dI)) (ci := 0) (v := .ref q10) (ty := .array .boolean) (C := RX0) (T := TX0) (N := 14) hx hb ht inX0 tyX0 tyX0_ok nmX0 hown hK hP hD hS 0 rfl rfl 10 (by decide) (ht _ zlX0_42) (fun _ h9 => h9) rfl hin rfl (by decide +kernel) rfl rfl (Nat.le_of_ble_eq_true rfl) dX0_init_96 (fun H locs hP hD hS => ?_)
  have hP : va_P (dC, dI) vwCl [(h0, .inr (0, [.int (nI 0), .ref q1, .ref q2, .ref q3, .ref q4, .ref q5, .ref q6, .ref q7, .ref q8, .ref q9, .ref q10, .null, .null, .null])), (q1, .inl (c1, 400, .inl (fun _ => nI 0))), (q2, .inl (c2, 400, .inl (fun _ => nI 0))), (q3, .inl (c3, 400, .inl (fun _ => nI 0))), (q4, .inl (c4, 400, .inl (fun _ => nI 0))), (q5, .inl (c5, 400, .inl (fun _ => nI 0))), (q6, .inl (c6, 400, .inl (fun _ => nI 0))), (q7, .inl (c7, 400, .inl (fun _ => nI 0))), (q8, .inl (c8, 400, .inl (fun _ => nI 0))), (q9, .inl (c9, 400, .inl (fun _ => nI 0))), (q10, .inl (c10, 400, .inl (fun _ => nI 0)))] H := hP
  have hD : va_D A [(h0, .inr (0, [.int (nI 0), .ref q1, .ref q2, .ref q3, .ref q4, .ref q5, .ref q6, .ref q7, .ref q8, .ref q9, .ref q10, .null, .null, .null])), (q1, .inl (c1, 400, .inl (fun _ => nI 0))), (q2, .inl (c2, 400, .inl (fun _ => nI 0))), (q3, .inl (c3, 400, .inl (fun _ => nI 0))), (q4, .inl (c4, 400, .inl (fun _ => nI 0))), (q5, .inl (c5, 400, .inl (fun _ => nI 0))), (q6, .inl (c6, 400, .inl (fun _ => nI 0))), (q7, .inl (c7, 400, .inl (fun _ => nI 0))), (q8, .inl (c8, 400, .inl (fun _ => nI 0))), (q9, .inl (c9, 400, .inl (fun _ => nI 0))), (q10, .inl (c10, 400, .inl (fun _ => nI 0)))] := hD
  refine lv_aload_n hx hb dX0_init_99 rfl (lv_at hl 0 rfl) ?_
  refine lv_sipush (v := nI 400) hx hb dX0_init_100 (by decide) ?_
  refine va_newa (atype := .int) (a0 := (400, .inl (fun _ => nI 0))) (ty := .int) hx hb (ht _ za_I) rfl hK hP hD hS hA (fun _ => rfl) (by decide) (by decide) (by decide) (Nat.le_of_ble_eq_true rfl) (Nat.le_of_ble_eq_true rfl) dX0_init_103 (fun q11 c11 H hK hP hD hS => ?_)
  have hP : va_P (dC, dI) vwCl [(h0, .inr (0, [.int (nI 0), .ref q1, .ref q2, .ref q3, .ref q4, .ref q5, .ref q6, .ref q7, .ref q8, .ref q9, .ref q10, .null, .null, .null])), (q1, .inl (c1, 400, .inl (fun _ => nI 0))), (q2, .inl (c2, 400, .inl (fun _ => nI 0))), (q3, .inl (c3, 400, .inl (fun _ => nI 0))), (q4, .inl (c4, 400, .inl (fun _ => nI 0))), (q5, .inl (c5, 400, .inl (fun _ => nI 0))), (q6, .inl (c6, 400, .inl (fun _ => nI 0))), (q7, .inl (c7, 400, .inl (fun _ => nI 0))), (q8, .inl (c8, 400, .inl (fun _ => nI 0))), (q9, .inl (c9, 400, .inl (fun _ => nI 0))), (q10, .inl (c10, 400, .inl (fun _ => nI 0))), (q11, .inl (c11, 400, .inl (fun _ => nI 0)))] H := hP
  have hD : va_D A [(h0, .inr (0, [.int (nI 0), .ref q1, .ref q2, .ref q3, .ref q4, .ref q5, .ref q6, .ref q7, .ref q8, .ref q9, .ref q10, .null, .null, .null])), (q1, .inl (c1, 400, .inl (fun _ => nI 0))), (q2, .inl (c2, 400, .inl (fun _ => nI 0))), (q3, .inl (c3, 400, .inl (fun _ => nI 0))), (q4, .inl (c4, 400, .inl (fun _ => nI 0))), (q5, .inl (c5, 400, .inl (fun _ => nI 0))), (q6, .inl (c6, 400, .inl (fun _ => nI 0))), (q7, .inl (c7, 400, .inl (fun _ => nI 0))), (q8, .inl (c8, 400, .inl (fun _ => nI 0))), (q9, .inl (c9, 400, .inl (fun _ => nI 0))), (q10, .inl (c10, 400, .inl (fun _ => nI 0))), (q11, .inl (c11, 400, .inl (fun _ => nI 0)))] := hD
  refine va_putF (D := (dC, dI)) (ci := 0) (v := .ref q11) (ty := .array .int) (C := RX0) (T := TX0) (N := 14) hx hb ht inX0 tyX0 tyX0_ok nmX0 hown hK hP hD hS 0 rfl rfl 11 (by decide) (ht _ zlX0_45) (fun _ h9 => h9) rfl hin rfl (by decide +kernel) rfl rfl (Nat.le_of_ble_eq_true rfl) dX0_init_105 (fun H locs hP hD hS => ?_)
  have hP : va_P (dC, dI) vwCl [(h0, .inr (0, [.int (nI 0), .ref q1, .ref q2, .ref q3, .ref q4, .ref q5, .ref q6, .ref q7, .ref q8, .ref q9, .ref q10, .ref q11, .null, .null])), (q1, .inl (c1, 400, .inl (fun _ => nI 0))), (q2, .inl (c2, 400, .inl (fun _ => nI 0))), (q3, .inl (c3, 400, .inl (fun _ => nI 0))), (q4, .inl (c4, 400, .inl (fun _ => nI 0))), (q5, .inl (c5, 400, .inl (fun _ => nI 0))), (q6, .inl (c6, 400, .inl (fun _ => nI 0))), (q7, .inl (c7, 400, .inl (fun _ => nI 0))), (q8, .inl (c8, 400, .inl (fun _ => nI 0))), (q9, .inl (c9, 400, .inl (fun _ => nI 0))), (q10, .inl (c10, 400, .inl (fun _ => nI 0))), (q11, .inl (c11, 400, .inl (fun _ => nI 0)))] H := hP
  have hD : va_D A [(h0, .inr (0, [.int (nI 0), .ref q1, .ref q2, .ref q3, .ref q4, .ref q5, .ref q6, .ref q7, .ref q8, .ref q9, .ref q10, .ref q11, .null, .null])), (q1, .inl (c1, 400, .inl (fun _ => nI 0))), (q2, .inl (c2, 400, .inl (fun _ => nI 0))), (q3, .inl (c3, 400, .inl (fun _ => nI 0))), (q4, .inl (c4, 400, .inl (fun _ => nI 0))), (q5, .inl (c5, 400, .inl (fun _ => nI 0))), (q6, .inl (c6, 400, .inl (fun _ => nI 0))), (q7, .inl (c7, 400, .inl (fun _ => nI 0))), (q8, .inl (c8, 400, .inl (fun _ => nI 0))), (q9, .inl (c9, 400, .inl (fun _ => nI 0))), (q10, .inl (c10, 400, .inl (fun _ => nI 0))), (q11, .inl (c11, 400, .inl (fun _ => nI 0)))] := hD
  refine lv_aload_n hx hb dX0_init_108 rfl (lv_at hl 0 rfl) ?_
  refine lv_sipush (v := nI 400) hx hb dX0_init_109 (by decide) ?_
  refine va_newa (atype := .int) (a0 := (400, .inl (fun _ => nI 0))) (ty := .int) hx hb (ht _ za_I) rfl hK hP hD hS hA (fun _ => rfl) (by decide) (by decide) (by decide) (Nat.le_of_ble_eq_true rfl) (Nat.le_of_ble_eq_true rfl) dX0_init_112 (fun q12 c12 H hK hP hD hS => ?_)
  have hP : va_P (dC, dI) vwCl [(h0, .inr (0, [.int (nI 0), .ref q1, .ref q2, .ref q3, .ref q4, .ref q5, .ref q6, .ref q7, .ref q8, .ref q9, .ref q10, .ref q11, .null, .null])), (q1, .inl (c1, 400, .inl (fun _ => nI 0))), (q2, .inl (c2, 400, .inl (fun _ => nI 0))), (q3, .inl (c3, 400, .inl (fun _ => nI 0))), (q4, .inl (c4, 400, .inl (fun _ => nI 0))), (q5, .inl (c5, 400, .inl (fun _ => nI 0))), (q6, .inl (c6, 400, .inl (fun _ => nI 0))), (q7, .inl (c7, 400, .inl (fun _ => nI 0))), (q8, .inl (c8, 400, .inl (fun _ => nI 0))), (q9, .inl (c9, 400, .inl (fun _ => nI 0))), (q10, .inl (c10, 400, .inl (fun _ => nI 0))), (q11, .inl (c11, 400, .inl (fun _ => nI 0))), (q12, .inl (c12, 400, .inl (fun _ => nI 0)))] H := hP
  have hD : va_D A [(h0, .inr (0, [.int (nI 0), .ref q1, .ref q2, .ref q3, .ref q4, .ref q5, .ref q6, .ref q7, .ref q8, .ref q9, .ref q10, .ref q11, .null, .null])), (q1, .inl (c1, 400, .inl (fun _ => nI 0))), (q2, .inl (c2, 400, .inl (fun _ => nI 0))), (q3, .inl (c3, 400, .inl (fun _ => nI 0))), (q4, .inl (c4, 400, .inl (fun _ => nI 0))), (q5, .inl (c5, 400, .inl (fun _ => nI 0))), (q6, .inl (c6, 400, .inl (fun _ => nI 0))), (q7, .inl (c7, 400, .inl (fun _ => nI 0))), (q8, .inl (c8, 400, .inl (fun _ => nI 0))), (q9, .inl (c9, 400, .inl (fun _ => nI 0))), (q10, .inl (c10, 400, .inl (fun _ => nI 0))), (q11, .inl (c11, 400, .inl (fun _ => nI 0))), (q12, .inl (c12, 400, .inl (fun _ => nI 0)))] := hD
  refine va_putF (D := (dC, dI)) (ci := 0) (v := .ref q12) (ty := .array .int) (C := RX0) (T := TX0) (N := 14) hx hb ht inX0 tyX0 tyX0_ok nmX0 hown hK hP hD hS 0 rfl rfl 12 (by decide) (ht _ zlX0_48) (fun _ h9 => h9) rfl hin rfl (by decide +kernel) rfl rfl (Nat.le_of_ble_eq_true rfl) dX0_init_114 (fun H locs hP hD hS => ?_)
  have hP : va_P (dC, dI) vwCl [(h0, .inr (0, [.int (nI 0), .ref q1, .ref q2, .ref q3, .ref q4, .ref q5, .ref q6, .ref q7, .ref q8, .ref q9, .ref q10, .ref q11, .ref q12, .null])), (q1, .inl (c1, 400, .inl (fun _ => nI 0))), (q2, .inl (c2, 400, .inl (fun _ => nI 0))), (q3, .inl (c3, 400, .inl (fun _ => nI 0))), (q4, .inl (c4, 400, .inl (fun _ => nI 0))), (q5, .inl (c5, 400, .inl (fun _ => nI 0))), (q6, .inl (c6, 400, .inl (fun _ => nI 0))), (q7, .inl (c7, 400, .inl (fun _ => nI 0))), (q8, .inl (c8, 400, .inl (fun _ => nI 0))), (q9, .inl (c9, 400, .inl (fun _ => nI 0))), (q10, .inl (c10, 400, .inl (fun _ => nI 0))), (q11, .inl (c11, 400, .inl (fun _ => nI 0))), (q12, .inl (c12, 400, .inl (fun _ => nI 0)))] H := hP
  have hD : va_D A [(h0, .inr (0, [.int (nI 0), .ref q1, .ref q2, .ref q3, .ref q4, .ref q5, .ref q6, .ref q7, .ref q8, .ref q9, .ref q10, .ref q11, .ref q12, .null])), (q1, .inl (c1, 400, .inl (fun _ => nI 0))), (q2, .inl (c2, 400, .inl (fun _ => nI 0))), (q3, .inl (c3, 400, .inl (fun _ => nI 0))), (q4, .inl (c4, 400, .inl (fun _ => nI 0))), (q5, .inl (c5, 400, .inl (fun _ => nI 0))), (q6, .inl (c6, 400, .inl (fun _ => nI 0))), (q7, .inl (c7, 400, .inl (fun _ => nI 0))), (q8, .inl (c8, 400, .inl (fun _ => nI 0))), (q9, .inl (c9, 400, .inl (fun _ => nI 0))), (q10, .inl (c10, 400, .inl (fun _ => nI 0))), (q11, .inl (c11, 400, .inl (fun _ => nI 0))), (q12, .inl (c12, 400, .inl (fun _ => nI 0)))] := hD
  refine lv_aload_n hx hb dX0_init_117 rfl (lv_at hl 0 rfl) ?_
  refine lv_sipush (v := nI 400) hx hb dX0_init_118 (by decide) ?_
  refine va_newa (atype := .int) (a0 := (400, .inl (fun _ => nI 0))) (ty := .int) hx hb (ht _ za_I) rfl hK hP hD hS hA (fun _ => rfl) (by decide) (by decide) (by decide) (Nat.le_of_ble_eq_true rfl) (Nat.le_of_ble_eq_true rfl) dX0_init_121 (fun q13 c13 H hK hP hD hS => ?_)
  have hP : va_P (dC, dI) vwCl [(h0, .inr (0, [.int (nI 0), .ref q1, .ref q2, .ref q3, .ref q4, .ref q5, .ref q6, .ref q7, .ref q8, .ref q9, .ref q10, .ref q11, .ref q12, .null])), (q1, .inl (c1, 400, .inl (fun _ => nI 0))), (q2, .inl (c2, 400, .inl (fun _ => nI 0))), (q3, .inl (c3, 400, .inl (fun _ => nI 0))), (q4, .inl (c4, 400, .inl (fun _ => nI 0))), (q5, .inl (c5, 400, .inl (fun _ => nI 0))), (q6, .inl (c6, 400, .inl (fun _ => nI 0))), (q7, .inl (c7, 400, .inl (fun _ => nI 0))), (q8, .inl (c8, 400, .inl (fun _ => nI 0))), (q9, .inl (c9, 400, .inl (fun _ => nI 0))), (q10, .inl (c10, 400, .inl (fun _ => nI 0))), (q11, .inl (c11, 400, .inl (fun _ => nI 0))), (q12, .inl (c12, 400, .inl (fun _ => nI 0))), (q13, .inl (c13, 400, .inl (fun _ => nI 0)))] H := hP
  have hD : va_D A [(h0, .inr (0, [.int (nI 0), .ref q1, .ref q2, .ref q3, .ref q4, .ref q5, .ref q6, .ref q7, .ref q8, .ref q9, .ref q10, .ref q11, .ref q12, .null])), (q1, .inl (c1, 400, .inl (fun _ => nI 0))), (q2, .inl (c2, 400, .inl (fun _ => nI 0))), (q3, .inl (c3, 400, .inl (fun _ => nI 0))), (q4, .inl (c4, 400, .inl (fun _ => nI 0))), (q5, .inl (c5, 400, .inl (fun _ => nI 0))), (q6, .inl (c6, 400, .inl (fun _ => nI 0))), (q7, .inl (c7, 400, .inl (fun _ => nI 0))), (q8, .inl (c8, 400, .inl (fun _ => nI 0))), (q9, .inl (c9, 400, .inl (fun _ => nI 0))), (q10, .inl (c10, 400, .inl (fun _ => nI 0))), (q11, .inl (c11, 400, .inl (fun _ => nI 0))), (q12, .inl (c12, 400, .inl (fun _ => nI 0))), (q13, .inl (c13, 400, .inl (fun _ => nI 0)))] := hD
  refine va_putF (D := (dC, dI)) (ci := 0) (v := .ref q13) (ty := .array .int) (C := RX0) (T := TX0) (N := 14) hx hb ht inX0 tyX0 tyX0_ok nmX0 hown hK hP hD hS 0 rfl rfl 13 (by decide) (ht _ zlX0_51) (fun _ h9 => h9) rfl hin rfl (by decide +kernel) rfl rfl (Nat.le_of_ble_eq_true rfl) dX0_init_123 (fun H locs hP hD hS => ?_)
  have hP : va_P (dC, dI) vwCl [(h0, .inr (0, [.int (nI 0), .ref q1, .ref q2, .ref q3, .ref q4, .ref q5, .ref q6, .ref q7, .ref q8, .ref q9, .ref q10, .ref q11, .ref q12, .ref q13])), (q1, .inl (c1, 400, .inl (fun _ => nI 0))), (q2, .inl (c2, 400, .inl (fun _ => nI 0))), (q3, .inl (c3, 400, .inl (fun _ => nI 0))), (q4, .inl (c4, 400, .inl (fun _ => nI 0))), (q5, .inl (c5, 400, .inl (fun _ => nI 0))), (q6, .inl (c6, 400, .inl (fun _ => nI 0))), (q7, .inl (c7, 400, .inl (fun _ => nI 0))), (q8, .inl (c8, 400, .inl (fun _ => nI 0))), (q9, .inl (c9, 400, .inl (fun _ => nI 0))), (q10, .inl (c10, 400, .inl (fun _ => nI 0))), (q11, .inl (c11, 400, .inl (fun _ => nI 0))), (q12, .inl (c12, 400, .inl (fun _ => nI 0))), (q13, .inl (c13, 400, .inl (fun _ => nI 0)))] H := hP
  have hD : va_D A [(h0, .inr (0, [.int (nI 0), .ref q1, .ref q2, .ref q3, .ref q4, .ref q5, .ref q6, .ref q7, .ref q8, .ref q9, .ref q10, .ref q11, .ref q12, .ref q13])), (q1, .inl (c1, 400, .inl (fun _ => nI 0))), (q2, .inl (c2, 400, .inl (fun _ => nI 0))), (q3, .inl (c3, 400, .inl (fun _ => nI 0))), (q4, .inl (c4, 400, .inl (fun _ => nI 0))), (q5, .inl (c5, 400, .inl (fun _ => nI 0))), (q6, .inl (c6, 400, .inl (fun _ => nI 0))), (q7, .inl (c7, 400, .inl (fun _ => nI 0))), (q8, .inl (c8, 400, .inl (fun _ => nI 0))), (q9, .inl (c9, 400, .inl (fun _ => nI 0))), (q10, .inl (c10, 400, .inl (fun _ => nI 0))), (q11, .inl (c11, 400, .inl (fun _ => nI 0))), (q12, .inl (c12, 400, .inl (fun _ => nI 0))), (q13, .inl (c13, 400, .inl (fun _ => nI 0)))] := hD
  have x2 : c1 = c2 := Option.some.inj ((hK.2 0 _ rfl).2.symm.trans (hK.2 1 _ rfl).2)
  subst x2
  have x3 : c1 = c3 := Option.some.inj ((hK.2 0 _ rfl).2.symm.trans (hK.2 2 _ rfl).2)
  subst x3
  have x4 : c1 = c4 := Option.some.inj ((hK.2 0 _ rfl).2.symm.trans (hK.2 3 _ rfl).2)
  subst x4
  have x5 : c1 = c5 := Option.some.inj ((hK.2 0 _ rfl).2.symm.trans (hK.2 4 _ rfl).2)
  subst x5
  have x7 : c6 = c7 := Option.some.inj ((hK.2 5 _ rfl).2.symm.trans (hK.2 6 _ rfl).2)
  subst x7
  have x8 : c6 = c8 := Option.some.inj ((hK.2 5 _ rfl).2.symm.trans (hK.2 7 _ rfl).2)
  subst x8
  have x9 : c6 = c9 := Option.some.inj ((hK.2 5 _ rfl).2.symm.trans (hK.2 8 _ rfl).2)
  subst x9
  have x10 : c6 = c10 := Option.some.inj ((hK.2 5 _ rfl).2.symm.trans (hK.2 9 _ rfl).2)
  subst x10
  have x11 : c1 = c11 := Option.some.inj ((hK.2 0 _ rfl).2.symm.trans (hK.2 10 _ rfl).2)
  subst x11
  have x12 : c1 = c12 := Option.some.inj ((hK.2 0 _ rfl).2.symm.trans (hK.2 11 _ rfl).2)
  subst x12
  have x13 : c1 = c13 := Option.some.inj ((hK.2 0 _ rfl).2.symm.trans (hK.2 12 _ rfl).2)
  subst x13
  refine W.widen (k := 13) (n := 5200) (Nat.le_of_ble_eq_true rfl) (Nat.le_of_ble_eq_true rfl) ?_
  exact W.vret hx hb hr (fun t hth hW => ⟨⟨(dC, dI, (fun k => match k with | 0 => h0 | 1 => q1 | 2 => q2 | 3 => q3 | 4 => q4 | 5 => q5 | 6 => q6 | 7 => q7 | 8 => q8 | 9 => q9 | 10 => q10 | 11 => q11 | 12 => q12 | _ => q13), c1, c6), rfl, trivial, ⟨rfl, rfl, rfl⟩, ⟨va_K.moved hW.alike (hK.sub [0, 5] rfl), by rw [hth]; exact hP⟩, hD⟩, hS.F hth⟩) hS.2.2 dX0_init_126
end
section
-- PART: the face of the class: what each call answers and does to the row
def zp_put (n : Nat) (g : Nat → Nat → Nat) (k d a b : Int32) : Int32 × Nat × (Nat → Nat → Nat) := if (k.toInt < 0 ∨ 7 < k.toInt ∨ k.toInt = 5 ∨ ¬ (0 ≤ d.toInt ∧ d.toInt ≤ 31) ∨ ¬ (0 ≤ a.toInt ∧ a.toInt ≤ 31) ∨ ¬ (0 ≤ b.toInt ∧ b.toInt ≤ 31) ∨ (k.toInt = 7 ∧ ¬ (d.toInt = 0 ∧ a.toInt = 0 ∧ b.toInt = 0))) ∨ n = 400 then ((-1), n, g) else (nI n, n + 1, zs_append g n k.toInt.toNat d.toInt.toNat a.toInt.toNat b.toInt.toNat 0 0)
def zp_branch (n : Nat) (g : Nat → Nat → Nat) (f : Int32) (go : Nat) (d a : Int32) : Int32 × Nat × (Nat → Nat → Nat) := if (f.toInt < 0 ∨ 2 < f.toInt ∨ ¬ (0 ≤ d.toInt ∧ d.toInt ≤ 31) ∨ ¬ (0 ≤ a.toInt ∧ a.toInt ≤ 31)) ∨ n = 400 then ((-1), n, g) else (nI n, n + 1, zs_append g n 5 d.toInt.toNat a.toInt.toNat 0 f.toInt.toNat go)
def zp_fail (n : Nat) (g : Nat → Nat → Nat) : Int32 × Nat × (Nat → Nat → Nat) := if n = 0 then (nI 0, n, g) else (nI 1, n, zs_failLast g (n - 1))
def zp_drop (n : Nat) (g : Nat → Nat → Nat) (x : Int32) : Int32 × Nat × (Nat → Nat → Nat) := if x.toInt < 0 ∨ (n : Int) < x.toInt then (nI 0, n, g) else (nI 1, n - x.toInt.toNat, g)
def zp_again (n : Nat) (g : Nat → Nat → Nat) (x y : Int32) : Int32 × Nat × (Nat → Nat → Nat) := if ¬ (0 ≤ x.toInt ∧ x.toInt < n) ∨ y.toInt < 1 ∨ (n : Int) - x.toInt < y.toInt ∨ 400 - (n : Int) < y.toInt then ((-1), n, g) else (nI (n + y.toInt.toNat), n + y.toInt.toNat, zs_again g n x.toInt.toNat y.toInt.toNat)
def zr_time (n : Nat) (g : Nat → Nat → Nat) (x w : Int32) : Int32 := if ¬ (0 ≤ x.toInt ∧ x.toInt < n) then (-1) else zp_time g n x.toInt.toNat w.toInt
def zr_of (n : Nat) (g : Nat → Nat → Nat) (x w : Int32) : Int32 := if ¬ (0 ≤ x.toInt ∧ x.toInt < n) then (-1) else zp_of g x.toInt.toNat w.toInt
def zr_stage (n : Nat) (g : Nat → Nat → Nat) (x y : Int32) : Int32 := if ¬ (0 ≤ x.toInt ∧ x.toInt < n) ∨ y.toInt < 0 then (-1) else nI (zs_stage g x.toInt.toNat y.toInt.toNat)
def zr_many (n : Nat) (g : Nat → Nat → Nat) (x y : Int32) : Int32 := if x.toInt < 0 ∨ 3 < x.toInt ∨ y.toInt < 0 then (-1) else nI (zs_many g x.toInt.toNat y.toInt.toNat n)
set_option maxHeartbeats 1000000 in
set_option maxRecDepth 100000 in
theorem zf_put (l : Launch) (E : ia_E) (n : Nat) (g : Nat → Nat → Nat) (hg : zs_B g) (hn : n ≤ 400)  (k d a b : Int32) (sz : Nat) : ia_M l yX0_put cX0_put 5 .int 6 E n g sz [.int k, .int d, .int a, .int b] (zp_put n g k d a b).1 (zp_put n g k d a b).2.1 (zp_put n g k d a b).2.2 := by
  by_cases h0 : (k.toInt < 0 ∨ 7 < k.toInt ∨ k.toInt = 5 ∨ ¬ (0 ≤ d.toInt ∧ d.toInt ≤ 31) ∨ ¬ (0 ≤ a.toInt ∧ a.toInt ≤ 31) ∨ ¬ (0 ≤ b.toInt ∧ b.toInt ≤ 31) ∨ (k.toInt = 7 ∧ ¬ (d.toInt = 0 ∧ a.toInt = 0 ∧ b.toInt = 0)))
  · rw [show zp_put n g k d a b = ((-1), n, g) from if_pos (Or.inl h0)]
    exact zc_put_no l E n g hg k d a b h0 sz
  · obtain ⟨k', hk, rfl, ek⟩ := zi_of (x := k) (by omega)
    obtain ⟨d', hd, rfl, ed⟩ := zi_of (x := d) (by omega)
    obtain ⟨a', ha, rfl, ea⟩ := zi_of (x := a) (by omega)
    obtain ⟨b', hb, rfl, eb⟩ := zi_of (x := b) (by omega)
    by_cases h1 : n = 400
    · rw [show zp_put n g (nI k') (nI d') (nI a') (nI b') = ((-1), n, g) from if_pos (Or.inr h1)]
      exact zc_put_full l E n g hg k' d' a' b' h1 (by omega) (by omega) (by omega) sz
    · rw [show zp_put n g (nI k') (nI d') (nI a') (nI b') = (nI n, n + 1, zs_append g n k' d' a' b' 0 0) from by
        unfold zp_put; rw [if_neg (by omega), ek, ed, ea, eb]; rfl]
      exact zc_put l E n g hg k' d' a' b' (by omega) (by omega) (by omega) (by omega) sz
set_option maxHeartbeats 1000000 in
set_option maxRecDepth 100000 in
theorem zf_branch (l : Launch) (E : ia_E) (n : Nat) (g : Nat → Nat → Nat) (hg : zs_B g) (hn : n ≤ 400)  (f : Int32) (go : Nat) (hgo : go ≤ 1) (d a : Int32) (sz : Nat) : ia_M l yX0_branch cX0_branch 5 .int 6 E n g sz [.int f, .int (nI go), .int d, .int a] (zp_branch n g f go d a).1 (zp_branch n g f go d a).2.1 (zp_branch n g f go d a).2.2 := by
  by_cases h0 : (f.toInt < 0 ∨ 2 < f.toInt ∨ ¬ (0 ≤ d.toInt ∧ d.toInt ≤ 31) ∨ ¬ (0 ≤ a.toInt ∧ a.toInt ≤ 31))
  · rw [show zp_branch n g f go d a = ((-1), n, g) from if_pos (Or.inl h0)]
    exact zc_branch_no l E n g hg f go d a h0 sz
  · obtain ⟨f', hf, rfl, ef⟩ := zi_of (x := f) (by omega)
    obtain ⟨d', hd, rfl, ed⟩ := zi_of (x := d) (by omega)
    obtain ⟨a', ha, rfl, ea⟩ := zi_of (x := a) (by omega)
    by_cases h1 : n = 400
    · rw [show zp_branch n g (nI f') go (nI d') (nI a') = ((-1), n, g) from if_pos (Or.inr h1)]
      exact zc_branch_full l E n g hg f' go d' a' h1 (by omega) (by omega) sz
    · rw [show zp_branch n g (nI f') go (nI d') (nI a') = (nI n, n + 1, zs_append g n 5 d' a' 0 f' go) from by
        unfold zp_branch; rw [if_neg (by omega), ef, ed, ea]; rfl]
      exact zc_branch l E n g hg f' go d' a' (by omega) (by omega) (by omega) sz
set_option maxHeartbeats 1000000 in
set_option maxRecDepth 100000 in
theorem zf_fail (l : Launch) (E : ia_E) (n : Nat) (g : Nat → Nat → Nat) (hg : zs_B g) (hn : n ≤ 400)   (sz : Nat) : ia_M l yX0_fail cX0_fail 1 .boolean 6 E n g sz [] (zp_fail n g).1 (zp_fail n g).2.1 (zp_fail n g).2.2 := by
  by_cases h0 : n = 0
  · rw [show zp_fail n g = (nI 0, n, g) from if_pos h0]
    exact zc_fail_no l E n g hg h0 sz
  · rw [show zp_fail n g = (nI 1, n, zs_failLast g (n - 1)) from if_neg h0]
    exact zc_fail l E n g hg (by omega) sz
set_option maxHeartbeats 1000000 in
set_option maxRecDepth 100000 in
theorem zf_drop (l : Launch) (E : ia_E) (n : Nat) (g : Nat → Nat → Nat) (hg : zs_B g) (hn : n ≤ 400)  (x : Int32) (sz : Nat) : ia_M l yX0_drop cX0_drop 2 .boolean 0 E n g sz [.int x] (zp_drop n g x).1 (zp_drop n g x).2.1 (zp_drop n g x).2.2 := by
  by_cases h0 : x.toInt < 0 ∨ (n : Int) < x.toInt
  · rw [show zp_drop n g x = (nI 0, n, g) from if_pos h0]
    exact zc_drop_no l E n g hg x hn h0 sz
  · obtain ⟨x', hx, rfl, ex⟩ := zi_of (x := x) (by omega)
    rw [show zp_drop n g (nI x') = (nI 1, n - x', g) from by unfold zp_drop; rw [if_neg h0, ex]; rfl]
    exact zc_drop l E n g hg x' hn (by omega) sz
set_option maxHeartbeats 1000000 in
set_option maxRecDepth 100000 in
theorem zf_again (l : Launch) (E : ia_E) (n : Nat) (g : Nat → Nat → Nat) (hg : zs_B g) (hn : n ≤ 400) (hv : zs_V g) (x y : Int32) (sz : Nat) : ia_M l yX0_again cX0_again 4 .int 6 E n g sz [.int x, .int y] (zp_again n g x y).1 (zp_again n g x y).2.1 (zp_again n g x y).2.2 := by
  by_cases h0 : ¬ (0 ≤ x.toInt ∧ x.toInt < n)
  · rw [show zp_again n g x y = ((-1), n, g) from if_pos (Or.inl h0)]
    exact zc_again_no1 l E n g hg x y hn h0 sz
  · obtain ⟨x', hx, rfl, ex⟩ := zi_of (x := x) (by omega)
    by_cases h1 : y.toInt < 1 ∨ (n : Int) - (nI x').toInt < y.toInt ∨ 400 - (n : Int) < y.toInt
    · rw [show zp_again n g (nI x') y = ((-1), n, g) from if_pos (Or.inr h1)]
      exact zc_again_no2 l E n g hg x' y hn (by omega) (by omega) sz
    · obtain ⟨y', hy, rfl, ey⟩ := zi_of (x := y) (by omega)
      rw [show zp_again n g (nI x') (nI y') = (nI (n + y'), n + y', zs_again g n x' y') from by
        unfold zp_again; rw [if_neg (by omega), ex, ey]; rfl]
      exact zc_again l E n g hg x' y' hv hn (by omega) (by omega) sz
set_option maxHeartbeats 1000000 in
set_option maxRecDepth 100000 in
theorem zf_time (l : Launch) (E : ia_E) (n : Nat) (g : Nat → Nat → Nat) (hg : zs_B g) (hn : n ≤ 400)  (x w : Int32) : ia_R l yX0_time cX0_time 3 .int 1 E n g [.int x, .int w] (zr_time n g x w) := by
  by_cases h0 : ¬ (0 ≤ x.toInt ∧ x.toInt < n)
  · rw [show zr_time n g x w = (-1) from if_pos h0]
    exact zc_ptime_no l E n g hg x w hn h0
  · obtain ⟨x', hx, rfl, ex⟩ := zi_of (x := x) (by omega)
    rw [show zr_time n g (nI x') w = zp_time g n x' w.toInt from by unfold zr_time; rw [if_neg h0, ex]; rfl]
    exact zc_ptime l E n g hg x' w hn (by omega)
set_option maxHeartbeats 1000000 in
set_option maxRecDepth 100000 in
theorem zf_of (l : Launch) (E : ia_E) (n : Nat) (g : Nat → Nat → Nat) (hg : zs_B g) (hn : n ≤ 400)  (x w : Int32) : ia_R l yX0_of cX0_of 3 .int 3 E n g [.int x, .int w] (zr_of n g x w) := by
  by_cases h0 : ¬ (0 ≤ x.toInt ∧ x.toInt < n)
  · rw [show zr_of n g x w = (-1) from if_pos h0]
    exact zc_pof_no l E n g hg x w hn h0
  · obtain ⟨x', hx, rfl, ex⟩ := zi_of (x := x) (by omega)
    rw [show zr_of n g (nI x') w = zp_of g x' w.toInt from by unfold zr_of; rw [if_neg h0, ex]; rfl]
    exact zc_pof l E n g hg x' w hn (by omega)
set_option maxHeartbeats 1000000 in
set_option maxRecDepth 100000 in
theorem zf_stage (l : Launch) (E : ia_E) (n : Nat) (g : Nat → Nat → Nat) (hg : zs_B g) (hn : n ≤ 400)  (x y : Int32) : ia_R l yX0_stage cX0_stage 3 .int 1 E n g [.int x, .int y] (zr_stage n g x y) := by
  by_cases h0 : ¬ (0 ≤ x.toInt ∧ x.toInt < n) ∨ y.toInt < 0
  · rw [show zr_stage n g x y = (-1) from if_pos h0]
    exact zc_pstage_no l E n g hg x y hn h0
  · obtain ⟨x', hx, rfl, ex⟩ := zi_of (x := x) (by omega)
    obtain ⟨y', hy, rfl, ey⟩ := zi_of (x := y) (by omega)
    rw [show zr_stage n g (nI x') (nI y') = nI (zs_stage g x' y') from by unfold zr_stage; rw [if_neg h0, ex, ey]; rfl]
    exact zc_pstage l E n g hg x' y' hn (by omega) (by omega)
set_option maxHeartbeats 1000000 in
set_option maxRecDepth 100000 in
theorem zf_many (l : Launch) (E : ia_E) (n : Nat) (g : Nat → Nat → Nat) (hg : zs_B g) (hn : n ≤ 400)  (x y : Int32) : ia_R l yX0_many cX0_many 5 .int 1 E n g [.int x, .int y] (zr_many n g x y) := by
  by_cases h0 : x.toInt < 0 ∨ 3 < x.toInt ∨ y.toInt < 0
  · rw [show zr_many n g x y = (-1) from if_pos h0]
    exact zc_pmany_no l E n g hg x y hn h0
  · obtain ⟨x', hx, rfl, ex⟩ := zi_of (x := x) (by omega)
    obtain ⟨y', hy, rfl, ey⟩ := zi_of (x := y) (by omega)
    rw [show zr_many n g (nI x') (nI y') = nI (zs_many g x' y' n) from by unfold zr_many; rw [if_neg h0, ex, ey]; rfl]
    exact zc_pmany l E n g hg x' y' hn (by omega) (by omega)
end
section
-- the world of the reference: the same numbers for its rows as the class has, and 14 redirected, 15 behind, 16 writers (one more than the number; 0: none)
abbrev im_fs (E : ia_E) (n : Nat) : List Value := [.int (nI 0), .int (nI n), .ref (ia_h E 2), .ref (ia_h E 3), .ref (ia_h E 4), .ref (ia_h E 5), .ref (ia_h E 6), .ref (ia_h E 7), .ref (ia_h E 8), .ref (ia_h E 9), .ref (ia_h E 10), .ref (ia_h E 11), .ref (ia_h E 12), .ref (ia_h E 13), .ref (ia_h E 14), .ref (ia_h E 15), .ref (ia_h E 16), .ref (ia_h E 17)]
abbrev im_w (E : ia_E) (n : Nat) (g : Nat → Nat → Nat) : va_W := [(ia_h E 0, .inr (1, im_fs E n)), (ia_h E 2, .inl (ia_I E, 400, .inl (fun j => nI (g 1 j)))), (ia_h E 3, .inl (ia_I E, 400, .inl (fun j => nI (g 2 j)))), (ia_h E 4, .inl (ia_I E, 400, .inl (fun j => nI (g 3 j)))), (ia_h E 5, .inl (ia_I E, 400, .inl (fun j => nI (g 4 j)))), (ia_h E 6, .inl (ia_I E, 400, .inl (fun j => nI (g 5 j)))), (ia_h E 7, .inl (ia_Z E, 400, .inl (fun j => nI (g 6 j)))), (ia_h E 8, .inl (ia_Z E, 400, .inl (fun j => nI (g 7 j)))), (ia_h E 9, .inl (ia_Z E, 400, .inl (fun j => nI (g 9 j)))), (ia_h E 10, .inl (ia_Z E, 400, .inl (fun j => nI (g 8 j)))), (ia_h E 11, .inl (ia_Z E, 400, .inl (fun j => nI (g 14 j)))), (ia_h E 12, .inl (ia_Z E, 400, .inl (fun j => nI (g 15 j)))), (ia_h E 13, .inl (ia_I E, 400, .inl (fun j => nI (g 11 j)))), (ia_h E 14, .inl (ia_I E, 400, .inl (fun j => nI (g 12 j)))), (ia_h E 15, .inl (ia_I E, 400, .inl (fun j => nI (g 13 j)))), (ia_h E 16, .inl (ia_Z E, 400, .inl (fun j => nI (g 10 j)))), (ia_h E 17, .inl (ia_I E, 32, .inl (fun j => nI (g 16 j) + (-1))))]
def im_O (E : ia_E) (n : Nat) (g : Nat → Nat → Nat) (U : State) (H : Heap) : Prop := va_K (ia_D E) vwCl (ia_ty E) U ∧ va_P (ia_D E) vwCl (im_w E n g) H
theorem im_set2 (E : ia_E) (n : Nat) (g : Nat → Nat → Nat) (j v : Nat) : (im_w E n g).set 1 (ia_h E 2, .inl (ia_I E, 400, .inl (upd (fun b => nI (g 1 b)) j (nI v)))) = im_w E n (ia_up g 1 j v) := by
  rw [ia_upe]; rfl
theorem im_set3 (E : ia_E) (n : Nat) (g : Nat → Nat → Nat) (j v : Nat) : (im_w E n g).set 2 (ia_h E 3, .inl (ia_I E, 400, .inl (upd (fun b => nI (g 2 b)) j (nI v)))) = im_w E n (ia_up g 2 j v) := by
  rw [ia_upe]; rfl
theorem im_set4 (E : ia_E) (n : Nat) (g : Nat → Nat → Nat) (j v : Nat) : (im_w E n g).set 3 (ia_h E 4, .inl (ia_I E, 400, .inl (upd (fun b => nI (g 3 b)) j (nI v)))) = im_w E n (ia_up g 3 j v) := by
  rw [ia_upe]; rfl
theorem im_set5 (E : ia_E) (n : Nat) (g : Nat → Nat → Nat) (j v : Nat) : (im_w E n g).set 4 (ia_h E 5, .inl (ia_I E, 400, .inl (upd (fun b => nI (g 4 b)) j (nI v)))) = im_w E n (ia_up g 4 j v) := by
  rw [ia_upe]; rfl
theorem im_set6 (E : ia_E) (n : Nat) (g : Nat → Nat → Nat) (j v : Nat) : (im_w E n g).set 5 (ia_h E 6, .inl (ia_I E, 400, .inl (upd (fun b => nI (g 5 b)) j (nI v)))) = im_w E n (ia_up g 5 j v) := by
  rw [ia_upe]; rfl
theorem im_set7 (E : ia_E) (n : Nat) (g : Nat → Nat → Nat) (j v : Nat) : (im_w E n g).set 6 (ia_h E 7, .inl (ia_Z E, 400, .inl (upd (fun b => nI (g 6 b)) j (nI v)))) = im_w E n (ia_up g 6 j v) := by
  rw [ia_upe]; rfl
theorem im_set8 (E : ia_E) (n : Nat) (g : Nat → Nat → Nat) (j v : Nat) : (im_w E n g).set 7 (ia_h E 8, .inl (ia_Z E, 400, .inl (upd (fun b => nI (g 7 b)) j (nI v)))) = im_w E n (ia_up g 7 j v) := by
  rw [ia_upe]; rfl
theorem im_set9 (E : ia_E) (n : Nat) (g : Nat → Nat → Nat) (j v : Nat) : (im_w E n g).set 8 (ia_h E 9, .inl (ia_Z E, 400, .inl (upd (fun b => nI (g 9 b)) j (nI v)))) = im_w E n (ia_up g 9 j v) := by
  rw [ia_upe]; rfl
theorem im_set10 (E : ia_E) (n : Nat) (g : Nat → Nat → Nat) (j v : Nat) : (im_w E n g).set 9 (ia_h E 10, .inl (ia_Z E, 400, .inl (upd (fun b => nI (g 8 b)) j (nI v)))) = im_w E n (ia_up g 8 j v) := by
  rw [ia_upe]; rfl
theorem im_set11 (E : ia_E) (n : Nat) (g : Nat → Nat → Nat) (j v : Nat) : (im_w E n g).set 10 (ia_h E 11, .inl (ia_Z E, 400, .inl (upd (fun b => nI (g 14 b)) j (nI v)))) = im_w E n (ia_up g 14 j v) := by
  rw [ia_upe]; rfl
theorem im_set12 (E : ia_E) (n : Nat) (g : Nat → Nat → Nat) (j v : Nat) : (im_w E n g).set 11 (ia_h E 12, .inl (ia_Z E, 400, .inl (upd (fun b => nI (g 15 b)) j (nI v)))) = im_w E n (ia_up g 15 j v) := by
  rw [ia_upe]; rfl
theorem im_set13 (E : ia_E) (n : Nat) (g : Nat → Nat → Nat) (j v : Nat) : (im_w E n g).set 12 (ia_h E 13, .inl (ia_I E, 400, .inl (upd (fun b => nI (g 11 b)) j (nI v)))) = im_w E n (ia_up g 11 j v) := by
  rw [ia_upe]; rfl
theorem im_set14 (E : ia_E) (n : Nat) (g : Nat → Nat → Nat) (j v : Nat) : (im_w E n g).set 13 (ia_h E 14, .inl (ia_I E, 400, .inl (upd (fun b => nI (g 12 b)) j (nI v)))) = im_w E n (ia_up g 12 j v) := by
  rw [ia_upe]; rfl
theorem im_set15 (E : ia_E) (n : Nat) (g : Nat → Nat → Nat) (j v : Nat) : (im_w E n g).set 14 (ia_h E 15, .inl (ia_I E, 400, .inl (upd (fun b => nI (g 13 b)) j (nI v)))) = im_w E n (ia_up g 13 j v) := by
  rw [ia_upe]; rfl
theorem im_set16 (E : ia_E) (n : Nat) (g : Nat → Nat → Nat) (j v : Nat) : (im_w E n g).set 15 (ia_h E 16, .inl (ia_Z E, 400, .inl (upd (fun b => nI (g 10 b)) j (nI v)))) = im_w E n (ia_up g 10 j v) := by
  rw [ia_upe]; rfl
theorem im_upw (g : Nat → Nat → Nat) (j v : Nat) : upd (fun b => nI (g 16 b) + (-1)) j (nI v + (-1)) = fun b => nI (ia_up g 16 j v 16 b) + (-1) := by
  funext b
  unfold upd
  by_cases h : b = j <;> simp [ia_up, h]
theorem im_set17 (E : ia_E) (n : Nat) (g : Nat → Nat → Nat) (j v : Nat) : (im_w E n g).set 16 (ia_h E 17, .inl (ia_I E, 32, .inl (upd (fun b => nI (g 16 b) + (-1)) j (nI v + (-1))))) = im_w E n (ia_up g 16 j v) := by
  rw [im_upw]; rfl
theorem zk_wi {w : Nat} (h : w ≤ 400) : (nI w + (-1)).toInt = (w : Int) - 1 := by
  rcases (show w = 0 ∨ ∃ v, w = v + 1 from by cases w with | zero => exact Or.inl rfl | succ v => exact Or.inr ⟨v, rfl⟩) with rfl | ⟨v, rfl⟩
  · decide
  · rw [pk_m1, nI_toInt (by omega)]; omega
theorem zk_wn {w : Nat} (h : 0 < w) : nI w + (-1) = nI (w - 1) := by
  obtain ⟨v, rfl⟩ : ∃ v, w = v + 1 := ⟨w - 1, by omega⟩
  rw [pk_m1]; rfl
section ZM
variable {p : Program} {l : Launch} {e : Env} {R : Room} {s : State} {m : MethodId} {args : Array Value} {below : List Frame} {meth : Method} {c : Code} {H : Heap} {locs : List Loc} {cells slots : Nat} {Q : State → Prop} {cc : ByteArray} {pc : Nat} {ls : Array Slot} {rest : List Value}
variable {E : ia_E} {n : Nat} {g : Nat → Nat → Nat} {A : Nat → Prop} {H0 : Heap}
theorem im_ild (q f k j : Nat) (hx : p.tables.exec = Jvm.exec) (hb : c.code = cc) (hO : im_O E n g s H) (ha : (im_w E n g)[q]? = some (ia_h E f, .inl (ia_I E, 400, .inl (fun j => nI (g k j))))) (hj : j < 400) (hd : decode cc pc = .ok (.iaload, 1))
    (kk : W p l e R s m args below meth c H locs cells slots Q (F0 m (pc + 1) ls (.int (nI (g k j)) :: rest))) : W p l e R s m args below meth c H locs cells slots Q (F0 m pc ls (.int (nI j) :: .ref (ia_h E f) :: rest)) :=
  va_iald hx hb hO.1 hO.2 q 0 ha rfl (vp_in_nI hj (by decide)) hd (by rw [nI_clamp (by omega)]; exact kk)
theorem im_zld (q f k j : Nat) (hx : p.tables.exec = Jvm.exec) (hb : c.code = cc) (hO : im_O E n g s H) (ha : (im_w E n g)[q]? = some (ia_h E f, .inl (ia_Z E, 400, .inl (fun j => nI (g k j))))) (hj : j < 400) (hd : decode cc pc = .ok (.baload, 1))
    (kk : W p l e R s m args below meth c H locs cells slots Q (F0 m (pc + 1) ls (.int (nI (g k j)) :: rest))) : W p l e R s m args below meth c H locs cells slots Q (F0 m pc ls (.int (nI j) :: .ref (ia_h E f) :: rest)) :=
  va_zald hx hb hO.1 hO.2 q 1 ha rfl (vp_in_nI hj (by decide)) hd (by rw [nI_clamp (by omega)]; exact kk)
theorem im_wld (r : Nat) (hx : p.tables.exec = Jvm.exec) (hb : c.code = cc) (hO : im_O E n g s H) (hj : r < 32) (hd : decode cc pc = .ok (.iaload, 1))
    (kk : W p l e R s m args below meth c H locs cells slots Q (F0 m (pc + 1) ls (.int (nI (g 16 r) + (-1)) :: rest))) : W p l e R s m args below meth c H locs cells slots Q (F0 m pc ls (.int (nI r) :: .ref (ia_h E 17) :: rest)) :=
  va_iald hx hb hO.1 hO.2 16 0 rfl rfl (vp_in_nI hj (by decide)) hd (by rw [nI_clamp (by omega)]; exact kk)
theorem im_ist (q f k j v : Nat) (hx : p.tables.exec = Jvm.exec) (hb : c.code = cc) (hO : im_O E n g s H) (hD : va_D A (im_w E n g)) (hS : va_S A H0 H locs) (ha : (im_w E n g)[q]? = some (ia_h E f, .inl (ia_I E, 400, .inl (fun j => nI (g k j))))) (hset : (im_w E n g).set q (ia_h E f, .inl (ia_I E, 400, .inl (upd (fun b => nI (g k b)) j (nI v)))) = im_w E n (ia_up g k j v)) (hj : j < 400) (hd : decode cc pc = .ok (.iastore, 1))
    (kk : ∀ (H1 : Heap) (locs1 : List Loc), im_O E n (ia_up g k j v) s H1 → va_D A (im_w E n (ia_up g k j v)) → va_S A H0 H1 locs1 → W p l e R s m args below meth c H1 locs1 cells slots Q (F0 m (pc + 1) ls rest)) : W p l e R s m args below meth c H locs cells slots Q (F0 m pc ls (.int (nI v) :: .int (nI j) :: .ref (ia_h E f) :: rest)) :=
  va_iast hx hb hO.1 hO.2 hD hS q 0 ha rfl (vp_in_nI hj (by decide)) hd (fun H1 locs1 h1 h2 h3 => by
    rw [nI_clamp (by omega), hset] at h1 h2
    exact kk H1 locs1 ⟨hO.1, h1⟩ h2 h3)
theorem im_zst (q f k j v : Nat) (hx : p.tables.exec = Jvm.exec) (hb : c.code = cc) (hO : im_O E n g s H) (hD : va_D A (im_w E n g)) (hS : va_S A H0 H locs) (ha : (im_w E n g)[q]? = some (ia_h E f, .inl (ia_Z E, 400, .inl (fun j => nI (g k j))))) (hset : (im_w E n g).set q (ia_h E f, .inl (ia_Z E, 400, .inl (upd (fun b => nI (g k b)) j (nI v)))) = im_w E n (ia_up g k j v)) (hj : j < 400) (hv : v ≤ 1) (hd : decode cc pc = .ok (.bastore, 1))
    (kk : ∀ (H1 : Heap) (locs1 : List Loc), im_O E n (ia_up g k j v) s H1 → va_D A (im_w E n (ia_up g k j v)) → va_S A H0 H1 locs1 → W p l e R s m args below meth c H1 locs1 cells slots Q (F0 m (pc + 1) ls rest)) : W p l e R s m args below meth c H locs cells slots Q (F0 m pc ls (.int (nI v) :: .int (nI j) :: .ref (ia_h E f) :: rest)) :=
  va_zast hx hb hO.1 hO.2 hD hS q 1 ha rfl (vp_in_nI hj (by decide)) hd (fun H1 locs1 h1 h2 h3 => by
    rw [nI_clamp (by omega), zk_vnar hv, hset] at h1 h2
    exact kk H1 locs1 ⟨hO.1, h1⟩ h2 h3)
theorem im_wst (r w : Nat) {x : Int32} (hw : x = nI w + (-1)) (hx : p.tables.exec = Jvm.exec) (hb : c.code = cc) (hO : im_O E n g s H) (hD : va_D A (im_w E n g)) (hS : va_S A H0 H locs) (hj : r < 32) (hd : decode cc pc = .ok (.iastore, 1))
    (kk : ∀ (H1 : Heap) (locs1 : List Loc), im_O E n (ia_up g 16 r w) s H1 → va_D A (im_w E n (ia_up g 16 r w)) → va_S A H0 H1 locs1 → W p l e R s m args below meth c H1 locs1 cells slots Q (F0 m (pc + 1) ls rest)) : W p l e R s m args below meth c H locs cells slots Q (F0 m pc ls (.int x :: .int (nI r) :: .ref (ia_h E 17) :: rest)) := by
  subst hw
  exact va_iast hx hb hO.1 hO.2 hD hS 16 0 rfl rfl (vp_in_nI hj (by decide)) hd (fun H1 locs1 h1 h2 h3 => by
    rw [nI_clamp (by omega), im_set17] at h1 h2
    exact kk H1 locs1 ⟨hO.1, h1⟩ h2 h3)
theorem im_putt {idx : Nat} (hx : p.tables.exec = Jvm.exec) (hb : c.code = cc) (ht : ∀ w ∈ tb, w.before args s = true) (hown : s.vm.findClass RX1 = some m.cls) (hO : im_O E n g s H) (hD : va_D A (im_w E n g)) (hS : va_S A H0 H locs) (hl : Cond.fieldLink RX1 idx RX1 (TX1 0).2.1 (TX1 0).2.2.1 ∈ tb) (hd : decode cc pc = .ok (.putfield idx, 3))
    (kk : ∀ (H1 : Heap) (locs1 : List Loc), im_O E n g s H1 → va_D A (im_w E n g) → va_S A H0 H1 locs1 → W p l e R s m args below meth c H1 locs1 cells slots Q (F0 m (pc + 3) ls rest)) : W p l e R s m args below meth c H locs cells slots Q (F0 m pc ls (.int (nI 0) :: .ref (ia_h E 0) :: rest)) :=
  va_put (D := ia_D E) (ci := 1) (v := .int (nI 0)) (ty := .int) (C := RX1) (T := TX1) (N := 18) hx hb ht inX1 tyX1 tyX1_ok nmX1 hown hO.1 hO.2 hD hS 0 rfl rfl 0 (by decide) (ht _ hl) (fun _ h9 => h9) rfl (by decide +kernel) rfl rfl (Nat.le_of_ble_eq_true rfl) hd (fun H1 locs1 h1 h2 h3 => kk H1 locs1 ⟨hO.1, h1⟩ h2 h3)
theorem im_get (k : Nat) {v : Value} {idx : Nat} (hx : p.tables.exec = Jvm.exec) (hb : c.code = cc) (ht : ∀ w ∈ tb, w.before args s = true) (hown : s.vm.findClass RX1 = some m.cls) (hO : im_O E n g s H) (hk : k < 18) (hv : (im_fs E n)[k]? = some v) (hl : Cond.fieldLink RX1 idx RX1 (TX1 k).2.1 (TX1 k).2.2.1 ∈ tb) (hs : (TX1 k).1 = RX1) (hd : decode cc pc = .ok (.getfield idx, 3))
    (kk : W p l e R s m args below meth c H locs cells slots Q (F0 m (pc + 3) ls (v :: rest))) : W p l e R s m args below meth c H locs cells slots Q (F0 m pc ls (.ref (ia_h E 0) :: rest)) :=
  va_get (D := ia_D E) (ci := 1) (v := v) (C := RX1) (T := TX1) (N := 18) hx hb ht inX1 hown hO.1 hO.2 0 rfl rfl k hk (ht _ hl) (fun _ h9 => by rw [hs] at h9; exact h9) hv hd kk
theorem im_putn (n' : Nat) {idx : Nat} (hx : p.tables.exec = Jvm.exec) (hb : c.code = cc) (ht : ∀ w ∈ tb, w.before args s = true) (hown : s.vm.findClass RX1 = some m.cls) (hO : im_O E n g s H) (hD : va_D A (im_w E n g)) (hS : va_S A H0 H locs) (hl : Cond.fieldLink RX1 idx RX1 (TX1 1).2.1 (TX1 1).2.2.1 ∈ tb) (hd : decode cc pc = .ok (.putfield idx, 3))
    (kk : ∀ (H1 : Heap) (locs1 : List Loc), im_O E n' g s H1 → va_D A (im_w E n' g) → va_S A H0 H1 locs1 → W p l e R s m args below meth c H1 locs1 cells slots Q (F0 m (pc + 3) ls rest)) : W p l e R s m args below meth c H locs cells slots Q (F0 m pc ls (.int (nI n') :: .ref (ia_h E 0) :: rest)) :=
  va_put (D := ia_D E) (ci := 1) (v := .int (nI n')) (ty := .int) (C := RX1) (T := TX1) (N := 18) hx hb ht inX1 tyX1 tyX1_ok nmX1 hown hO.1 hO.2 hD hS 0 rfl rfl 1 (by decide) (ht _ hl) (fun _ h9 => h9) rfl (by decide +kernel) rfl rfl (Nat.le_of_ble_eq_true rfl) hd (fun H1 locs1 h1 h2 h3 => kk H1 locs1 ⟨hO.1, h1⟩ h2 h3)
end ZM
/-- a reading method of the class: it answers v, and no cell changes -/
abbrev im_R (l : Launch) (y : MethodName) (b : ByteArray) (mL : Nat) (ty : FieldType) (d : Nat) (E : ia_E) (n : Nat) (g : Nat → Nat → Nat) (As : List Value) (v : Int32) : Prop := Met l y (ia_ws y b mL (some ty)) (ia_rm d) (va_Pc (.ref (ia_h E 0) :: As) (fun U => im_O E n g U U.heap)) (vp_Si (fun r => r = v)) 0 0 (fun _ => False)
/-- a changing method of the class: it answers nothing (ret none) / r; the row becomes (n2, g2) -/
abbrev im_at (E : ia_E) (A : Nat → Prop) (u : Nat × (Nat → Nat → Nat)) (t : State) : Prop := im_O E u.1 u.2 t t.heap ∧ va_D A (im_w E u.1 u.2)
abbrev im_P0 (E : ia_E) (n : Nat) (g : Nat → Nat → Nat) (sz : Nat) : State → Prop := fun U => U.heap.size = sz ∧ im_O E n g U U.heap ∧ va_D (fun _ => True) (im_w E n g)
abbrev im_V (l : Launch) (y : MethodName) (b : ByteArray) (mL : Nat) (d : Nat) (E : ia_E) (n : Nat) (g : Nat → Nat → Nat) (sz : Nat) (As : List Value) (n2 : Nat) (g2 : Nat → Nat → Nat) : Prop := Met l y (ia_ws y b mL none) (ia_rm d) (va_Pc (.ref (ia_h E 0) :: As) (im_P0 E n g sz)) (va_Qv (fun u : Nat × (Nat → Nat → Nat) => u = (n2, g2)) (im_at E (va_A (im_w E n g) sz)) (va_A (im_w E n g) sz)) 0 0 (va_A (im_w E n g) sz)
abbrev im_M (l : Launch) (y : MethodName) (b : ByteArray) (mL : Nat) (ty : FieldType) (d : Nat) (E : ia_E) (n : Nat) (g : Nat → Nat → Nat) (sz : Nat) (As : List Value) (v : Int32) (n2 : Nat) (g2 : Nat → Nat → Nat) : Prop := Met l y (ia_ws y b mL (some ty)) (ia_rm d) (va_Pc (.ref (ia_h E 0) :: As) (im_P0 E n g sz)) (va_Qi (fun (r : Int32) (u : Nat × (Nat → Nat → Nat)) => r = v ∧ u = (n2, g2)) (im_at E (va_A (im_w E n g) sz)) (va_A (im_w E n g) sz)) 0 0 (va_A (im_w E n g) sz)
/-- the beginning of a reading method -/
theorem im_Rof {l : Launch} {y : MethodName} {b : ByteArray} {mL : Nat} {ty : FieldType} {d : Nat} {E : ia_E} {n : Nat} {g : Nat → Nat → Nat} {As : List Value} {v : Int32} (hy : plainName y.cls = true) (hc : y.cls = RX1) (hle : (lg_sl (.ref (ia_h E 0) :: As)).length ≤ mL)
    (k : ∀ (p : Program) (e : Env) (s : State) (m : MethodId) (args : Array Value) (below : List Frame) (meth : Method) (c : Code) (ls : Array Slot), p.tables.exec = Jvm.exec → c.code = b → meth.sig.returnType = some ty → c.maxLocals = mL → s.vm.findClass RX1 = some m.cls → (∀ w ∈ tb, w.before args s = true) → meth.locks = false → im_O E n g s s.heap → lv_has ls mL (lv_args 0 (.ref (ia_h E 0) :: As)) →
      W p l e (ia_rm d) s m args below meth c s.heap [] 0 0 (MQ below (vp_Si (fun r => r = v)) args s 0 0 (fun _ => False)) (F0 m 0 ls [])) : im_R l y b mL ty d E n g As v := by
  refine Met.ofW (cc := b) (maxL := mL) (ret := some ty) hy rfl ?_
  intro p e s m args below meth c s₁ B hml hv
  obtain ⟨rfl, hO⟩ := hv
  have hts := atoms_spec (ws := ia_ws y b mL (some ty)) B.pre
  have hown : s.vm.findClass RX1 = some m.cls := hc ▸ findClass_of_methodNamed B.named
  have hl := lv_entry (.ref (ia_h E 0) :: As) (n := mL) hle
  rw [lg_entry_eq]
  exact k p e s m _ below meth c _ B.exec B.bytes B.returns hml hown (fun w h => hts w (List.mem_cons_of_mem _ h)) B.notSynchronized hO hl
/-- the beginning of a changing method that answers nothing -/
theorem im_Vof {l : Launch} {y : MethodName} {b : ByteArray} {mL : Nat} {d : Nat} {E : ia_E} {n : Nat} {g : Nat → Nat → Nat} {sz : Nat} {As : List Value} {n2 : Nat} {g2 : Nat → Nat → Nat} (hy : plainName y.cls = true) (hc : y.cls = RX1) (hle : (lg_sl (.ref (ia_h E 0) :: As)).length ≤ mL)
    (k : ∀ (p : Program) (e : Env) (s : State) (m : MethodId) (args : Array Value) (below : List Frame) (meth : Method) (c : Code) (ls : Array Slot) (A : Nat → Prop), p.tables.exec = Jvm.exec → c.code = b → meth.sig.returnType = none → c.maxLocals = mL → s.vm.findClass RX1 = some m.cls → (∀ w ∈ tb, w.before args s = true) → meth.locks = false → (∀ q : Nat, s.heap.size ≤ q → A q) → im_O E n g s s.heap → va_D A (im_w E n g) → va_S A s.heap s.heap [] → lv_has ls mL (lv_args 0 (.ref (ia_h E 0) :: As)) →
      W p l e (ia_rm d) s m args below meth c s.heap [] 0 0 (MQ below (va_Qv (fun u : Nat × (Nat → Nat → Nat) => u = (n2, g2)) (im_at E A) A) args s 0 0 A) (F0 m 0 ls [])) : im_V l y b mL d E n g sz As n2 g2 := by
  refine Met.ofW (cc := b) (maxL := mL) (ret := none) hy rfl ?_
  intro p e s m args below meth c s₁ B hml hv
  obtain ⟨rfl, hsz, hO, hD0⟩ := hv
  have hts := atoms_spec (ws := ia_ws y b mL none) B.pre
  have hown : s.vm.findClass RX1 = some m.cls := hc ▸ findClass_of_methodNamed B.named
  subst hsz
  have hD := hD0.self (sz := s.heap.size)
  have hl := lv_entry (.ref (ia_h E 0) :: As) (n := mL) hle
  rw [lg_entry_eq]
  exact k p e s m _ below meth c _ _ B.exec B.bytes B.returns hml hown (fun w h => hts w (List.mem_cons_of_mem _ h)) B.notSynchronized (fun q h => Or.inr h) hO hD va_S.rf hl
/-- the beginning of a changing method that answers an int -/
theorem im_Mof {l : Launch} {y : MethodName} {b : ByteArray} {mL : Nat} {ty : FieldType} {d : Nat} {E : ia_E} {n : Nat} {g : Nat → Nat → Nat} {sz : Nat} {As : List Value} {v : Int32} {n2 : Nat} {g2 : Nat → Nat → Nat} (hy : plainName y.cls = true) (hc : y.cls = RX1) (hle : (lg_sl (.ref (ia_h E 0) :: As)).length ≤ mL)
    (k : ∀ (p : Program) (e : Env) (s : State) (m : MethodId) (args : Array Value) (below : List Frame) (meth : Method) (c : Code) (ls : Array Slot) (A : Nat → Prop), p.tables.exec = Jvm.exec → c.code = b → meth.sig.returnType = some ty → c.maxLocals = mL → s.vm.findClass RX1 = some m.cls → (∀ w ∈ tb, w.before args s = true) → meth.locks = false → (∀ q : Nat, s.heap.size ≤ q → A q) → im_O E n g s s.heap → va_D A (im_w E n g) → va_S A s.heap s.heap [] → lv_has ls mL (lv_args 0 (.ref (ia_h E 0) :: As)) →
      W p l e (ia_rm d) s m args below meth c s.heap [] 0 0 (MQ below (va_Qi (fun (r : Int32) (u : Nat × (Nat → Nat → Nat)) => r = v ∧ u = (n2, g2)) (im_at E A) A) args s 0 0 A) (F0 m 0 ls [])) : im_M l y b mL ty d E n g sz As v n2 g2 := by
  refine Met.ofW (cc := b) (maxL := mL) (ret := some ty) hy rfl ?_
  intro p e s m args below meth c s₁ B hml hv
  obtain ⟨rfl, hsz, hO, hD0⟩ := hv
  have hts := atoms_spec (ws := ia_ws y b mL (some ty)) B.pre
  have hown : s.vm.findClass RX1 = some m.cls := hc ▸ findClass_of_methodNamed B.named
  subst hsz
  have hD := hD0.self (sz := s.heap.size)
  have hl := lv_entry (.ref (ia_h E 0) :: As) (n := mL) hle
  rw [lg_entry_eq]
  exact k p e s m _ below meth c _ _ B.exec B.bytes B.returns hml hown (fun w h => hts w (List.mem_cons_of_mem _ h)) B.notSynchronized (fun q h => Or.inr h) hO hD va_S.rf hl
section ZN
variable {p : Program} {l : Launch} {e : Env} {R : Room} {s : State} {m : MethodId} {args : Array Value} {below : List Frame} {meth : Method} {c : Code} {H : Heap} {locs : List Loc} {cells slots : Nat} {Q : State → Prop} {cc : ByteArray} {pc : Nat} {ls : Array Slot} {rest : List Value}
variable {E : ia_E} {n : Nat} {g : Nat → Nat → Nat} {A : Nat → Prop} {H0 : Heap}
theorem im_vret {n2 : Nat} {g2 : Nat → Nat → Nat} (hx : p.tables.exec = Jvm.exec) (hb : c.code = cc) (hr : meth.sig.returnType = none) (hlk : meth.locks = false) (hO : im_O E n g s H) (hD : va_D A (im_w E n g)) (hS : va_S A s.heap H locs) (h : (n, g) = (n2, g2)) (hd : decode cc pc = .ok (.return_, 1)) : W p l e R s m args below meth c H locs 0 0 (MQ below (va_Qv (fun u : Nat × (Nat → Nat → Nat) => u = (n2, g2)) (im_at E A) A) args s 0 0 A) (F0 m pc ls []) :=
  W.vret hx hb hr (fun t ht hW => ⟨⟨(n, g), rfl, h, ⟨va_K.moved hW.alike hO.1, by rw [ht]; exact hO.2⟩, hD⟩, hS.F ht⟩) hS.2.2 hd
theorem im_miret {a v : Int32} {n2 : Nat} {g2 : Nat → Nat → Nat} (hx : p.tables.exec = Jvm.exec) (hb : c.code = cc) (hr : meth.sig.returnType = some .int) (hlk : meth.locks = false) (hO : im_O E n g s H) (hD : va_D A (im_w E n g)) (hS : va_S A s.heap H locs) (h1 : a = v) (h : (n, g) = (n2, g2)) (hd : decode cc pc = .ok (.ireturn, 1)) : W p l e R s m args below meth c H locs 0 0 (MQ below (va_Qi (fun (r : Int32) (u : Nat × (Nat → Nat → Nat)) => r = v ∧ u = (n2, g2)) (im_at E A) A) args s 0 0 A) (F0 m pc ls [.int a]) :=
  W.iret (v := a) hx hb hr (fun t ht hW => ⟨⟨a, (n, g), rfl, ⟨h1, h⟩, ⟨va_K.moved hW.alike hO.1, by rw [ht]; exact hO.2⟩, hD⟩, hS.F ht⟩) hS.2.2 hd
theorem im_mzret {a : Nat} {v : Int32} {n2 : Nat} {g2 : Nat → Nat → Nat} (hx : p.tables.exec = Jvm.exec) (hb : c.code = cc) (hr : meth.sig.returnType = some .boolean) (hlk : meth.locks = false) (hO : im_O E n g s H) (hD : va_D A (im_w E n g)) (hS : va_S A s.heap H locs) (ha : a ≤ 1) (h1 : nI a = v) (h : (n, g) = (n2, g2)) (hd : decode cc pc = .ok (.ireturn, 1)) : W p l e R s m args below meth c H locs 0 0 (MQ below (va_Qi (fun (r : Int32) (u : Nat × (Nat → Nat → Nat)) => r = v ∧ u = (n2, g2)) (im_at E A) A) args s 0 0 A) (F0 m pc ls [.int (nI a)]) :=
  W.zret (v := nI a) hx hb hr (zk_nar ha) (fun t ht hW => ⟨⟨nI a, (n, g), rfl, ⟨h1, h⟩, ⟨va_K.moved hW.alike hO.1, by rw [ht]; exact hO.2⟩, hD⟩, hS.F ht⟩) hS.2.2 hd
theorem im_call {own : String} {y : MethodName} {b : ByteArray} {mL nL nA idx d : Nat} {ty : FieldType} {As st0 : List Value} {v : Int32} (hx : p.tables.exec = Jvm.exec) (hb : c.code = cc) (hml : c.maxLocals = nL) (hls : ls.size = nL) (hown : s.vm.findClass own = some m.cls) (ht : ∀ w ∈ tb, w.before args s = true) (hO : im_O E n g s H) (hM : im_R l y b mL ty d E n g As v) (hG : GoodIn tb (wsV own idx RX1 y (ia_ws y b mL (some ty)))) (hy : y.cls = RX1 ∧ y.cls ≠ "java/lang/invoke/MethodHandle" ∧ y.cls ≠ "java/lang/invoke/VarHandle" ∧ (parseMethodDescriptor y.desc).map (fun d => d.parameters.length) = some nA) (hn : As.length = nA) (hR : d + 1 ≤ R.frames ∧ 8 + (mL + 11) + 40 * d ≤ R.locals) (hc : cells ≤ R.cells ∧ slots ≤ R.slots) (hW : (rest.map fun v => v.category).sum ≤ 8) (hst : st0 = As.reverse ++ .ref (ia_h E 0) :: rest) (hd : decode cc pc = .ok (.invokevirtual idx, 3))
    (kk : W p l e R s m args below meth c H locs cells slots Q (F0 m (pc + 3) ls (.int v :: rest))) : W p l e R s m args below meth c H locs cells slots Q (F0 m pc ls st0) := by
  refine vp_callSi (W.runV (As := As) (rest := rest) ⟨hx, hb, hml, hown, ht⟩ hM (cwV nA ht hG rfl rfl rfl hy hR) ⟨fun a U g mk q => ⟨q.1, va_K.moved (u := U) (U := U.calling g mk a) (Vm.Alike.refl U.vm) q.2.1, q.2.2⟩, va_recv hO.1 hO.2 (ci := 1) (q0 := 0) rfl rfl, fun U hU hW => ⟨rfl, va_K.moved hW.alike hO.1, by rw [hU]; exact hO.2⟩⟩ rfl hn hls hst (lv_room hW) hd hc) (fun r h => ?_)
  rw [h]; exact kk
theorem im_callS {y : MethodName} {b : ByteArray} {mL nL nA idx d : Nat} {ty : FieldType} {As st0 : List Value} {v : Int32} (hx : p.tables.exec = Jvm.exec) (hb : c.code = cc) (hml : c.maxLocals = nL) (hls : ls.size = nL) (hown : s.vm.findClass RX1 = some m.cls) (ht : ∀ w ∈ tb, w.before args s = true) (hM : ia_T l y b mL ty d As v) (hG : GoodIn tb (wsS RX1 idx y (ia_ws y b mL (some ty)))) (hy : y.cls = RX1 ∧ y.cls ≠ "java/lang/invoke/MethodHandle" ∧ y.cls ≠ "java/lang/invoke/VarHandle" ∧ (parseMethodDescriptor y.desc).map (fun d => d.parameters.length) = some nA) (hn : As.length = nA) (hR : d + 1 ≤ R.frames ∧ 8 + (mL + 11) + 40 * d ≤ R.locals) (hc : cells ≤ R.cells ∧ slots ≤ R.slots) (hW : (rest.map fun v => v.category).sum ≤ 8) (hst : st0 = As.reverse ++ rest) (hd : decode cc pc = .ok (.invokestatic idx, 3))
    (kk : W p l e R s m args below meth c H locs cells slots Q (F0 m (pc + 3) ls (.int v :: rest))) : W p l e R s m args below meth c H locs cells slots Q (F0 m pc ls st0) := by
  refine vp_callSi (W.runS (As := As) (rest := rest) ⟨hx, hb, hml, hown, ht⟩ hM (cwS nA ht hG rfl rfl rfl hy hR) ⟨fun a U g mk q => ⟨q.1, trivial⟩, fun U hU hW => ⟨rfl, trivial⟩⟩ rfl hn hls hst (lv_room hW) hd hc) (fun r h => ?_)
  rw [h]; exact kk
theorem jm_callV {own : String} {y : MethodName} {b : ByteArray} {mL nL nA idx d : Nat} {As st0 : List Value} {n2 : Nat} {g2 : Nat → Nat → Nat} (hx : p.tables.exec = Jvm.exec) (hb : c.code = cc) (hml : c.maxLocals = nL) (hls : ls.size = nL) (hown : s.vm.findClass own = some m.cls) (ht : ∀ w ∈ tb, w.before args s = true) (hO : im_O E n g s H) (hD : va_D A (im_w E n g)) (hS : va_S A H0 H locs) (hA : ∀ q, H0.size ≤ q → A q) (hM : im_V l y b mL d E n g H.size As n2 g2) (hG : GoodIn tb (wsV own idx RX1 y (ia_ws y b mL none))) (hy : y.cls = RX1 ∧ y.cls ≠ "java/lang/invoke/MethodHandle" ∧ y.cls ≠ "java/lang/invoke/VarHandle" ∧ (parseMethodDescriptor y.desc).map (fun d => d.parameters.length) = some nA) (hn : As.length = nA) (hR : d + 1 ≤ R.frames ∧ 8 + (mL + 11) + 40 * d ≤ R.locals) (hc : cells ≤ R.cells ∧ slots ≤ R.slots) (hW : (rest.map fun v => v.category).sum ≤ 8) (hst : st0 = As.reverse ++ .ref (ia_h E 0) :: rest) (hd : decode cc pc = .ok (.invokevirtual idx, 3))
    (kk : ∀ (H1 : Heap) (locs1 : List Loc), im_O E n2 g2 s H1 → va_D A (im_w E n2 g2) → va_S A H0 H1 locs1 → (∀ q : Nat, q < H.size → ¬ va_A (im_w E n g) H.size q → H1[q]? = H[q]?) → va_D (va_A (im_w E n g) H.size) (im_w E n2 g2) → W p l e R s m args below meth c H1 locs1 cells slots Q (F0 m (pc + 3) ls rest)) : W p l e R s m args below meth c H locs cells slots Q (F0 m pc ls st0) := by
  have hF := va_free (wc := im_w E n g) hD hS hA (List.range 17) (ia_ids 17 rfl)
  refine va_callv (va_runV (As := As) (rest := rest) ⟨hx, hb, hml, hown, ht⟩ hM (cwV nA ht hG rfl rfl rfl hy hR) ⟨fun a U g mk q => ⟨q.1, q.2.1, ⟨va_K.moved (u := U) (U := U.calling g mk a) (Vm.Alike.refl U.vm) q.2.2.1.1, q.2.2.1.2⟩, q.2.2.2⟩, va_recv hO.1 hO.2 (ci := 1) (q0 := 0) rfl rfl, fun U hU hW => ⟨rfl, by rw [hU], ⟨va_K.moved hW.alike hO.1, by rw [hU]; exact hO.2⟩, hD.weaken (fun _ _ _ _ => trivial)⟩⟩ rfl hn hls hst (lv_room hW) hd hc) hS (fun q _ h => hF q h) hF (fun u t H1 locs1 hth hvm hw hB hz1 hk1 hS1 => ?_)
  subst hw
  refine kk H1 locs1 ⟨hO.1, ?_⟩ (hB.2.weaken (fun _ q _ h => hF q.1 h)) hS1 hk1 hB.2
  rw [← hth]; exact hB.1.2
theorem im_callV {y : MethodName} {b : ByteArray} {mL nL nA idx d : Nat} {As st0 : List Value} {n2 : Nat} {g2 : Nat → Nat → Nat} (hx : p.tables.exec = Jvm.exec) (hb : c.code = cc) (hml : c.maxLocals = nL) (hls : ls.size = nL) (hown : s.vm.findClass RX1 = some m.cls) (ht : ∀ w ∈ tb, w.before args s = true) (hO : im_O E n g s H) (hD : va_D A (im_w E n g)) (hS : va_S A H0 H locs) (hA : ∀ q, H0.size ≤ q → A q) (hM : im_V l y b mL d E n g H.size As n2 g2) (hG : GoodIn tb (wsV RX1 idx RX1 y (ia_ws y b mL none))) (hy : y.cls = RX1 ∧ y.cls ≠ "java/lang/invoke/MethodHandle" ∧ y.cls ≠ "java/lang/invoke/VarHandle" ∧ (parseMethodDescriptor y.desc).map (fun d => d.parameters.length) = some nA) (hn : As.length = nA) (hR : d + 1 ≤ R.frames ∧ 8 + (mL + 11) + 40 * d ≤ R.locals) (hc : cells ≤ R.cells ∧ slots ≤ R.slots) (hW : (rest.map fun v => v.category).sum ≤ 8) (hst : st0 = As.reverse ++ .ref (ia_h E 0) :: rest) (hd : decode cc pc = .ok (.invokevirtual idx, 3))
    (kk : ∀ (H1 : Heap) (locs1 : List Loc), im_O E n2 g2 s H1 → va_D A (im_w E n2 g2) → va_S A H0 H1 locs1 → W p l e R s m args below meth c H1 locs1 cells slots Q (F0 m (pc + 3) ls rest)) : W p l e R s m args below meth c H locs cells slots Q (F0 m pc ls st0) :=
  jm_callV hx hb hml hls hown ht hO hD hS hA hM hG hy hn hR hc hW hst hd (fun H1 locs1 h1 h2 h3 _ _ => kk H1 locs1 h1 h2 h3)
theorem jm_callM {own : String} {y : MethodName} {b : ByteArray} {mL nL nA idx d : Nat} {ty : FieldType} {As st0 : List Value} {v : Int32} {n2 : Nat} {g2 : Nat → Nat → Nat} (hx : p.tables.exec = Jvm.exec) (hb : c.code = cc) (hml : c.maxLocals = nL) (hls : ls.size = nL) (hown : s.vm.findClass own = some m.cls) (ht : ∀ w ∈ tb, w.before args s = true) (hO : im_O E n g s H) (hD : va_D A (im_w E n g)) (hS : va_S A H0 H locs) (hA : ∀ q, H0.size ≤ q → A q) (hM : im_M l y b mL ty d E n g H.size As v n2 g2) (hG : GoodIn tb (wsV own idx RX1 y (ia_ws y b mL (some ty)))) (hy : y.cls = RX1 ∧ y.cls ≠ "java/lang/invoke/MethodHandle" ∧ y.cls ≠ "java/lang/invoke/VarHandle" ∧ (parseMethodDescriptor y.desc).map (fun d => d.parameters.length) = some nA) (hn : As.length = nA) (hR : d + 1 ≤ R.frames ∧ 8 + (mL + 11) + 40 * d ≤ R.locals) (hc : cells ≤ R.cells ∧ slots ≤ R.slots) (hW : (rest.map fun v => v.category).sum ≤ 8) (hst : st0 = As.reverse ++ .ref (ia_h E 0) :: rest) (hd : decode cc pc = .ok (.invokevirtual idx, 3))
    (kk : ∀ (H1 : Heap) (locs1 : List Loc), im_O E n2 g2 s H1 → va_D A (im_w E n2 g2) → va_S A H0 H1 locs1 → (∀ q : Nat, q < H.size → ¬ va_A (im_w E n g) H.size q → H1[q]? = H[q]?) → va_D (va_A (im_w E n g) H.size) (im_w E n2 g2) → W p l e R s m args below meth c H1 locs1 cells slots Q (F0 m (pc + 3) ls (.int v :: rest))) : W p l e R s m args below meth c H locs cells slots Q (F0 m pc ls st0) := by
  have hF := va_free (wc := im_w E n g) hD hS hA (List.range 17) (ia_ids 17 rfl)
  refine va_calli (va_runV (As := As) (rest := rest) ⟨hx, hb, hml, hown, ht⟩ hM (cwV nA ht hG rfl rfl rfl hy hR) ⟨fun a U g mk q => ⟨q.1, q.2.1, ⟨va_K.moved (u := U) (U := U.calling g mk a) (Vm.Alike.refl U.vm) q.2.2.1.1, q.2.2.1.2⟩, q.2.2.2⟩, va_recv hO.1 hO.2 (ci := 1) (q0 := 0) rfl rfl, fun U hU hW => ⟨rfl, by rw [hU], ⟨va_K.moved hW.alike hO.1, by rw [hU]; exact hO.2⟩, hD.weaken (fun _ _ _ _ => trivial)⟩⟩ rfl hn hls hst (lv_room hW) hd hc) hS (fun q _ h => hF q h) hF (fun r u t H1 locs1 hth hvm hw hB hz1 hk1 hS1 => ?_)
  obtain ⟨rfl, rfl⟩ := hw
  refine kk H1 locs1 ⟨hO.1, ?_⟩ (hB.2.weaken (fun _ q _ h => hF q.1 h)) hS1 hk1 hB.2
  rw [← hth]; exact hB.1.2
theorem im_callM {y : MethodName} {b : ByteArray} {mL nL nA idx d : Nat} {ty : FieldType} {As st0 : List Value} {v : Int32} {n2 : Nat} {g2 : Nat → Nat → Nat} (hx : p.tables.exec = Jvm.exec) (hb : c.code = cc) (hml : c.maxLocals = nL) (hls : ls.size = nL) (hown : s.vm.findClass RX1 = some m.cls) (ht : ∀ w ∈ tb, w.before args s = true) (hO : im_O E n g s H) (hD : va_D A (im_w E n g)) (hS : va_S A H0 H locs) (hA : ∀ q, H0.size ≤ q → A q) (hM : im_M l y b mL ty d E n g H.size As v n2 g2) (hG : GoodIn tb (wsV RX1 idx RX1 y (ia_ws y b mL (some ty)))) (hy : y.cls = RX1 ∧ y.cls ≠ "java/lang/invoke/MethodHandle" ∧ y.cls ≠ "java/lang/invoke/VarHandle" ∧ (parseMethodDescriptor y.desc).map (fun d => d.parameters.length) = some nA) (hn : As.length = nA) (hR : d + 1 ≤ R.frames ∧ 8 + (mL + 11) + 40 * d ≤ R.locals) (hc : cells ≤ R.cells ∧ slots ≤ R.slots) (hW : (rest.map fun v => v.category).sum ≤ 8) (hst : st0 = As.reverse ++ .ref (ia_h E 0) :: rest) (hd : decode cc pc = .ok (.invokevirtual idx, 3))
    (kk : ∀ (H1 : Heap) (locs1 : List Loc), im_O E n2 g2 s H1 → va_D A (im_w E n2 g2) → va_S A H0 H1 locs1 → W p l e R s m args below meth c H1 locs1 cells slots Q (F0 m (pc + 3) ls (.int v :: rest))) : W p l e R s m args below meth c H locs cells slots Q (F0 m pc ls st0) :=
  jm_callM hx hb hml hls hown ht hO hD hS hA hM hG hy hn hR hc hW hst hd (fun H1 locs1 h1 h2 h3 _ _ => kk H1 locs1 h1 h2 h3)
end ZN
theorem zgX1_66 : GoodIn tb (wsS RX1 66 yX1_isRegister (ia_ws yX1_isRegister cX1_isRegister 1 (some .boolean))) := ia_gS zmX1_66 ztX1_isRegister znX1 zkX1_isRegister
theorem zgX1_70 : GoodIn tb (wsV RX1 70 RX1 yX1_come (ia_ws yX1_come cX1_come 7 (some .int))) := ia_gV zmX1_70 ziX1_come zsX1_come znX1 zkX1_come
theorem zgX1_104 : GoodIn tb (wsV RX1 104 RX1 yX1_reckon (ia_ws yX1_reckon cX1_reckon 5 none)) := ia_gV zmX1_104 ziX1_reckon zsX1_reckon znX1 zkX1_reckon
theorem zgX1_91 : GoodIn tb (wsV RX1 91 RX1 yX1_stand (ia_ws yX1_stand cX1_stand 5 none)) := ia_gV zmX1_91 ziX1_stand zsX1_stand znX1 zkX1_stand
theorem zgX1_95 : GoodIn tb (wsV RX1 95 RX1 yX1_fetch (ia_ws yX1_fetch cX1_fetch 2 none)) := ia_gV zmX1_95 ziX1_fetch zsX1_fetch znX1 zkX1_fetch
theorem zgX1_80 : GoodIn tb (wsV RX1 80 RX1 yX1_joins (ia_ws yX1_joins cX1_joins 2 (some .boolean))) := ia_gV zmX1_80 ziX1_joins zsX1_joins znX1 zkX1_joins
theorem zgX1_83 : GoodIn tb (wsS RX1 83 yX1_later (ia_ws yX1_later cX1_later 2 (some .int))) := ia_gS zmX1_83 ztX1_later znX1 zkX1_later
theorem zgX1_98 : GoodIn tb (wsV RX1 98 RX1 yX1_ready (ia_ws yX1_ready cX1_ready 2 (some .int))) := ia_gV zmX1_98 ziX1_ready zsX1_ready znX1 zkX1_ready
theorem zgX1_87 : GoodIn tb (wsS RX1 87 yX1_delay (ia_ws yX1_delay cX1_delay 1 (some .int))) := ia_gS zmX1_87 ztX1_delay znX1 zkX1_delay
theorem zgX1_101 : GoodIn tb (wsV RX1 101 RX1 yX1_pairs (ia_ws yX1_pairs cX1_pairs 5 (some .boolean))) := ia_gV zmX1_101 ziX1_pairs zsX1_pairs znX1 zkX1_pairs
theorem zgX1_74 : GoodIn tb (wsS RX1 74 yX1_isMemory (ia_ws yX1_isMemory cX1_isMemory 1 (some .boolean))) := ia_gS zmX1_74 ztX1_isMemory znX1 zkX1_isMemory
theorem zgX1_77 : GoodIn tb (wsS RX1 77 yX1_isSlow (ia_ws yX1_isSlow cX1_isSlow 1 (some .boolean))) := ia_gS zmX1_77 ztX1_isSlow znX1 zkX1_isSlow
theorem zgX1_107 : GoodIn tb (wsV RX1 107 RX1 yX1_stageOf (ia_ws yX1_stageOf cX1_stageOf 3 (some .int))) := ia_gV zmX1_107 ziX1_stageOf zsX1_stageOf znX1 zkX1_stageOf
theorem zgX1_110 : GoodIn tb (wsV RX1 110 RX1 yX1_inStage (ia_ws yX1_inStage cX1_inStage 5 (some .int))) := ia_gV zmX1_110 ziX1_inStage zsX1_inStage znX1 zkX1_inStage
theorem zgX1_113 : GoodIn tb (wsV RX1 113 RX1 yX1_counted (ia_ws yX1_counted cX1_counted 7 (some .int))) := ia_gV zmX1_113 ziX1_counted zsX1_counted znX1 zkX1_counted
theorem zgX1_116 : GoodIn tb (wsV RX1 116 RX1 yX1_longest (ia_ws yX1_longest cX1_longest 4 (some .int))) := ia_gV zmX1_116 ziX1_longest zsX1_longest znX1 zkX1_longest
theorem zgX1_120 : GoodIn tb (wsV RX1 120 RX1 yX1_busiest (ia_ws yX1_busiest cX1_busiest 5 (some .int))) := ia_gV zmX1_120 ziX1_busiest zsX1_busiest znX1 zkX1_busiest
section ZH
variable {p : Program} {l : Launch} {e : Env} {R : Room} {s : State} {m : MethodId} {args : Array Value} {below : List Frame} {meth : Method} {c : Code} {H : Heap} {locs : List Loc} {cells slots : Nat} {Q : State → Prop}
/-- a join behind stores: the number v that the paths have written is abstract -/
theorem zk_cutH {nL : Nat} (pc2 : Nat) (I : Nat → Heap → List Loc → Prop) (lv : List (Nat × Value)) {g1 : JFrame}
    (h : ∀ (v : Nat) (H : Heap) (locs : List Loc) (ls : Array Slot), I v H locs → lv_has ls nL lv → W p l e R s m args below meth c H locs cells slots Q (F0 m pc2 ls []))
    (k : (∀ (v : Nat) (H : Heap) (locs : List Loc) (ls : Array Slot), I v H locs → lv_has ls nL lv → W p l e R s m args below meth c H locs cells slots Q (F0 m pc2 ls [])) → W p l e R s m args below meth c H locs cells slots Q g1) : W p l e R s m args below meth c H locs cells slots Q g1 := k h
/-- a join of two numbers, the second raw -/
theorem zk_cut2 {nL : Nat} (pc2 : Nat) (P : Nat → Int32 → Prop) (lv : Nat → Int32 → List (Nat × Value)) (st : Nat → Int32 → List Value) {g1 : JFrame}
    (h : ∀ (v : Nat) (x : Int32) (ls : Array Slot), P v x → lv_has ls nL (lv v x) → W p l e R s m args below meth c H locs cells slots Q (F0 m pc2 ls (st v x)))
    (k : (∀ (v : Nat) (x : Int32) (ls : Array Slot), P v x → lv_has ls nL (lv v x) → W p l e R s m args below meth c H locs cells slots Q (F0 m pc2 ls (st v x))) → W p l e R s m args below meth c H locs cells slots Q g1) : W p l e R s m args below meth c H locs cells slots Q g1 := k h
/-- a loop upwards over a heap that changes, with a raw number -/
theorem zk_upX {nL : Nat} {pcH : Nat} (e0 : Nat) (I : Nat → Int32 → Heap → List Loc → Prop) (lv : Nat → Int32 → List (Nat × Value))
    (hx : ∀ x H locs, I e0 x H locs → ∀ ls, lv_has ls nL (lv e0 x) → W p l e R s m args below meth c H locs cells slots Q (F0 m pcH ls []))
    (hs : ∀ k, k < e0 → (∀ x H locs, I (k + 1) x H locs → ∀ ls, lv_has ls nL (lv (k + 1) x) → W p l e R s m args below meth c H locs cells slots Q (F0 m pcH ls [])) → ∀ x H locs, I k x H locs → ∀ ls, lv_has ls nL (lv k x) → W p l e R s m args below meth c H locs cells slots Q (F0 m pcH ls [])) :
    ∀ d k, k + d = e0 → ∀ x H locs, I k x H locs → ∀ ls, lv_has ls nL (lv k x) → W p l e R s m args below meth c H locs cells slots Q (F0 m pcH ls []) := by
  intro d
  induction d with
  | zero =>
    intro k hk x H locs hI ls hl
    obtain rfl : k = e0 := by omega
    exact hx x H locs hI ls hl
  | succ d ih =>
    intro k hk x H locs hI ls hl
    exact hs k (by omega) (ih (k + 1) (by omega)) x H locs hI ls hl
end ZH
end
section
-- the reference's own numbers, over the same cells (14 redirected, 15 behind, 16 writers: one more than the number)
theorem zm_upup (g : Nat → Nat → Nat) (k j a b : Nat) : ia_up (ia_up g k j a) k j b = ia_up g k j b := by
  funext x y
  by_cases h : x = k
  · by_cases h2 : y = j <;> simp [ia_up, h, h2]
  · simp [ia_up, h]
def zm_B (g : Nat → Nat → Nat) : Prop := (∀ k j, k ≠ 16 → g k j ≤ 40 * j + 40) ∧ ∀ r, g 16 r ≤ 400
theorem zm_B_up {g : Nat → Nat → Nat} {k j v : Nat} (h : zm_B g) (hk : k ≠ 16) (hv : v ≤ 40 * j + 40) : zm_B (ia_up g k j v) := by
  refine ⟨fun a b ha => ?_, fun r => ?_⟩
  · by_cases h1 : a = k ∧ b = j
    · obtain ⟨rfl, rfl⟩ := h1
      rw [zs_up_at]; exact hv
    · rw [zs_up_ne (by omega)]; exact h.1 a b ha
  · rw [zs_up_ne (Or.inl (Ne.symm hk))]; exact h.2 r
theorem zm_B_upw {g : Nat → Nat → Nat} {j v : Nat} (h : zm_B g) (hv : v ≤ 400) : zm_B (ia_up g 16 j v) := by
  refine ⟨fun a b ha => ?_, fun r => ?_⟩
  · rw [zs_up_ne (Or.inl ha)]; exact h.1 a b ha
  · by_cases h1 : r = j
    · subst h1
      rw [zs_up_at]; exact hv
    · rw [zs_up_ne (Or.inr h1)]; exact h.2 r
def zm_joins (g : Nat → Nat → Nat) (i : Nat) : Nat := if 0 < i ∧ g 10 (i - 1) ≠ 0 ∧ g 15 i ≠ 0 ∧ g 14 i = 0 ∧ ¬ (g 8 (i - 1) ≠ 0 ∧ g 5 (i - 2) = 1) then 1 else 0
def zm_ready (g : Nat → Nat → Nat) (r : Nat) : Nat := if r = 0 ∨ g 16 r = 0 then 0 else g 12 (g 16 r - 1) + zs_delay (g 1 (g 16 r - 1))
def zm_s3 (g : Nat → Nat → Nat) (i : Nat) : Nat → Nat → Nat := ia_up (zs_s2 g i) 15 i (zs_lies (zs_s2 g i) i)
def zm_stand (g : Nat → Nat → Nat) (i : Nat) : Nat → Nat → Nat := ia_up (zm_s3 g i) 14 i (zs_redir (zs_s2 g i) i)
def zm_begin (g : Nat → Nat → Nat) (i : Nat) : Nat := if zm_joins g i ≠ 0 then 0 else 1
def zm_f1 (g : Nat → Nat → Nat) (i : Nat) : Nat → Nat → Nat := ia_up g 10 i (zm_begin g i)
def zm_Fa (g : Nat → Nat → Nat) (i : Nat) : Nat := if 0 < i then g 11 (i - 1) + 1 else 1
def zm_Fb (g : Nat → Nat → Nat) (i : Nat) : Nat := if 4 < i then max (zm_Fa g i) (g 12 (i - 5) + 1) else zm_Fa g i
def zm_F (g : Nat → Nat → Nat) (i : Nat) : Nat := if g 10 i = 0 then g 11 (i - 1) else if g 14 i ≠ 0 ∧ (g 9 (i - 1) ≠ 0 ∨ g 1 (i - 1) = 6) then max (zm_Fb g i) (g 13 (i - 1) + 1) else if g 14 i ≠ 0 then max (zm_Fb g i) (g 12 (i - 2) + 2) else zm_Fb g i
def zm_fetch (g : Nat → Nat → Nat) (i : Nat) : Nat → Nat → Nat := ia_up (zm_f1 g i) 11 i (zm_F (zm_f1 g i) i)
def zm_with (g : Nat → Nat → Nat) (i : Nat) : Nat := if zs_pair g i ≠ 0 ∧ (i = 1 ∨ g 12 (i - 2) < g 12 (i - 1)) then 1 else 0
def zm_Ta (g : Nat → Nat → Nat) (i : Nat) : Nat := max (max (g 11 i + 2) (zm_ready g (g 3 i))) (zm_ready g (g 4 i))
def zm_Tb (g : Nat → Nat → Nat) (i : Nat) : Nat := if 0 < i then max (zm_Ta g i) (g 12 (i - 1) + (if zm_with g i ≠ 0 then 0 else 1)) else zm_Ta g i
def zm_Tc (g : Nat → Nat → Nat) (dv i : Nat) : Nat := if g 1 i = 4 ∧ dv ≠ 0 then max (zm_Tb g i) (g 12 (dv - 1) + 18) else zm_Tb g i
def zm_T (g : Nat → Nat → Nat) (dv i : Nat) : Nat := if g 1 i = 6 ∧ 0 < i then max (zm_Tc g dv i) (g 13 (i - 1) + 1) else zm_Tc g dv i
def zm_Ca (g : Nat → Nat → Nat) (i : Nat) : Nat := if 0 < i then max (g 12 i + zs_work (g 1 i)) (g 13 (i - 1) + (if g 9 i ≠ 0 then 1 else 0)) else g 12 i + zs_work (g 1 i)
def zm_C (g : Nat → Nat → Nat) (i : Nat) : Nat := if 1 < i then max (zm_Ca g i) (g 13 (i - 2) + 1) else zm_Ca g i
def zm_wr (g : Nat → Nat → Nat) (i : Nat) : Nat → Nat → Nat := if 0 < g 2 i ∧ g 9 i = 0 then ia_up g 16 (g 2 i) (i + 1) else g
def zm_t (g : Nat → Nat → Nat) (dv i : Nat) : Nat → Nat → Nat := ia_up g 12 i (zm_T g dv i)
def zm_c (g : Nat → Nat → Nat) (i : Nat) : Nat → Nat → Nat := ia_up g 13 i (zm_C g i)
def zm_step (g : Nat → Nat → Nat) (dv i : Nat) : Nat → Nat → Nat := zm_wr (zm_c (zm_t (zm_fetch (zm_stand g i) i) dv i) i) i
def zm_clr (g : Nat → Nat → Nat) : Nat → Nat → Nat → Nat
  | 0 => g
  | r + 1 => ia_up (zm_clr g r) 16 r 0
def zm_dv (g : Nat → Nat → Nat) : Nat → Nat
  | 0 => 0
  | i + 1 => if g 1 i = 4 then i + 1 else zm_dv g i
def zm_loop (g : Nat → Nat → Nat) : Nat → Nat → Nat → Nat
  | 0 => zm_clr g 32
  | i + 1 => zm_step (zm_loop g i) (zm_dv g i) i
-- bounds
theorem zbm_begin (g : Nat → Nat → Nat) (i : Nat) : zm_begin g i ≤ 1 := by unfold zm_begin; (repeat' split) <;> omega
theorem zbm_joins (g : Nat → Nat → Nat) (i : Nat) : zm_joins g i ≤ 1 ∧ (zm_joins g i ≠ 0 → 0 < i) := by unfold zm_joins; (repeat' split) <;> omega
theorem zbm_with (g : Nat → Nat → Nat) (i : Nat) : zm_with g i ≤ 1 := by unfold zm_with; (repeat' split) <;> omega
theorem zbm_Fa {g : Nat → Nat → Nat} (h : zm_B g) (i : Nat) : zm_Fa g i ≤ 40 * i + 1 := by
  have h1 := h.1 11 (i - 1) (by decide)
  unfold zm_Fa; (repeat' split) <;> omega
theorem zbm_Fb {g : Nat → Nat → Nat} (h : zm_B g) (i : Nat) : zm_Fb g i ≤ 40 * i + 1 := by
  have h1 := h.1 12 (i - 5) (by decide)
  have h2 := zbm_Fa h i
  unfold zm_Fb; (repeat' split) <;> omega
theorem zbm_F {g : Nat → Nat → Nat} (h : zm_B g) (i : Nat) (h10 : g 10 i = 0 → 0 < i) (h14 : g 14 i ≠ 0 → 0 < i) : zm_F g i ≤ 40 * i + 2 := by
  have h0 := h.1 11 (i - 1) (by decide)
  have h1 := h.1 13 (i - 1) (by decide)
  have h2 := h.1 12 (i - 2) (by decide)
  have h3 := zbm_Fb h i
  unfold zm_F; (repeat' split) <;> omega
theorem zb_redir0 (g : Nat → Nat → Nat) (i : Nat) : zs_redir g i ≤ 1 ∧ (zs_redir g i ≠ 0 → 0 < i) := by
  have h := zb_bsm g i
  unfold zs_redir zs_bfs; (repeat' split) <;> omega
theorem zbm_begin0 (g : Nat → Nat → Nat) (i : Nat) : zm_begin g i ≤ 1 ∧ (zm_begin g i = 0 → 0 < i) := by
  have h := zbm_joins g i
  unfold zm_begin; (repeat' split) <;> omega
theorem zbm_ready {g : Nat → Nat → Nat} (h : zm_B g) {r i : Nat} (hw : g 16 r ≤ i) : zm_ready g r ≤ 40 * i + 18 := by
  have h1 := h.1 12 (g 16 r - 1) (by decide)
  have h2 := zb_delay (g 1 (g 16 r - 1))
  unfold zm_ready; (repeat' split) <;> omega
theorem zbm_Ta {g : Nat → Nat → Nat} (h : zm_B g) {i : Nat} (hf : g 11 i ≤ 40 * i + 2) (h3 : g 16 (g 3 i) ≤ i) (h4 : g 16 (g 4 i) ≤ i) : zm_Ta g i ≤ 40 * i + 18 := by
  have a := zbm_ready h h3
  have b := zbm_ready h h4
  unfold zm_Ta; omega
theorem zbm_Tb {g : Nat → Nat → Nat} (h : zm_B g) {i : Nat} (ha : zm_Ta g i ≤ 40 * i + 18) : zm_Tb g i ≤ 40 * i + 18 := by
  have a := h.1 12 (i - 1) (by decide)
  unfold zm_Tb; (repeat' split) <;> omega
theorem zbm_Tc {g : Nat → Nat → Nat} (h : zm_B g) {dv i : Nat} (hd : dv ≤ i) (ha : zm_Tb g i ≤ 40 * i + 18) : zm_Tc g dv i ≤ 40 * i + 18 := by
  have a := h.1 12 (dv - 1) (by decide)
  unfold zm_Tc; (repeat' split) <;> omega
theorem zbm_T {g : Nat → Nat → Nat} (h : zm_B g) {dv i : Nat} (ha : zm_Tc g dv i ≤ 40 * i + 18) : zm_T g dv i ≤ 40 * i + 18 := by
  have a := h.1 13 (i - 1) (by decide)
  unfold zm_T; (repeat' split) <;> omega
theorem zbm_Ca {g : Nat → Nat → Nat} (h : zm_B g) {i : Nat} (ht : g 12 i ≤ 40 * i + 18) : zm_Ca g i ≤ 40 * i + 38 := by
  have a := h.1 13 (i - 1) (by decide)
  have b := zb_work (g 1 i)
  unfold zm_Ca; (repeat' split) <;> omega
theorem zbm_C {g : Nat → Nat → Nat} (h : zm_B g) {i : Nat} (ha : zm_Ca g i ≤ 40 * i + 38) : zm_C g i ≤ 40 * i + 38 := by
  have a := h.1 13 (i - 2) (by decide)
  unfold zm_C; (repeat' split) <;> omega
-- what the steps leave
theorem zm_stand_ne {g : Nat → Nat → Nat} {i k j : Nat} (h : (k ≠ 8 ∧ k ≠ 9 ∧ k ≠ 14 ∧ k ≠ 15) ∨ j ≠ i) : zm_stand g i k j = g k j := by
  unfold zm_stand zm_s3
  rw [zs_up_ne (by omega), zs_up_ne (by omega), zs_s2_nn (by omega), zs_s1_nn (by omega)]
theorem zm_fetch_ne {g : Nat → Nat → Nat} {i k j : Nat} (h : (k ≠ 10 ∧ k ≠ 11) ∨ j ≠ i) : zm_fetch g i k j = g k j := by
  unfold zm_fetch zm_f1
  rw [zs_up_ne (by omega), zs_up_ne (by omega)]
theorem zm_wr_ne {g : Nat → Nat → Nat} {i k j : Nat} (h : k ≠ 16) : zm_wr g i k j = g k j := by
  unfold zm_wr; split
  · exact zs_up_ne (Or.inl h)
  · rfl
theorem zm_step_ne {g : Nat → Nat → Nat} {dv i k j : Nat} (h : k ≤ 7 ∨ (j ≠ i ∧ k ≠ 16)) : zm_step g dv i k j = g k j := by
  unfold zm_step zm_c zm_t
  rw [zm_wr_ne (by omega), zs_up_ne (by omega), zs_up_ne (by omega), zm_fetch_ne (by omega), zm_stand_ne (by omega)]
theorem zm_clr_ne {g : Nat → Nat → Nat} {r k j : Nat} (h : k ≠ 16) : zm_clr g r k j = g k j := by
  induction r with
  | zero => rfl
  | succ r ih => unfold zm_clr; rw [zs_up_ne (Or.inl h), ih]
theorem zm_clr_at {g : Nat → Nat → Nat} {r j : Nat} (h : j < r) : zm_clr g r 16 j = 0 := by
  induction r with
  | zero => omega
  | succ r ih =>
    unfold zm_clr
    by_cases h1 : j = r
    · subst h1; exact zs_up_at _ _ _ _
    · rw [zs_up_ne (Or.inr h1)]; exact ih (by omega)
theorem zm_loop_lo {g : Nat → Nat → Nat} {i k j : Nat} (h : k ≤ 7) : zm_loop g i k j = g k j := by
  induction i with
  | zero => unfold zm_loop; exact zm_clr_ne (by omega)
  | succ i ih => unfold zm_loop; rw [zm_step_ne (Or.inl h), ih]
/-- what holds of the cells as the reckoning stands at i -/
def zm_L (g : Nat → Nat → Nat) (i : Nat) : Prop := zm_B g ∧ (∀ r, r < 32 → g 16 r ≤ i) ∧ zs_V g
theorem zs_V_lo {g h : Nat → Nat → Nat} (a : ∀ k j, k ≤ 7 → h k j = g k j) (v : zs_V g) : zs_V h := by
  intro j
  rw [a 1 j (by decide), a 2 j (by decide), a 3 j (by decide), a 4 j (by decide), a 5 j (by decide), a 6 j (by decide)]
  exact v j
theorem zm_B_stand {g : Nat → Nat → Nat} (h : zm_B g) (i : Nat) : zm_B (zm_stand g i) := by
  have b1 := zb_slot g i
  have b2 := zb_fail (zs_s1 g i) i
  have b3 := zb_lies (zs_s2 g i) i
  have b4 := zb_redir (zs_s2 g i) i
  exact zm_B_up (zm_B_up (zm_B_up (zm_B_up h (by decide) (by omega)) (by decide) (by omega)) (by decide) (by omega)) (by decide) (by omega)
theorem zm_stand_14 (g : Nat → Nat → Nat) (i : Nat) : zm_stand g i 14 i = zs_redir (zs_s2 g i) i := zs_up_at (zm_s3 g i) 14 i _
theorem zm_f1_10 (g : Nat → Nat → Nat) (i : Nat) : zm_f1 g i 10 i = zm_begin g i := zs_up_at g 10 i _
theorem zm_f1_ne {g : Nat → Nat → Nat} {i a b : Nat} (h : a ≠ 10 ∨ b ≠ i) : zm_f1 g i a b = g a b := zs_up_ne (g := g) (k := 10) (j := i) h
theorem zm_B_fetch {g : Nat → Nat → Nat} (h : zm_B g) (i : Nat) (h14 : g 14 i ≠ 0 → 0 < i) : zm_B (zm_fetch g i) ∧ zm_fetch g i 11 i ≤ 40 * i + 2 := by
  have b1 := zbm_begin0 g i
  have h1 : zm_B (zm_f1 g i) := zm_B_up h (by decide) (by omega)
  have b2 : zm_F (zm_f1 g i) i ≤ 40 * i + 2 := zbm_F h1 i (by rw [zm_f1_10]; exact b1.2) (by rw [zm_f1_ne (Or.inl (by decide))]; exact h14)
  refine ⟨zm_B_up h1 (by decide) (by omega), ?_⟩
  rw [show zm_fetch g i 11 i = zm_F (zm_f1 g i) i from zs_up_at (zm_f1 g i) 11 i _]; exact b2
theorem zm_L_sf {g : Nat → Nat → Nat} {i : Nat} (h : zm_L g i) : zm_L (zm_fetch (zm_stand g i) i) i ∧ zm_fetch (zm_stand g i) i 11 i ≤ 40 * i + 2 := by
  obtain ⟨hB, hw, hv⟩ := h
  have h1 := zm_B_stand hB i
  have h2 := zm_B_fetch h1 i (by rw [zm_stand_14]; exact (zb_redir0 _ i).2)
  refine ⟨⟨h2.1, fun r hr => ?_, zs_V_lo (fun k j hk => ?_) hv⟩, h2.2⟩
  · rw [zm_fetch_ne (by omega), zm_stand_ne (by omega)]; exact hw r hr
  · rw [zm_fetch_ne (by omega), zm_stand_ne (by omega)]
theorem zm_L_tcw {g : Nat → Nat → Nat} {dv i : Nat} (h : zm_L g i) (hf : g 11 i ≤ 40 * i + 2) (hd : dv ≤ i) (hi : i < 400) : zm_L (zm_wr (zm_c (zm_t g dv i) i) i) (i + 1) := by
  obtain ⟨hB, hw, hv⟩ := h
  have hvi := hv i
  have t1 := zbm_T hB (zbm_Tc hB hd (zbm_Tb hB (zbm_Ta hB hf (hw _ (by omega)) (hw _ (by omega)))))
  have h1 : zm_B (zm_t g dv i) := zm_B_up hB (by decide) (by omega)
  have e1 : zm_t g dv i 12 i = zm_T g dv i := zs_up_at g 12 i _
  have c1 := zbm_C h1 (zbm_Ca h1 (i := i) (by omega))
  have h2 : zm_B (zm_c (zm_t g dv i) i) := zm_B_up h1 (by decide) (by omega)
  have n2 : ∀ k j, k ≠ 12 → k ≠ 13 → zm_c (zm_t g dv i) i k j = g k j := fun k j a b => by
    unfold zm_c zm_t; rw [zs_up_ne (by omega), zs_up_ne (by omega)]
  refine ⟨?_, fun r hr => ?_, zs_V_lo (fun k j hk => ?_) hv⟩
  · unfold zm_wr; split
    · exact zm_B_upw h2 (by omega)
    · exact h2
  · have := hw r hr
    have e3 := n2 16 r (by decide) (by decide)
    unfold zm_wr; split
    · by_cases hr2 : r = zm_c (zm_t g dv i) i 2 i
      · rw [hr2, zs_up_at]; omega
      · rw [zs_up_ne (Or.inr hr2)]; omega
    · omega
  · rw [zm_wr_ne (by omega)]; exact n2 k j (by omega) (by omega)
theorem zm_dv_le (g : Nat → Nat → Nat) (i : Nat) : zm_dv g i ≤ i := by
  induction i with
  | zero => exact Nat.le_refl _
  | succ i ih => unfold zm_dv; (repeat' split) <;> omega
theorem zm_L_loop {g : Nat → Nat → Nat} (h : zm_B g) (hv : zs_V g) (i : Nat) (hi : i ≤ 400) : zm_L (zm_loop g i) i := by
  induction i with
  | zero =>
    refine ⟨?_, fun r hr => ?_, zs_V_lo (fun k j hk => zm_loop_lo hk) hv⟩
    · have : ∀ r, zm_B (zm_clr g r) := fun r => by
        induction r with
        | zero => exact h
        | succ r ih => exact zm_B_upw ih (by omega)
      exact this 32
    · rw [show zm_loop g 0 16 r = 0 from zm_clr_at hr]; exact Nat.le_refl _
  | succ i ih =>
    have h1 := zm_L_sf (ih (by omega))
    exact zm_L_tcw h1.1 h1.2 (zm_dv_le g i) (by omega)
end
section
theorem dX1_init_0 : decode cX1_init 0 = .ok (.aload_n 0, 1) := by decide +kernel
theorem dX1_init_1 : decode cX1_init 1 = .ok (.invokespecial 1, 3) := by decide +kernel
theorem dX1_init_4 : decode cX1_init 4 = .ok (.aload_n 0, 1) := by decide +kernel
theorem dX1_init_5 : decode cX1_init 5 = .ok (.sipush 400, 3) := by decide +kernel
theorem dX1_init_8 : decode cX1_init 8 = .ok (.newarray .int, 2) := by decide +kernel
theorem dX1_init_10 : decode cX1_init 10 = .ok (.putfield 7, 3) := by decide +kernel
theorem dX1_init_13 : decode cX1_init 13 = .ok (.aload_n 0, 1) := by decide +kernel
theorem dX1_init_14 : decode cX1_init 14 = .ok (.sipush 400, 3) := by decide +kernel
theorem dX1_init_17 : decode cX1_init 17 = .ok (.newarray .int, 2) := by decide +kernel
theorem dX1_init_19 : decode cX1_init 19 = .ok (.putfield 13, 3) := by decide +kernel
theorem dX1_init_22 : decode cX1_init 22 = .ok (.aload_n 0, 1) := by decide +kernel
theorem dX1_init_23 : decode cX1_init 23 = .ok (.sipush 400, 3) := by decide +kernel
theorem dX1_init_26 : decode cX1_init 26 = .ok (.newarray .int, 2) := by decide +kernel
theorem dX1_init_28 : decode cX1_init 28 = .ok (.putfield 16, 3) := by decide +kernel
theorem dX1_init_31 : decode cX1_init 31 = .ok (.aload_n 0, 1) := by decide +kernel
theorem dX1_init_32 : decode cX1_init 32 = .ok (.sipush 400, 3) := by decide +kernel
theorem dX1_init_35 : decode cX1_init 35 = .ok (.newarray .int, 2) := by decide +kernel
theorem dX1_init_37 : decode cX1_init 37 = .ok (.putfield 19, 3) := by decide +kernel
theorem dX1_init_40 : decode cX1_init 40 = .ok (.aload_n 0, 1) := by decide +kernel
theorem dX1_init_41 : decode cX1_init 41 = .ok (.sipush 400, 3) := by decide +kernel
theorem dX1_init_44 : decode cX1_init 44 = .ok (.newarray .int, 2) := by decide +kernel
theorem dX1_init_46 : decode cX1_init 46 = .ok (.putfield 22, 3) := by decide +kernel
theorem dX1_init_49 : decode cX1_init 49 = .ok (.aload_n 0, 1) := by decide +kernel
theorem dX1_init_50 : decode cX1_init 50 = .ok (.sipush 400, 3) := by decide +kernel
theorem dX1_init_53 : decode cX1_init 53 = .ok (.newarray .boolean, 2) := by decide +kernel
theorem dX1_init_55 : decode cX1_init 55 = .ok (.putfield 25, 3) := by decide +kernel
theorem dX1_init_58 : decode cX1_init 58 = .ok (.aload_n 0, 1) := by decide +kernel
theorem dX1_init_59 : decode cX1_init 59 = .ok (.sipush 400, 3) := by decide +kernel
theorem dX1_init_62 : decode cX1_init 62 = .ok (.newarray .boolean, 2) := by decide +kernel
theorem dX1_init_64 : decode cX1_init 64 = .ok (.putfield 29, 3) := by decide +kernel
theorem dX1_init_67 : decode cX1_init 67 = .ok (.aload_n 0, 1) := by decide +kernel
theorem dX1_init_68 : decode cX1_init 68 = .ok (.sipush 400, 3) := by decide +kernel
theorem dX1_init_71 : decode cX1_init 71 = .ok (.newarray .boolean, 2) := by decide +kernel
theorem dX1_init_73 : decode cX1_init 73 = .ok (.putfield 32, 3) := by decide +kernel
theorem dX1_init_76 : decode cX1_init 76 = .ok (.aload_n 0, 1) := by decide +kernel
theorem dX1_init_77 : decode cX1_init 77 = .ok (.sipush 400, 3) := by decide +kernel
theorem dX1_init_80 : decode cX1_init 80 = .ok (.newarray .boolean, 2) := by decide +kernel
theorem dX1_init_82 : decode cX1_init 82 = .ok (.putfield 35, 3) := by decide +kernel
theorem dX1_init_85 : decode cX1_init 85 = .ok (.aload_n 0, 1) := by decide +kernel
theorem dX1_init_86 : decode cX1_init 86 = .ok (.sipush 400, 3) := by decide +kernel
theorem dX1_init_89 : decode cX1_init 89 = .ok (.newarray .boolean, 2) := by decide +kernel
theorem dX1_init_91 : decode cX1_init 91 = .ok (.putfield 38, 3) := by decide +kernel
theorem dX1_init_94 : decode cX1_init 94 = .ok (.aload_n 0, 1) := by decide +kernel
theorem dX1_init_95 : decode cX1_init 95 = .ok (.sipush 400, 3) := by decide +kernel
theorem dX1_init_98 : decode cX1_init 98 = .ok (.newarray .boolean, 2) := by decide +kernel
theorem dX1_init_100 : decode cX1_init 100 = .ok (.putfield 41, 3) := by decide +kernel
theorem dX1_init_103 : decode cX1_init 103 = .ok (.aload_n 0, 1) := by decide +kernel
theorem dX1_init_104 : decode cX1_init 104 = .ok (.sipush 400, 3) := by decide +kernel
theorem dX1_init_107 : decode cX1_init 107 = .ok (.newarray .int, 2) := by decide +kernel
theorem dX1_init_109 : decode cX1_init 109 = .ok (.putfield 44, 3) := by decide +kernel
theorem dX1_init_112 : decode cX1_init 112 = .ok (.aload_n 0, 1) := by decide +kernel
theorem dX1_init_113 : decode cX1_init 113 = .ok (.sipush 400, 3) := by decide +kernel
theorem dX1_init_116 : decode cX1_init 116 = .ok (.newarray .int, 2) := by decide +kernel
theorem dX1_init_118 : decode cX1_init 118 = .ok (.putfield 47, 3) := by decide +kernel
theorem dX1_init_121 : decode cX1_init 121 = .ok (.aload_n 0, 1) := by decide +kernel
theorem dX1_init_122 : decode cX1_init 122 = .ok (.sipush 400, 3) := by decide +kernel
theorem dX1_init_125 : decode cX1_init 125 = .ok (.newarray .int, 2) := by decide +kernel
theorem dX1_init_127 : decode cX1_init 127 = .ok (.putfield 50, 3) := by decide +kernel
theorem dX1_init_130 : decode cX1_init 130 = .ok (.aload_n 0, 1) := by decide +kernel
theorem dX1_init_131 : decode cX1_init 131 = .ok (.sipush 400, 3) := by decide +kernel
theorem dX1_init_134 : decode cX1_init 134 = .ok (.newarray .boolean, 2) := by decide +kernel
theorem dX1_init_136 : decode cX1_init 136 = .ok (.putfield 53, 3) := by decide +kernel
theorem dX1_init_139 : decode cX1_init 139 = .ok (.aload_n 0, 1) := by decide +kernel
theorem dX1_init_140 : decode cX1_init 140 = .ok (.bipush 32, 2) := by decide +kernel
theorem dX1_init_142 : decode cX1_init 142 = .ok (.newarray .int, 2) := by decide +kernel
theorem dX1_init_144 : decode cX1_init 144 = .ok (.putfield 56, 3) := by decide +kernel
theorem dX1_init_147 : decode cX1_init 147 = .ok (.return_, 1) := by decide +kernel
theorem dX1_isRegister_0 : decode cX1_isRegister 0 = .ok (.iload_n 0, 1) := by decide +kernel
theorem dX1_isRegister_1 : decode cX1_isRegister 1 = .ok (.ifCond .lt 13, 3) := by decide +kernel
theorem dX1_isRegister_4 : decode cX1_isRegister 4 = .ok (.iload_n 0, 1) := by decide +kernel
theorem dX1_isRegister_5 : decode cX1_isRegister 5 = .ok (.bipush 32, 2) := by decide +kernel
theorem dX1_isRegister_7 : decode cX1_isRegister 7 = .ok (.if_icmp .ge 7, 3) := by decide +kernel
theorem dX1_isRegister_10 : decode cX1_isRegister 10 = .ok (.iconst 1, 1) := by decide +kernel
theorem dX1_isRegister_11 : decode cX1_isRegister 11 = .ok (.goto 4, 3) := by decide +kernel
theorem dX1_isRegister_14 : decode cX1_isRegister 14 = .ok (.iconst 0, 1) := by decide +kernel
theorem dX1_isRegister_15 : decode cX1_isRegister 15 = .ok (.ireturn, 1) := by decide +kernel
theorem dX1_come_0 : decode cX1_come 0 = .ok (.aload_n 0, 1) := by decide +kernel
theorem dX1_come_1 : decode cX1_come 1 = .ok (.getfield 7, 3) := by decide +kernel
theorem dX1_come_4 : decode cX1_come 4 = .ok (.aload_n 0, 1) := by decide +kernel
theorem dX1_come_5 : decode cX1_come 5 = .ok (.getfield 63, 3) := by decide +kernel
theorem dX1_come_8 : decode cX1_come 8 = .ok (.iload_n 1, 1) := by decide +kernel
theorem dX1_come_9 : decode cX1_come 9 = .ok (.iastore, 1) := by decide +kernel
theorem dX1_come_10 : decode cX1_come 10 = .ok (.aload_n 0, 1) := by decide +kernel
theorem dX1_come_11 : decode cX1_come 11 = .ok (.getfield 13, 3) := by decide +kernel
theorem dX1_come_14 : decode cX1_come 14 = .ok (.aload_n 0, 1) := by decide +kernel
theorem dX1_come_15 : decode cX1_come 15 = .ok (.getfield 63, 3) := by decide +kernel
theorem dX1_come_18 : decode cX1_come 18 = .ok (.iload_n 2, 1) := by decide +kernel
theorem dX1_come_19 : decode cX1_come 19 = .ok (.iastore, 1) := by decide +kernel
theorem dX1_come_20 : decode cX1_come 20 = .ok (.aload_n 0, 1) := by decide +kernel
theorem dX1_come_21 : decode cX1_come 21 = .ok (.getfield 16, 3) := by decide +kernel
theorem dX1_come_24 : decode cX1_come 24 = .ok (.aload_n 0, 1) := by decide +kernel
theorem dX1_come_25 : decode cX1_come 25 = .ok (.getfield 63, 3) := by decide +kernel
theorem dX1_come_28 : decode cX1_come 28 = .ok (.iload_n 3, 1) := by decide +kernel
theorem dX1_come_29 : decode cX1_come 29 = .ok (.iastore, 1) := by decide +kernel
theorem dX1_come_30 : decode cX1_come 30 = .ok (.aload_n 0, 1) := by decide +kernel
theorem dX1_come_31 : decode cX1_come 31 = .ok (.getfield 19, 3) := by decide +kernel
theorem dX1_come_34 : decode cX1_come 34 = .ok (.aload_n 0, 1) := by decide +kernel
theorem dX1_come_35 : decode cX1_come 35 = .ok (.getfield 63, 3) := by decide +kernel
theorem dX1_come_38 : decode cX1_come 38 = .ok (.iload 4, 2) := by decide +kernel
theorem dX1_come_40 : decode cX1_come 40 = .ok (.iastore, 1) := by decide +kernel
theorem dX1_come_41 : decode cX1_come 41 = .ok (.aload_n 0, 1) := by decide +kernel
theorem dX1_come_42 : decode cX1_come 42 = .ok (.getfield 22, 3) := by decide +kernel
theorem dX1_come_45 : decode cX1_come 45 = .ok (.aload_n 0, 1) := by decide +kernel
theorem dX1_come_46 : decode cX1_come 46 = .ok (.getfield 63, 3) := by decide +kernel
theorem dX1_come_49 : decode cX1_come 49 = .ok (.iload 5, 2) := by decide +kernel
theorem dX1_come_51 : decode cX1_come 51 = .ok (.iastore, 1) := by decide +kernel
theorem dX1_come_52 : decode cX1_come 52 = .ok (.aload_n 0, 1) := by decide +kernel
theorem dX1_come_53 : decode cX1_come 53 = .ok (.getfield 25, 3) := by decide +kernel
theorem dX1_come_56 : decode cX1_come 56 = .ok (.aload_n 0, 1) := by decide +kernel
theorem dX1_come_57 : decode cX1_come 57 = .ok (.getfield 63, 3) := by decide +kernel
theorem dX1_come_60 : decode cX1_come 60 = .ok (.iload 6, 2) := by decide +kernel
theorem dX1_come_62 : decode cX1_come 62 = .ok (.bastore, 1) := by decide +kernel
theorem dX1_come_63 : decode cX1_come 63 = .ok (.aload_n 0, 1) := by decide +kernel
theorem dX1_come_64 : decode cX1_come 64 = .ok (.getfield 29, 3) := by decide +kernel
theorem dX1_come_67 : decode cX1_come 67 = .ok (.aload_n 0, 1) := by decide +kernel
theorem dX1_come_68 : decode cX1_come 68 = .ok (.getfield 63, 3) := by decide +kernel
theorem dX1_come_71 : decode cX1_come 71 = .ok (.iconst 0, 1) := by decide +kernel
theorem dX1_come_72 : decode cX1_come 72 = .ok (.bastore, 1) := by decide +kernel
theorem dX1_come_73 : decode cX1_come 73 = .ok (.aload_n 0, 1) := by decide +kernel
theorem dX1_come_74 : decode cX1_come 74 = .ok (.dup, 1) := by decide +kernel
theorem dX1_come_75 : decode cX1_come 75 = .ok (.getfield 63, 3) := by decide +kernel
theorem dX1_come_78 : decode cX1_come 78 = .ok (.iconst 1, 1) := by decide +kernel
theorem dX1_come_79 : decode cX1_come 79 = .ok (.iadd, 1) := by decide +kernel
theorem dX1_come_80 : decode cX1_come 80 = .ok (.putfield 63, 3) := by decide +kernel
theorem dX1_come_83 : decode cX1_come 83 = .ok (.aload_n 0, 1) := by decide +kernel
theorem dX1_come_84 : decode cX1_come 84 = .ok (.getfield 63, 3) := by decide +kernel
theorem dX1_come_87 : decode cX1_come 87 = .ok (.iconst 1, 1) := by decide +kernel
theorem dX1_come_88 : decode cX1_come 88 = .ok (.isub, 1) := by decide +kernel
theorem dX1_come_89 : decode cX1_come 89 = .ok (.ireturn, 1) := by decide +kernel
theorem dX1_put_0 : decode cX1_put 0 = .ok (.aload_n 0, 1) := by decide +kernel
theorem dX1_put_1 : decode cX1_put 1 = .ok (.iconst 0, 1) := by decide +kernel
theorem dX1_put_2 : decode cX1_put 2 = .ok (.putfield 59, 3) := by decide +kernel
theorem dX1_put_5 : decode cX1_put 5 = .ok (.iload_n 1, 1) := by decide +kernel
theorem dX1_put_6 : decode cX1_put 6 = .ok (.ifCond .lt 61, 3) := by decide +kernel
theorem dX1_put_9 : decode cX1_put 9 = .ok (.iload_n 1, 1) := by decide +kernel
theorem dX1_put_10 : decode cX1_put 10 = .ok (.bipush 7, 2) := by decide +kernel
theorem dX1_put_12 : decode cX1_put 12 = .ok (.if_icmp .gt 55, 3) := by decide +kernel
theorem dX1_put_15 : decode cX1_put 15 = .ok (.iload_n 1, 1) := by decide +kernel
theorem dX1_put_16 : decode cX1_put 16 = .ok (.iconst 5, 1) := by decide +kernel
theorem dX1_put_17 : decode cX1_put 17 = .ok (.if_icmp .eq 50, 3) := by decide +kernel
theorem dX1_put_20 : decode cX1_put 20 = .ok (.iload_n 2, 1) := by decide +kernel
theorem dX1_put_21 : decode cX1_put 21 = .ok (.invokestatic 66, 3) := by decide +kernel
theorem dX1_put_24 : decode cX1_put 24 = .ok (.ifCond .eq 43, 3) := by decide +kernel
theorem dX1_put_27 : decode cX1_put 27 = .ok (.iload_n 3, 1) := by decide +kernel
theorem dX1_put_28 : decode cX1_put 28 = .ok (.invokestatic 66, 3) := by decide +kernel
theorem dX1_put_31 : decode cX1_put 31 = .ok (.ifCond .eq 36, 3) := by decide +kernel
theorem dX1_put_34 : decode cX1_put 34 = .ok (.iload 4, 2) := by decide +kernel
theorem dX1_put_36 : decode cX1_put 36 = .ok (.invokestatic 66, 3) := by decide +kernel
theorem dX1_put_39 : decode cX1_put 39 = .ok (.ifCond .eq 28, 3) := by decide +kernel
theorem dX1_put_42 : decode cX1_put 42 = .ok (.iload_n 1, 1) := by decide +kernel
theorem dX1_put_43 : decode cX1_put 43 = .ok (.bipush 7, 2) := by decide +kernel
theorem dX1_put_45 : decode cX1_put 45 = .ok (.if_icmp .ne 12, 3) := by decide +kernel
theorem dX1_put_48 : decode cX1_put 48 = .ok (.iload_n 2, 1) := by decide +kernel
theorem dX1_put_49 : decode cX1_put 49 = .ok (.iload_n 3, 1) := by decide +kernel
theorem dX1_put_50 : decode cX1_put 50 = .ok (.iadd, 1) := by decide +kernel
theorem dX1_put_51 : decode cX1_put 51 = .ok (.iload 4, 2) := by decide +kernel
theorem dX1_put_53 : decode cX1_put 53 = .ok (.iadd, 1) := by decide +kernel
theorem dX1_put_54 : decode cX1_put 54 = .ok (.ifCond .gt 13, 3) := by decide +kernel
theorem dX1_put_57 : decode cX1_put 57 = .ok (.aload_n 0, 1) := by decide +kernel
theorem dX1_put_58 : decode cX1_put 58 = .ok (.getfield 63, 3) := by decide +kernel
theorem dX1_put_61 : decode cX1_put 61 = .ok (.sipush 400, 3) := by decide +kernel
theorem dX1_put_64 : decode cX1_put 64 = .ok (.if_icmp .ne 5, 3) := by decide +kernel
theorem dX1_put_67 : decode cX1_put 67 = .ok (.iconst (-1), 1) := by decide +kernel
theorem dX1_put_68 : decode cX1_put 68 = .ok (.ireturn, 1) := by decide +kernel
theorem dX1_put_69 : decode cX1_put 69 = .ok (.aload_n 0, 1) := by decide +kernel
theorem dX1_put_70 : decode cX1_put 70 = .ok (.iload_n 1, 1) := by decide +kernel
theorem dX1_put_71 : decode cX1_put 71 = .ok (.iload_n 2, 1) := by decide +kernel
theorem dX1_put_72 : decode cX1_put 72 = .ok (.iload_n 3, 1) := by decide +kernel
theorem dX1_put_73 : decode cX1_put 73 = .ok (.iload 4, 2) := by decide +kernel
theorem dX1_put_75 : decode cX1_put 75 = .ok (.iconst 0, 1) := by decide +kernel
theorem dX1_put_76 : decode cX1_put 76 = .ok (.iconst 0, 1) := by decide +kernel
theorem dX1_put_77 : decode cX1_put 77 = .ok (.invokevirtual 70, 3) := by decide +kernel
theorem dX1_put_80 : decode cX1_put 80 = .ok (.ireturn, 1) := by decide +kernel
theorem dX1_branch_0 : decode cX1_branch 0 = .ok (.aload_n 0, 1) := by decide +kernel
theorem dX1_branch_1 : decode cX1_branch 1 = .ok (.iconst 0, 1) := by decide +kernel
theorem dX1_branch_2 : decode cX1_branch 2 = .ok (.putfield 59, 3) := by decide +kernel
theorem dX1_branch_5 : decode cX1_branch 5 = .ok (.iload_n 1, 1) := by decide +kernel
theorem dX1_branch_6 : decode cX1_branch 6 = .ok (.ifCond .lt 33, 3) := by decide +kernel
theorem dX1_branch_9 : decode cX1_branch 9 = .ok (.iload_n 1, 1) := by decide +kernel
theorem dX1_branch_10 : decode cX1_branch 10 = .ok (.iconst 2, 1) := by decide +kernel
theorem dX1_branch_11 : decode cX1_branch 11 = .ok (.if_icmp .gt 28, 3) := by decide +kernel
theorem dX1_branch_14 : decode cX1_branch 14 = .ok (.iload_n 3, 1) := by decide +kernel
theorem dX1_branch_15 : decode cX1_branch 15 = .ok (.invokestatic 66, 3) := by decide +kernel
theorem dX1_branch_18 : decode cX1_branch 18 = .ok (.ifCond .eq 21, 3) := by decide +kernel
theorem dX1_branch_21 : decode cX1_branch 21 = .ok (.iload 4, 2) := by decide +kernel
theorem dX1_branch_23 : decode cX1_branch 23 = .ok (.invokestatic 66, 3) := by decide +kernel
theorem dX1_branch_26 : decode cX1_branch 26 = .ok (.ifCond .eq 13, 3) := by decide +kernel
theorem dX1_branch_29 : decode cX1_branch 29 = .ok (.aload_n 0, 1) := by decide +kernel
theorem dX1_branch_30 : decode cX1_branch 30 = .ok (.getfield 63, 3) := by decide +kernel
theorem dX1_branch_33 : decode cX1_branch 33 = .ok (.sipush 400, 3) := by decide +kernel
theorem dX1_branch_36 : decode cX1_branch 36 = .ok (.if_icmp .ne 5, 3) := by decide +kernel
theorem dX1_branch_39 : decode cX1_branch 39 = .ok (.iconst (-1), 1) := by decide +kernel
theorem dX1_branch_40 : decode cX1_branch 40 = .ok (.ireturn, 1) := by decide +kernel
theorem dX1_branch_41 : decode cX1_branch 41 = .ok (.aload_n 0, 1) := by decide +kernel
theorem dX1_branch_42 : decode cX1_branch 42 = .ok (.iconst 5, 1) := by decide +kernel
theorem dX1_branch_43 : decode cX1_branch 43 = .ok (.iload_n 3, 1) := by decide +kernel
theorem dX1_branch_44 : decode cX1_branch 44 = .ok (.iload 4, 2) := by decide +kernel
theorem dX1_branch_46 : decode cX1_branch 46 = .ok (.iconst 0, 1) := by decide +kernel
theorem dX1_branch_47 : decode cX1_branch 47 = .ok (.iload_n 1, 1) := by decide +kernel
theorem dX1_branch_48 : decode cX1_branch 48 = .ok (.iload_n 2, 1) := by decide +kernel
theorem dX1_branch_49 : decode cX1_branch 49 = .ok (.invokevirtual 70, 3) := by decide +kernel
theorem dX1_branch_52 : decode cX1_branch 52 = .ok (.ireturn, 1) := by decide +kernel
theorem dX1_fail_0 : decode cX1_fail 0 = .ok (.aload_n 0, 1) := by decide +kernel
theorem dX1_fail_1 : decode cX1_fail 1 = .ok (.iconst 0, 1) := by decide +kernel
theorem dX1_fail_2 : decode cX1_fail 2 = .ok (.putfield 59, 3) := by decide +kernel
theorem dX1_fail_5 : decode cX1_fail 5 = .ok (.aload_n 0, 1) := by decide +kernel
theorem dX1_fail_6 : decode cX1_fail 6 = .ok (.getfield 63, 3) := by decide +kernel
theorem dX1_fail_9 : decode cX1_fail 9 = .ok (.ifCond .ne 5, 3) := by decide +kernel
theorem dX1_fail_12 : decode cX1_fail 12 = .ok (.iconst 0, 1) := by decide +kernel
theorem dX1_fail_13 : decode cX1_fail 13 = .ok (.ireturn, 1) := by decide +kernel
theorem dX1_fail_14 : decode cX1_fail 14 = .ok (.aload_n 0, 1) := by decide +kernel
theorem dX1_fail_15 : decode cX1_fail 15 = .ok (.getfield 29, 3) := by decide +kernel
theorem dX1_fail_18 : decode cX1_fail 18 = .ok (.aload_n 0, 1) := by decide +kernel
theorem dX1_fail_19 : decode cX1_fail 19 = .ok (.getfield 63, 3) := by decide +kernel
theorem dX1_fail_22 : decode cX1_fail 22 = .ok (.iconst 1, 1) := by decide +kernel
theorem dX1_fail_23 : decode cX1_fail 23 = .ok (.isub, 1) := by decide +kernel
theorem dX1_fail_24 : decode cX1_fail 24 = .ok (.iconst 1, 1) := by decide +kernel
theorem dX1_fail_25 : decode cX1_fail 25 = .ok (.bastore, 1) := by decide +kernel
theorem dX1_fail_26 : decode cX1_fail 26 = .ok (.iconst 1, 1) := by decide +kernel
theorem dX1_fail_27 : decode cX1_fail 27 = .ok (.ireturn, 1) := by decide +kernel
theorem dX1_drop_0 : decode cX1_drop 0 = .ok (.aload_n 0, 1) := by decide +kernel
theorem dX1_drop_1 : decode cX1_drop 1 = .ok (.iconst 0, 1) := by decide +kernel
theorem dX1_drop_2 : decode cX1_drop 2 = .ok (.putfield 59, 3) := by decide +kernel
theorem dX1_drop_5 : decode cX1_drop 5 = .ok (.iload_n 1, 1) := by decide +kernel
theorem dX1_drop_6 : decode cX1_drop 6 = .ok (.ifCond .lt 11, 3) := by decide +kernel
theorem dX1_drop_9 : decode cX1_drop 9 = .ok (.iload_n 1, 1) := by decide +kernel
theorem dX1_drop_10 : decode cX1_drop 10 = .ok (.aload_n 0, 1) := by decide +kernel
theorem dX1_drop_11 : decode cX1_drop 11 = .ok (.getfield 63, 3) := by decide +kernel
theorem dX1_drop_14 : decode cX1_drop 14 = .ok (.if_icmp .le 5, 3) := by decide +kernel
theorem dX1_drop_17 : decode cX1_drop 17 = .ok (.iconst 0, 1) := by decide +kernel
theorem dX1_drop_18 : decode cX1_drop 18 = .ok (.ireturn, 1) := by decide +kernel
theorem dX1_drop_19 : decode cX1_drop 19 = .ok (.aload_n 0, 1) := by decide +kernel
theorem dX1_drop_20 : decode cX1_drop 20 = .ok (.dup, 1) := by decide +kernel
theorem dX1_drop_21 : decode cX1_drop 21 = .ok (.getfield 63, 3) := by decide +kernel
theorem dX1_drop_24 : decode cX1_drop 24 = .ok (.iload_n 1, 1) := by decide +kernel
theorem dX1_drop_25 : decode cX1_drop 25 = .ok (.isub, 1) := by decide +kernel
theorem dX1_drop_26 : decode cX1_drop 26 = .ok (.putfield 63, 3) := by decide +kernel
theorem dX1_drop_29 : decode cX1_drop 29 = .ok (.iconst 1, 1) := by decide +kernel
theorem dX1_drop_30 : decode cX1_drop 30 = .ok (.ireturn, 1) := by decide +kernel
theorem dX1_clear_0 : decode cX1_clear 0 = .ok (.aload_n 0, 1) := by decide +kernel
theorem dX1_clear_1 : decode cX1_clear 1 = .ok (.iconst 0, 1) := by decide +kernel
theorem dX1_clear_2 : decode cX1_clear 2 = .ok (.putfield 59, 3) := by decide +kernel
theorem dX1_clear_5 : decode cX1_clear 5 = .ok (.aload_n 0, 1) := by decide +kernel
theorem dX1_clear_6 : decode cX1_clear 6 = .ok (.iconst 0, 1) := by decide +kernel
theorem dX1_clear_7 : decode cX1_clear 7 = .ok (.putfield 63, 3) := by decide +kernel
theorem dX1_clear_10 : decode cX1_clear 10 = .ok (.return_, 1) := by decide +kernel
theorem dX1_again_0 : decode cX1_again 0 = .ok (.aload_n 0, 1) := by decide +kernel
theorem dX1_again_1 : decode cX1_again 1 = .ok (.iconst 0, 1) := by decide +kernel
theorem dX1_again_2 : decode cX1_again 2 = .ok (.putfield 59, 3) := by decide +kernel
theorem dX1_again_5 : decode cX1_again 5 = .ok (.iload_n 1, 1) := by decide +kernel
theorem dX1_again_6 : decode cX1_again 6 = .ok (.ifCond .lt 30, 3) := by decide +kernel
theorem dX1_again_9 : decode cX1_again 9 = .ok (.iload_n 2, 1) := by decide +kernel
theorem dX1_again_10 : decode cX1_again 10 = .ok (.iconst 1, 1) := by decide +kernel
theorem dX1_again_11 : decode cX1_again 11 = .ok (.if_icmp .lt 25, 3) := by decide +kernel
theorem dX1_again_14 : decode cX1_again 14 = .ok (.iload_n 2, 1) := by decide +kernel
theorem dX1_again_15 : decode cX1_again 15 = .ok (.sipush 400, 3) := by decide +kernel
theorem dX1_again_18 : decode cX1_again 18 = .ok (.aload_n 0, 1) := by decide +kernel
theorem dX1_again_19 : decode cX1_again 19 = .ok (.getfield 63, 3) := by decide +kernel
theorem dX1_again_22 : decode cX1_again 22 = .ok (.isub, 1) := by decide +kernel
theorem dX1_again_23 : decode cX1_again 23 = .ok (.if_icmp .gt 13, 3) := by decide +kernel
theorem dX1_again_26 : decode cX1_again 26 = .ok (.iload_n 1, 1) := by decide +kernel
theorem dX1_again_27 : decode cX1_again 27 = .ok (.aload_n 0, 1) := by decide +kernel
theorem dX1_again_28 : decode cX1_again 28 = .ok (.getfield 63, 3) := by decide +kernel
theorem dX1_again_31 : decode cX1_again 31 = .ok (.iload_n 2, 1) := by decide +kernel
theorem dX1_again_32 : decode cX1_again 32 = .ok (.isub, 1) := by decide +kernel
theorem dX1_again_33 : decode cX1_again 33 = .ok (.if_icmp .le 5, 3) := by decide +kernel
theorem dX1_again_36 : decode cX1_again 36 = .ok (.iconst (-1), 1) := by decide +kernel
theorem dX1_again_37 : decode cX1_again 37 = .ok (.ireturn, 1) := by decide +kernel
theorem dX1_again_38 : decode cX1_again 38 = .ok (.iload_n 1, 1) := by decide +kernel
theorem dX1_again_39 : decode cX1_again 39 = .ok (.istore_n 3, 1) := by decide +kernel
theorem dX1_again_40 : decode cX1_again 40 = .ok (.iload_n 3, 1) := by decide +kernel
theorem dX1_again_41 : decode cX1_again 41 = .ok (.iload_n 1, 1) := by decide +kernel
theorem dX1_again_42 : decode cX1_again 42 = .ok (.iload_n 2, 1) := by decide +kernel
theorem dX1_again_43 : decode cX1_again 43 = .ok (.iadd, 1) := by decide +kernel
theorem dX1_again_44 : decode cX1_again 44 = .ok (.if_icmp .ge 64, 3) := by decide +kernel
theorem dX1_again_47 : decode cX1_again 47 = .ok (.aload_n 0, 1) := by decide +kernel
theorem dX1_again_48 : decode cX1_again 48 = .ok (.aload_n 0, 1) := by decide +kernel
theorem dX1_again_49 : decode cX1_again 49 = .ok (.getfield 7, 3) := by decide +kernel
theorem dX1_again_52 : decode cX1_again 52 = .ok (.iload_n 3, 1) := by decide +kernel
theorem dX1_again_53 : decode cX1_again 53 = .ok (.iaload, 1) := by decide +kernel
theorem dX1_again_54 : decode cX1_again 54 = .ok (.aload_n 0, 1) := by decide +kernel
theorem dX1_again_55 : decode cX1_again 55 = .ok (.getfield 13, 3) := by decide +kernel
theorem dX1_again_58 : decode cX1_again 58 = .ok (.iload_n 3, 1) := by decide +kernel
theorem dX1_again_59 : decode cX1_again 59 = .ok (.iaload, 1) := by decide +kernel
theorem dX1_again_60 : decode cX1_again 60 = .ok (.aload_n 0, 1) := by decide +kernel
theorem dX1_again_61 : decode cX1_again 61 = .ok (.getfield 16, 3) := by decide +kernel
theorem dX1_again_64 : decode cX1_again 64 = .ok (.iload_n 3, 1) := by decide +kernel
theorem dX1_again_65 : decode cX1_again 65 = .ok (.iaload, 1) := by decide +kernel
theorem dX1_again_66 : decode cX1_again 66 = .ok (.aload_n 0, 1) := by decide +kernel
theorem dX1_again_67 : decode cX1_again 67 = .ok (.getfield 19, 3) := by decide +kernel
theorem dX1_again_70 : decode cX1_again 70 = .ok (.iload_n 3, 1) := by decide +kernel
theorem dX1_again_71 : decode cX1_again 71 = .ok (.iaload, 1) := by decide +kernel
theorem dX1_again_72 : decode cX1_again 72 = .ok (.aload_n 0, 1) := by decide +kernel
theorem dX1_again_73 : decode cX1_again 73 = .ok (.getfield 22, 3) := by decide +kernel
theorem dX1_again_76 : decode cX1_again 76 = .ok (.iload_n 3, 1) := by decide +kernel
theorem dX1_again_77 : decode cX1_again 77 = .ok (.iaload, 1) := by decide +kernel
theorem dX1_again_78 : decode cX1_again 78 = .ok (.aload_n 0, 1) := by decide +kernel
theorem dX1_again_79 : decode cX1_again 79 = .ok (.getfield 25, 3) := by decide +kernel
theorem dX1_again_82 : decode cX1_again 82 = .ok (.iload_n 3, 1) := by decide +kernel
theorem dX1_again_83 : decode cX1_again 83 = .ok (.baload, 1) := by decide +kernel
end
section
theorem dX1_again_84 : decode cX1_again 84 = .ok (.invokevirtual 70, 3) := by decide +kernel
theorem dX1_again_87 : decode cX1_again 87 = .ok (.istore 4, 2) := by decide +kernel
theorem dX1_again_89 : decode cX1_again 89 = .ok (.aload_n 0, 1) := by decide +kernel
theorem dX1_again_90 : decode cX1_again 90 = .ok (.getfield 29, 3) := by decide +kernel
theorem dX1_again_93 : decode cX1_again 93 = .ok (.iload 4, 2) := by decide +kernel
theorem dX1_again_95 : decode cX1_again 95 = .ok (.aload_n 0, 1) := by decide +kernel
theorem dX1_again_96 : decode cX1_again 96 = .ok (.getfield 29, 3) := by decide +kernel
theorem dX1_again_99 : decode cX1_again 99 = .ok (.iload_n 3, 1) := by decide +kernel
theorem dX1_again_100 : decode cX1_again 100 = .ok (.baload, 1) := by decide +kernel
theorem dX1_again_101 : decode cX1_again 101 = .ok (.bastore, 1) := by decide +kernel
theorem dX1_again_102 : decode cX1_again 102 = .ok (.iinc 3 1, 3) := by decide +kernel
theorem dX1_again_105 : decode cX1_again 105 = .ok (.goto (-65), 3) := by decide +kernel
theorem dX1_again_108 : decode cX1_again 108 = .ok (.aload_n 0, 1) := by decide +kernel
theorem dX1_again_109 : decode cX1_again 109 = .ok (.getfield 63, 3) := by decide +kernel
theorem dX1_again_112 : decode cX1_again 112 = .ok (.ireturn, 1) := by decide +kernel
theorem dX1_stand_0 : decode cX1_stand 0 = .ok (.aload_n 0, 1) := by decide +kernel
theorem dX1_stand_1 : decode cX1_stand 1 = .ok (.getfield 35, 3) := by decide +kernel
theorem dX1_stand_4 : decode cX1_stand 4 = .ok (.iload_n 1, 1) := by decide +kernel
theorem dX1_stand_5 : decode cX1_stand 5 = .ok (.iload_n 1, 1) := by decide +kernel
theorem dX1_stand_6 : decode cX1_stand 6 = .ok (.ifCond .le 30, 3) := by decide +kernel
theorem dX1_stand_9 : decode cX1_stand 9 = .ok (.aload_n 0, 1) := by decide +kernel
theorem dX1_stand_10 : decode cX1_stand 10 = .ok (.getfield 7, 3) := by decide +kernel
theorem dX1_stand_13 : decode cX1_stand 13 = .ok (.iload_n 1, 1) := by decide +kernel
theorem dX1_stand_14 : decode cX1_stand 14 = .ok (.iconst 1, 1) := by decide +kernel
theorem dX1_stand_15 : decode cX1_stand 15 = .ok (.isub, 1) := by decide +kernel
theorem dX1_stand_16 : decode cX1_stand 16 = .ok (.iaload, 1) := by decide +kernel
theorem dX1_stand_17 : decode cX1_stand 17 = .ok (.iconst 5, 1) := by decide +kernel
theorem dX1_stand_18 : decode cX1_stand 18 = .ok (.if_icmp .ne 18, 3) := by decide +kernel
theorem dX1_stand_21 : decode cX1_stand 21 = .ok (.aload_n 0, 1) := by decide +kernel
theorem dX1_stand_22 : decode cX1_stand 22 = .ok (.getfield 32, 3) := by decide +kernel
theorem dX1_stand_25 : decode cX1_stand 25 = .ok (.iload_n 1, 1) := by decide +kernel
theorem dX1_stand_26 : decode cX1_stand 26 = .ok (.iconst 1, 1) := by decide +kernel
theorem dX1_stand_27 : decode cX1_stand 27 = .ok (.isub, 1) := by decide +kernel
theorem dX1_stand_28 : decode cX1_stand 28 = .ok (.baload, 1) := by decide +kernel
theorem dX1_stand_29 : decode cX1_stand 29 = .ok (.ifCond .ne 7, 3) := by decide +kernel
theorem dX1_stand_32 : decode cX1_stand 32 = .ok (.iconst 1, 1) := by decide +kernel
theorem dX1_stand_33 : decode cX1_stand 33 = .ok (.goto 4, 3) := by decide +kernel
theorem dX1_stand_36 : decode cX1_stand 36 = .ok (.iconst 0, 1) := by decide +kernel
theorem dX1_stand_37 : decode cX1_stand 37 = .ok (.bastore, 1) := by decide +kernel
theorem dX1_stand_38 : decode cX1_stand 38 = .ok (.aload_n 0, 1) := by decide +kernel
theorem dX1_stand_39 : decode cX1_stand 39 = .ok (.getfield 32, 3) := by decide +kernel
theorem dX1_stand_42 : decode cX1_stand 42 = .ok (.iload_n 1, 1) := by decide +kernel
theorem dX1_stand_43 : decode cX1_stand 43 = .ok (.aload_n 0, 1) := by decide +kernel
theorem dX1_stand_44 : decode cX1_stand 44 = .ok (.getfield 29, 3) := by decide +kernel
theorem dX1_stand_47 : decode cX1_stand 47 = .ok (.iload_n 1, 1) := by decide +kernel
theorem dX1_stand_48 : decode cX1_stand 48 = .ok (.baload, 1) := by decide +kernel
theorem dX1_stand_49 : decode cX1_stand 49 = .ok (.ifCond .ne 33, 3) := by decide +kernel
theorem dX1_stand_52 : decode cX1_stand 52 = .ok (.aload_n 0, 1) := by decide +kernel
theorem dX1_stand_53 : decode cX1_stand 53 = .ok (.getfield 7, 3) := by decide +kernel
theorem dX1_stand_56 : decode cX1_stand 56 = .ok (.iload_n 1, 1) := by decide +kernel
theorem dX1_stand_57 : decode cX1_stand 57 = .ok (.iaload, 1) := by decide +kernel
theorem dX1_stand_58 : decode cX1_stand 58 = .ok (.bipush 7, 2) := by decide +kernel
theorem dX1_stand_60 : decode cX1_stand 60 = .ok (.if_icmp .eq 22, 3) := by decide +kernel
theorem dX1_stand_63 : decode cX1_stand 63 = .ok (.aload_n 0, 1) := by decide +kernel
theorem dX1_stand_64 : decode cX1_stand 64 = .ok (.getfield 7, 3) := by decide +kernel
theorem dX1_stand_67 : decode cX1_stand 67 = .ok (.iload_n 1, 1) := by decide +kernel
theorem dX1_stand_68 : decode cX1_stand 68 = .ok (.iaload, 1) := by decide +kernel
theorem dX1_stand_69 : decode cX1_stand 69 = .ok (.iconst 5, 1) := by decide +kernel
theorem dX1_stand_70 : decode cX1_stand 70 = .ok (.if_icmp .ne 16, 3) := by decide +kernel
theorem dX1_stand_73 : decode cX1_stand 73 = .ok (.aload_n 0, 1) := by decide +kernel
theorem dX1_stand_74 : decode cX1_stand 74 = .ok (.getfield 35, 3) := by decide +kernel
theorem dX1_stand_77 : decode cX1_stand 77 = .ok (.iload_n 1, 1) := by decide +kernel
theorem dX1_stand_78 : decode cX1_stand 78 = .ok (.baload, 1) := by decide +kernel
theorem dX1_stand_79 : decode cX1_stand 79 = .ok (.ifCond .eq 7, 3) := by decide +kernel
theorem dX1_stand_82 : decode cX1_stand 82 = .ok (.iconst 1, 1) := by decide +kernel
theorem dX1_stand_83 : decode cX1_stand 83 = .ok (.goto 4, 3) := by decide +kernel
theorem dX1_stand_86 : decode cX1_stand 86 = .ok (.iconst 0, 1) := by decide +kernel
theorem dX1_stand_87 : decode cX1_stand 87 = .ok (.bastore, 1) := by decide +kernel
theorem dX1_stand_88 : decode cX1_stand 88 = .ok (.iload_n 1, 1) := by decide +kernel
theorem dX1_stand_89 : decode cX1_stand 89 = .ok (.iconst 1, 1) := by decide +kernel
theorem dX1_stand_90 : decode cX1_stand 90 = .ok (.if_icmp .le 18, 3) := by decide +kernel
theorem dX1_stand_93 : decode cX1_stand 93 = .ok (.aload_n 0, 1) := by decide +kernel
theorem dX1_stand_94 : decode cX1_stand 94 = .ok (.getfield 35, 3) := by decide +kernel
theorem dX1_stand_97 : decode cX1_stand 97 = .ok (.iload_n 1, 1) := by decide +kernel
theorem dX1_stand_98 : decode cX1_stand 98 = .ok (.iconst 1, 1) := by decide +kernel
theorem dX1_stand_99 : decode cX1_stand 99 = .ok (.isub, 1) := by decide +kernel
theorem dX1_stand_100 : decode cX1_stand 100 = .ok (.baload, 1) := by decide +kernel
theorem dX1_stand_101 : decode cX1_stand 101 = .ok (.ifCond .eq 7, 3) := by decide +kernel
theorem dX1_stand_104 : decode cX1_stand 104 = .ok (.iconst 1, 1) := by decide +kernel
theorem dX1_stand_105 : decode cX1_stand 105 = .ok (.goto 4, 3) := by decide +kernel
theorem dX1_stand_108 : decode cX1_stand 108 = .ok (.iconst 0, 1) := by decide +kernel
theorem dX1_stand_109 : decode cX1_stand 109 = .ok (.istore_n 2, 1) := by decide +kernel
theorem dX1_stand_110 : decode cX1_stand 110 = .ok (.iload_n 1, 1) := by decide +kernel
theorem dX1_stand_111 : decode cX1_stand 111 = .ok (.iconst 1, 1) := by decide +kernel
theorem dX1_stand_112 : decode cX1_stand 112 = .ok (.if_icmp .le 9, 3) := by decide +kernel
theorem dX1_stand_115 : decode cX1_stand 115 = .ok (.iload_n 1, 1) := by decide +kernel
theorem dX1_stand_116 : decode cX1_stand 116 = .ok (.iconst 2, 1) := by decide +kernel
theorem dX1_stand_117 : decode cX1_stand 117 = .ok (.isub, 1) := by decide +kernel
theorem dX1_stand_118 : decode cX1_stand 118 = .ok (.goto 4, 3) := by decide +kernel
theorem dX1_stand_121 : decode cX1_stand 121 = .ok (.iconst 0, 1) := by decide +kernel
theorem dX1_stand_122 : decode cX1_stand 122 = .ok (.istore_n 3, 1) := by decide +kernel
theorem dX1_stand_123 : decode cX1_stand 123 = .ok (.aload_n 0, 1) := by decide +kernel
theorem dX1_stand_124 : decode cX1_stand 124 = .ok (.getfield 41, 3) := by decide +kernel
theorem dX1_stand_127 : decode cX1_stand 127 = .ok (.iload_n 1, 1) := by decide +kernel
theorem dX1_stand_128 : decode cX1_stand 128 = .ok (.iload_n 1, 1) := by decide +kernel
theorem dX1_stand_129 : decode cX1_stand 129 = .ok (.ifCond .le 31, 3) := by decide +kernel
theorem dX1_stand_132 : decode cX1_stand 132 = .ok (.aload_n 0, 1) := by decide +kernel
theorem dX1_stand_133 : decode cX1_stand 133 = .ok (.getfield 32, 3) := by decide +kernel
theorem dX1_stand_136 : decode cX1_stand 136 = .ok (.iload_n 1, 1) := by decide +kernel
theorem dX1_stand_137 : decode cX1_stand 137 = .ok (.iconst 1, 1) := by decide +kernel
theorem dX1_stand_138 : decode cX1_stand 138 = .ok (.isub, 1) := by decide +kernel
theorem dX1_stand_139 : decode cX1_stand 139 = .ok (.baload, 1) := by decide +kernel
theorem dX1_stand_140 : decode cX1_stand 140 = .ok (.ifCond .ne 20, 3) := by decide +kernel
theorem dX1_stand_143 : decode cX1_stand 143 = .ok (.iload_n 2, 1) := by decide +kernel
theorem dX1_stand_144 : decode cX1_stand 144 = .ok (.ifCond .eq 12, 3) := by decide +kernel
theorem dX1_stand_147 : decode cX1_stand 147 = .ok (.aload_n 0, 1) := by decide +kernel
theorem dX1_stand_148 : decode cX1_stand 148 = .ok (.getfield 25, 3) := by decide +kernel
theorem dX1_stand_151 : decode cX1_stand 151 = .ok (.iload_n 3, 1) := by decide +kernel
theorem dX1_stand_152 : decode cX1_stand 152 = .ok (.baload, 1) := by decide +kernel
theorem dX1_stand_153 : decode cX1_stand 153 = .ok (.ifCond .ne 7, 3) := by decide +kernel
theorem dX1_stand_156 : decode cX1_stand 156 = .ok (.iconst 1, 1) := by decide +kernel
theorem dX1_stand_157 : decode cX1_stand 157 = .ok (.goto 4, 3) := by decide +kernel
theorem dX1_stand_160 : decode cX1_stand 160 = .ok (.iconst 0, 1) := by decide +kernel
theorem dX1_stand_161 : decode cX1_stand 161 = .ok (.bastore, 1) := by decide +kernel
theorem dX1_stand_162 : decode cX1_stand 162 = .ok (.iload_n 2, 1) := by decide +kernel
theorem dX1_stand_163 : decode cX1_stand 163 = .ok (.ifCond .eq 40, 3) := by decide +kernel
theorem dX1_stand_166 : decode cX1_stand 166 = .ok (.aload_n 0, 1) := by decide +kernel
theorem dX1_stand_167 : decode cX1_stand 167 = .ok (.getfield 22, 3) := by decide +kernel
theorem dX1_stand_170 : decode cX1_stand 170 = .ok (.iload_n 3, 1) := by decide +kernel
theorem dX1_stand_171 : decode cX1_stand 171 = .ok (.iaload, 1) := by decide +kernel
theorem dX1_stand_172 : decode cX1_stand 172 = .ok (.ifCond .eq 27, 3) := by decide +kernel
theorem dX1_stand_175 : decode cX1_stand 175 = .ok (.aload_n 0, 1) := by decide +kernel
theorem dX1_stand_176 : decode cX1_stand 176 = .ok (.getfield 22, 3) := by decide +kernel
theorem dX1_stand_179 : decode cX1_stand 179 = .ok (.iload_n 3, 1) := by decide +kernel
theorem dX1_stand_180 : decode cX1_stand 180 = .ok (.iaload, 1) := by decide +kernel
theorem dX1_stand_181 : decode cX1_stand 181 = .ok (.iconst 1, 1) := by decide +kernel
theorem dX1_stand_182 : decode cX1_stand 182 = .ok (.if_icmp .ne 7, 3) := by decide +kernel
theorem dX1_stand_185 : decode cX1_stand 185 = .ok (.iconst 1, 1) := by decide +kernel
theorem dX1_stand_186 : decode cX1_stand 186 = .ok (.goto 4, 3) := by decide +kernel
theorem dX1_stand_189 : decode cX1_stand 189 = .ok (.iconst 0, 1) := by decide +kernel
theorem dX1_stand_190 : decode cX1_stand 190 = .ok (.aload_n 0, 1) := by decide +kernel
theorem dX1_stand_191 : decode cX1_stand 191 = .ok (.getfield 25, 3) := by decide +kernel
theorem dX1_stand_194 : decode cX1_stand 194 = .ok (.iload_n 3, 1) := by decide +kernel
theorem dX1_stand_195 : decode cX1_stand 195 = .ok (.baload, 1) := by decide +kernel
theorem dX1_stand_196 : decode cX1_stand 196 = .ok (.if_icmp .eq 7, 3) := by decide +kernel
theorem dX1_stand_199 : decode cX1_stand 199 = .ok (.iconst 1, 1) := by decide +kernel
theorem dX1_stand_200 : decode cX1_stand 200 = .ok (.goto 4, 3) := by decide +kernel
theorem dX1_stand_203 : decode cX1_stand 203 = .ok (.iconst 0, 1) := by decide +kernel
theorem dX1_stand_204 : decode cX1_stand 204 = .ok (.istore 4, 2) := by decide +kernel
theorem dX1_stand_206 : decode cX1_stand 206 = .ok (.aload_n 0, 1) := by decide +kernel
theorem dX1_stand_207 : decode cX1_stand 207 = .ok (.getfield 38, 3) := by decide +kernel
theorem dX1_stand_210 : decode cX1_stand 210 = .ok (.iload_n 1, 1) := by decide +kernel
theorem dX1_stand_211 : decode cX1_stand 211 = .ok (.iload_n 1, 1) := by decide +kernel
theorem dX1_stand_212 : decode cX1_stand 212 = .ok (.ifCond .le 36, 3) := by decide +kernel
theorem dX1_stand_215 : decode cX1_stand 215 = .ok (.aload_n 0, 1) := by decide +kernel
theorem dX1_stand_216 : decode cX1_stand 216 = .ok (.getfield 32, 3) := by decide +kernel
theorem dX1_stand_219 : decode cX1_stand 219 = .ok (.iload_n 1, 1) := by decide +kernel
theorem dX1_stand_220 : decode cX1_stand 220 = .ok (.iconst 1, 1) := by decide +kernel
theorem dX1_stand_221 : decode cX1_stand 221 = .ok (.isub, 1) := by decide +kernel
theorem dX1_stand_222 : decode cX1_stand 222 = .ok (.baload, 1) := by decide +kernel
theorem dX1_stand_223 : decode cX1_stand 223 = .ok (.ifCond .ne 21, 3) := by decide +kernel
theorem dX1_stand_226 : decode cX1_stand 226 = .ok (.aload_n 0, 1) := by decide +kernel
theorem dX1_stand_227 : decode cX1_stand 227 = .ok (.getfield 7, 3) := by decide +kernel
theorem dX1_stand_230 : decode cX1_stand 230 = .ok (.iload_n 1, 1) := by decide +kernel
theorem dX1_stand_231 : decode cX1_stand 231 = .ok (.iconst 1, 1) := by decide +kernel
theorem dX1_stand_232 : decode cX1_stand 232 = .ok (.isub, 1) := by decide +kernel
theorem dX1_stand_233 : decode cX1_stand 233 = .ok (.iaload, 1) := by decide +kernel
theorem dX1_stand_234 : decode cX1_stand 234 = .ok (.bipush 6, 2) := by decide +kernel
theorem dX1_stand_236 : decode cX1_stand 236 = .ok (.if_icmp .eq 8, 3) := by decide +kernel
theorem dX1_stand_239 : decode cX1_stand 239 = .ok (.iload 4, 2) := by decide +kernel
theorem dX1_stand_241 : decode cX1_stand 241 = .ok (.ifCond .eq 7, 3) := by decide +kernel
theorem dX1_stand_244 : decode cX1_stand 244 = .ok (.iconst 1, 1) := by decide +kernel
theorem dX1_stand_245 : decode cX1_stand 245 = .ok (.goto 4, 3) := by decide +kernel
theorem dX1_stand_248 : decode cX1_stand 248 = .ok (.iconst 0, 1) := by decide +kernel
theorem dX1_stand_249 : decode cX1_stand 249 = .ok (.bastore, 1) := by decide +kernel
theorem dX1_stand_250 : decode cX1_stand 250 = .ok (.return_, 1) := by decide +kernel
theorem dX1_later_0 : decode cX1_later 0 = .ok (.iload_n 0, 1) := by decide +kernel
theorem dX1_later_1 : decode cX1_later 1 = .ok (.iload_n 1, 1) := by decide +kernel
theorem dX1_later_2 : decode cX1_later 2 = .ok (.if_icmp .le 7, 3) := by decide +kernel
theorem dX1_later_5 : decode cX1_later 5 = .ok (.iload_n 0, 1) := by decide +kernel
theorem dX1_later_6 : decode cX1_later 6 = .ok (.goto 4, 3) := by decide +kernel
theorem dX1_later_9 : decode cX1_later 9 = .ok (.iload_n 1, 1) := by decide +kernel
theorem dX1_later_10 : decode cX1_later 10 = .ok (.ireturn, 1) := by decide +kernel
theorem dX1_delay_0 : decode cX1_delay 0 = .ok (.iload_n 0, 1) := by decide +kernel
theorem dX1_delay_1 : decode cX1_delay 1 = .ok (.iconst 1, 1) := by decide +kernel
theorem dX1_delay_2 : decode cX1_delay 2 = .ok (.if_icmp .ne 7, 3) := by decide +kernel
theorem dX1_delay_5 : decode cX1_delay 5 = .ok (.iconst 2, 1) := by decide +kernel
theorem dX1_delay_6 : decode cX1_delay 6 = .ok (.goto 23, 3) := by decide +kernel
theorem dX1_delay_9 : decode cX1_delay 9 = .ok (.iload_n 0, 1) := by decide +kernel
theorem dX1_delay_10 : decode cX1_delay 10 = .ok (.iconst 3, 1) := by decide +kernel
theorem dX1_delay_11 : decode cX1_delay 11 = .ok (.if_icmp .ne 7, 3) := by decide +kernel
theorem dX1_delay_14 : decode cX1_delay 14 = .ok (.iconst 3, 1) := by decide +kernel
theorem dX1_delay_15 : decode cX1_delay 15 = .ok (.goto 14, 3) := by decide +kernel
theorem dX1_delay_18 : decode cX1_delay 18 = .ok (.iload_n 0, 1) := by decide +kernel
theorem dX1_delay_19 : decode cX1_delay 19 = .ok (.iconst 4, 1) := by decide +kernel
theorem dX1_delay_20 : decode cX1_delay 20 = .ok (.if_icmp .ne 8, 3) := by decide +kernel
theorem dX1_delay_23 : decode cX1_delay 23 = .ok (.bipush 18, 2) := by decide +kernel
theorem dX1_delay_25 : decode cX1_delay 25 = .ok (.goto 4, 3) := by decide +kernel
theorem dX1_delay_28 : decode cX1_delay 28 = .ok (.iconst 1, 1) := by decide +kernel
theorem dX1_delay_29 : decode cX1_delay 29 = .ok (.ireturn, 1) := by decide +kernel
theorem dX1_isMemory_0 : decode cX1_isMemory 0 = .ok (.iload_n 0, 1) := by decide +kernel
theorem dX1_isMemory_1 : decode cX1_isMemory 1 = .ok (.iconst 1, 1) := by decide +kernel
theorem dX1_isMemory_2 : decode cX1_isMemory 2 = .ok (.if_icmp .eq 8, 3) := by decide +kernel
theorem dX1_isMemory_5 : decode cX1_isMemory 5 = .ok (.iload_n 0, 1) := by decide +kernel
theorem dX1_isMemory_6 : decode cX1_isMemory 6 = .ok (.iconst 2, 1) := by decide +kernel
theorem dX1_isMemory_7 : decode cX1_isMemory 7 = .ok (.if_icmp .ne 7, 3) := by decide +kernel
theorem dX1_isMemory_10 : decode cX1_isMemory 10 = .ok (.iconst 1, 1) := by decide +kernel
theorem dX1_isMemory_11 : decode cX1_isMemory 11 = .ok (.goto 4, 3) := by decide +kernel
theorem dX1_isMemory_14 : decode cX1_isMemory 14 = .ok (.iconst 0, 1) := by decide +kernel
theorem dX1_isMemory_15 : decode cX1_isMemory 15 = .ok (.ireturn, 1) := by decide +kernel
theorem dX1_isSlow_0 : decode cX1_isSlow 0 = .ok (.iload_n 0, 1) := by decide +kernel
theorem dX1_isSlow_1 : decode cX1_isSlow 1 = .ok (.iconst 3, 1) := by decide +kernel
theorem dX1_isSlow_2 : decode cX1_isSlow 2 = .ok (.if_icmp .eq 8, 3) := by decide +kernel
theorem dX1_isSlow_5 : decode cX1_isSlow 5 = .ok (.iload_n 0, 1) := by decide +kernel
theorem dX1_isSlow_6 : decode cX1_isSlow 6 = .ok (.iconst 4, 1) := by decide +kernel
theorem dX1_isSlow_7 : decode cX1_isSlow 7 = .ok (.if_icmp .ne 7, 3) := by decide +kernel
theorem dX1_isSlow_10 : decode cX1_isSlow 10 = .ok (.iconst 1, 1) := by decide +kernel
theorem dX1_isSlow_11 : decode cX1_isSlow 11 = .ok (.goto 4, 3) := by decide +kernel
theorem dX1_isSlow_14 : decode cX1_isSlow 14 = .ok (.iconst 0, 1) := by decide +kernel
theorem dX1_isSlow_15 : decode cX1_isSlow 15 = .ok (.ireturn, 1) := by decide +kernel
theorem dX1_pairs_0 : decode cX1_pairs 0 = .ok (.aload_n 0, 1) := by decide +kernel
theorem dX1_pairs_1 : decode cX1_pairs 1 = .ok (.getfield 7, 3) := by decide +kernel
theorem dX1_pairs_4 : decode cX1_pairs 4 = .ok (.iload_n 1, 1) := by decide +kernel
theorem dX1_pairs_5 : decode cX1_pairs 5 = .ok (.iconst 1, 1) := by decide +kernel
theorem dX1_pairs_6 : decode cX1_pairs 6 = .ok (.isub, 1) := by decide +kernel
theorem dX1_pairs_7 : decode cX1_pairs 7 = .ok (.iaload, 1) := by decide +kernel
theorem dX1_pairs_8 : decode cX1_pairs 8 = .ok (.istore_n 2, 1) := by decide +kernel
theorem dX1_pairs_9 : decode cX1_pairs 9 = .ok (.aload_n 0, 1) := by decide +kernel
theorem dX1_pairs_10 : decode cX1_pairs 10 = .ok (.getfield 7, 3) := by decide +kernel
theorem dX1_pairs_13 : decode cX1_pairs 13 = .ok (.iload_n 1, 1) := by decide +kernel
theorem dX1_pairs_14 : decode cX1_pairs 14 = .ok (.iaload, 1) := by decide +kernel
theorem dX1_pairs_15 : decode cX1_pairs 15 = .ok (.istore_n 3, 1) := by decide +kernel
theorem dX1_pairs_16 : decode cX1_pairs 16 = .ok (.aload_n 0, 1) := by decide +kernel
theorem dX1_pairs_17 : decode cX1_pairs 17 = .ok (.getfield 13, 3) := by decide +kernel
theorem dX1_pairs_20 : decode cX1_pairs 20 = .ok (.iload_n 1, 1) := by decide +kernel
theorem dX1_pairs_21 : decode cX1_pairs 21 = .ok (.iconst 1, 1) := by decide +kernel
theorem dX1_pairs_22 : decode cX1_pairs 22 = .ok (.isub, 1) := by decide +kernel
theorem dX1_pairs_23 : decode cX1_pairs 23 = .ok (.iaload, 1) := by decide +kernel
theorem dX1_pairs_24 : decode cX1_pairs 24 = .ok (.ifCond .le 41, 3) := by decide +kernel
theorem dX1_pairs_27 : decode cX1_pairs 27 = .ok (.aload_n 0, 1) := by decide +kernel
theorem dX1_pairs_28 : decode cX1_pairs 28 = .ok (.getfield 16, 3) := by decide +kernel
theorem dX1_pairs_31 : decode cX1_pairs 31 = .ok (.iload_n 1, 1) := by decide +kernel
theorem dX1_pairs_32 : decode cX1_pairs 32 = .ok (.iaload, 1) := by decide +kernel
theorem dX1_pairs_33 : decode cX1_pairs 33 = .ok (.aload_n 0, 1) := by decide +kernel
theorem dX1_pairs_34 : decode cX1_pairs 34 = .ok (.getfield 13, 3) := by decide +kernel
theorem dX1_pairs_37 : decode cX1_pairs 37 = .ok (.iload_n 1, 1) := by decide +kernel
theorem dX1_pairs_38 : decode cX1_pairs 38 = .ok (.iconst 1, 1) := by decide +kernel
theorem dX1_pairs_39 : decode cX1_pairs 39 = .ok (.isub, 1) := by decide +kernel
theorem dX1_pairs_40 : decode cX1_pairs 40 = .ok (.iaload, 1) := by decide +kernel
theorem dX1_pairs_41 : decode cX1_pairs 41 = .ok (.if_icmp .eq 20, 3) := by decide +kernel
theorem dX1_pairs_44 : decode cX1_pairs 44 = .ok (.aload_n 0, 1) := by decide +kernel
theorem dX1_pairs_45 : decode cX1_pairs 45 = .ok (.getfield 19, 3) := by decide +kernel
theorem dX1_pairs_48 : decode cX1_pairs 48 = .ok (.iload_n 1, 1) := by decide +kernel
theorem dX1_pairs_49 : decode cX1_pairs 49 = .ok (.iaload, 1) := by decide +kernel
theorem dX1_pairs_50 : decode cX1_pairs 50 = .ok (.aload_n 0, 1) := by decide +kernel
theorem dX1_pairs_51 : decode cX1_pairs 51 = .ok (.getfield 13, 3) := by decide +kernel
theorem dX1_pairs_54 : decode cX1_pairs 54 = .ok (.iload_n 1, 1) := by decide +kernel
theorem dX1_pairs_55 : decode cX1_pairs 55 = .ok (.iconst 1, 1) := by decide +kernel
theorem dX1_pairs_56 : decode cX1_pairs 56 = .ok (.isub, 1) := by decide +kernel
theorem dX1_pairs_57 : decode cX1_pairs 57 = .ok (.iaload, 1) := by decide +kernel
theorem dX1_pairs_58 : decode cX1_pairs 58 = .ok (.if_icmp .ne 7, 3) := by decide +kernel
theorem dX1_pairs_61 : decode cX1_pairs 61 = .ok (.iconst 1, 1) := by decide +kernel
theorem dX1_pairs_62 : decode cX1_pairs 62 = .ok (.goto 4, 3) := by decide +kernel
theorem dX1_pairs_65 : decode cX1_pairs 65 = .ok (.iconst 0, 1) := by decide +kernel
theorem dX1_pairs_66 : decode cX1_pairs 66 = .ok (.istore 4, 2) := by decide +kernel
theorem dX1_pairs_68 : decode cX1_pairs 68 = .ok (.iload_n 2, 1) := by decide +kernel
theorem dX1_pairs_69 : decode cX1_pairs 69 = .ok (.bipush 6, 2) := by decide +kernel
theorem dX1_pairs_71 : decode cX1_pairs 71 = .ok (.if_icmp .eq 51, 3) := by decide +kernel
theorem dX1_pairs_74 : decode cX1_pairs 74 = .ok (.iload_n 3, 1) := by decide +kernel
theorem dX1_pairs_75 : decode cX1_pairs 75 = .ok (.bipush 6, 2) := by decide +kernel
theorem dX1_pairs_77 : decode cX1_pairs 77 = .ok (.if_icmp .eq 45, 3) := by decide +kernel
theorem dX1_pairs_80 : decode cX1_pairs 80 = .ok (.iload_n 2, 1) := by decide +kernel
theorem dX1_pairs_81 : decode cX1_pairs 81 = .ok (.iconst 5, 1) := by decide +kernel
theorem dX1_pairs_82 : decode cX1_pairs 82 = .ok (.if_icmp .eq 40, 3) := by decide +kernel
theorem dX1_pairs_85 : decode cX1_pairs 85 = .ok (.iload_n 2, 1) := by decide +kernel
theorem dX1_pairs_86 : decode cX1_pairs 86 = .ok (.invokestatic 74, 3) := by decide +kernel
theorem dX1_pairs_89 : decode cX1_pairs 89 = .ok (.ifCond .eq 10, 3) := by decide +kernel
theorem dX1_pairs_92 : decode cX1_pairs 92 = .ok (.iload_n 3, 1) := by decide +kernel
theorem dX1_pairs_93 : decode cX1_pairs 93 = .ok (.invokestatic 74, 3) := by decide +kernel
theorem dX1_pairs_96 : decode cX1_pairs 96 = .ok (.ifCond .ne 26, 3) := by decide +kernel
theorem dX1_pairs_99 : decode cX1_pairs 99 = .ok (.iload_n 2, 1) := by decide +kernel
theorem dX1_pairs_100 : decode cX1_pairs 100 = .ok (.invokestatic 77, 3) := by decide +kernel
theorem dX1_pairs_103 : decode cX1_pairs 103 = .ok (.ifCond .eq 10, 3) := by decide +kernel
theorem dX1_pairs_106 : decode cX1_pairs 106 = .ok (.iload_n 3, 1) := by decide +kernel
theorem dX1_pairs_107 : decode cX1_pairs 107 = .ok (.invokestatic 77, 3) := by decide +kernel
theorem dX1_pairs_110 : decode cX1_pairs 110 = .ok (.ifCond .ne 12, 3) := by decide +kernel
theorem dX1_pairs_113 : decode cX1_pairs 113 = .ok (.iload 4, 2) := by decide +kernel
theorem dX1_pairs_115 : decode cX1_pairs 115 = .ok (.ifCond .ne 7, 3) := by decide +kernel
theorem dX1_pairs_118 : decode cX1_pairs 118 = .ok (.iconst 1, 1) := by decide +kernel
theorem dX1_pairs_119 : decode cX1_pairs 119 = .ok (.goto 4, 3) := by decide +kernel
theorem dX1_pairs_122 : decode cX1_pairs 122 = .ok (.iconst 0, 1) := by decide +kernel
theorem dX1_pairs_123 : decode cX1_pairs 123 = .ok (.ireturn, 1) := by decide +kernel
theorem dX1_joins_0 : decode cX1_joins 0 = .ok (.iload_n 1, 1) := by decide +kernel
theorem dX1_joins_1 : decode cX1_joins 1 = .ok (.ifCond .le 68, 3) := by decide +kernel
theorem dX1_joins_4 : decode cX1_joins 4 = .ok (.aload_n 0, 1) := by decide +kernel
theorem dX1_joins_5 : decode cX1_joins 5 = .ok (.getfield 53, 3) := by decide +kernel
theorem dX1_joins_8 : decode cX1_joins 8 = .ok (.iload_n 1, 1) := by decide +kernel
theorem dX1_joins_9 : decode cX1_joins 9 = .ok (.iconst 1, 1) := by decide +kernel
theorem dX1_joins_10 : decode cX1_joins 10 = .ok (.isub, 1) := by decide +kernel
theorem dX1_joins_11 : decode cX1_joins 11 = .ok (.baload, 1) := by decide +kernel
theorem dX1_joins_12 : decode cX1_joins 12 = .ok (.ifCond .eq 57, 3) := by decide +kernel
theorem dX1_joins_15 : decode cX1_joins 15 = .ok (.aload_n 0, 1) := by decide +kernel
theorem dX1_joins_16 : decode cX1_joins 16 = .ok (.getfield 41, 3) := by decide +kernel
theorem dX1_joins_19 : decode cX1_joins 19 = .ok (.iload_n 1, 1) := by decide +kernel
theorem dX1_joins_20 : decode cX1_joins 20 = .ok (.baload, 1) := by decide +kernel
theorem dX1_joins_21 : decode cX1_joins 21 = .ok (.ifCond .eq 48, 3) := by decide +kernel
theorem dX1_joins_24 : decode cX1_joins 24 = .ok (.aload_n 0, 1) := by decide +kernel
theorem dX1_joins_25 : decode cX1_joins 25 = .ok (.getfield 38, 3) := by decide +kernel
theorem dX1_joins_28 : decode cX1_joins 28 = .ok (.iload_n 1, 1) := by decide +kernel
theorem dX1_joins_29 : decode cX1_joins 29 = .ok (.baload, 1) := by decide +kernel
end
section
theorem dX1_joins_30 : decode cX1_joins 30 = .ok (.ifCond .ne 39, 3) := by decide +kernel
theorem dX1_joins_33 : decode cX1_joins 33 = .ok (.aload_n 0, 1) := by decide +kernel
theorem dX1_joins_34 : decode cX1_joins 34 = .ok (.getfield 35, 3) := by decide +kernel
theorem dX1_joins_37 : decode cX1_joins 37 = .ok (.iload_n 1, 1) := by decide +kernel
theorem dX1_joins_38 : decode cX1_joins 38 = .ok (.iconst 1, 1) := by decide +kernel
theorem dX1_joins_39 : decode cX1_joins 39 = .ok (.isub, 1) := by decide +kernel
theorem dX1_joins_40 : decode cX1_joins 40 = .ok (.baload, 1) := by decide +kernel
theorem dX1_joins_41 : decode cX1_joins 41 = .ok (.ifCond .eq 24, 3) := by decide +kernel
theorem dX1_joins_44 : decode cX1_joins 44 = .ok (.aload_n 0, 1) := by decide +kernel
theorem dX1_joins_45 : decode cX1_joins 45 = .ok (.getfield 22, 3) := by decide +kernel
theorem dX1_joins_48 : decode cX1_joins 48 = .ok (.iload_n 1, 1) := by decide +kernel
theorem dX1_joins_49 : decode cX1_joins 49 = .ok (.iconst 1, 1) := by decide +kernel
theorem dX1_joins_50 : decode cX1_joins 50 = .ok (.if_icmp .le 9, 3) := by decide +kernel
theorem dX1_joins_53 : decode cX1_joins 53 = .ok (.iload_n 1, 1) := by decide +kernel
theorem dX1_joins_54 : decode cX1_joins 54 = .ok (.iconst 2, 1) := by decide +kernel
theorem dX1_joins_55 : decode cX1_joins 55 = .ok (.isub, 1) := by decide +kernel
theorem dX1_joins_56 : decode cX1_joins 56 = .ok (.goto 4, 3) := by decide +kernel
theorem dX1_joins_59 : decode cX1_joins 59 = .ok (.iconst 0, 1) := by decide +kernel
theorem dX1_joins_60 : decode cX1_joins 60 = .ok (.iaload, 1) := by decide +kernel
theorem dX1_joins_61 : decode cX1_joins 61 = .ok (.iconst 1, 1) := by decide +kernel
theorem dX1_joins_62 : decode cX1_joins 62 = .ok (.if_icmp .eq 7, 3) := by decide +kernel
theorem dX1_joins_65 : decode cX1_joins 65 = .ok (.iconst 1, 1) := by decide +kernel
theorem dX1_joins_66 : decode cX1_joins 66 = .ok (.goto 4, 3) := by decide +kernel
theorem dX1_joins_69 : decode cX1_joins 69 = .ok (.iconst 0, 1) := by decide +kernel
theorem dX1_joins_70 : decode cX1_joins 70 = .ok (.ireturn, 1) := by decide +kernel
theorem dX1_fetch_0 : decode cX1_fetch 0 = .ok (.aload_n 0, 1) := by decide +kernel
theorem dX1_fetch_1 : decode cX1_fetch 1 = .ok (.getfield 53, 3) := by decide +kernel
theorem dX1_fetch_4 : decode cX1_fetch 4 = .ok (.iload_n 1, 1) := by decide +kernel
theorem dX1_fetch_5 : decode cX1_fetch 5 = .ok (.aload_n 0, 1) := by decide +kernel
theorem dX1_fetch_6 : decode cX1_fetch 6 = .ok (.iload_n 1, 1) := by decide +kernel
theorem dX1_fetch_7 : decode cX1_fetch 7 = .ok (.invokevirtual 80, 3) := by decide +kernel
theorem dX1_fetch_10 : decode cX1_fetch 10 = .ok (.ifCond .ne 7, 3) := by decide +kernel
theorem dX1_fetch_13 : decode cX1_fetch 13 = .ok (.iconst 1, 1) := by decide +kernel
theorem dX1_fetch_14 : decode cX1_fetch 14 = .ok (.goto 4, 3) := by decide +kernel
theorem dX1_fetch_17 : decode cX1_fetch 17 = .ok (.iconst 0, 1) := by decide +kernel
theorem dX1_fetch_18 : decode cX1_fetch 18 = .ok (.bastore, 1) := by decide +kernel
theorem dX1_fetch_19 : decode cX1_fetch 19 = .ok (.aload_n 0, 1) := by decide +kernel
theorem dX1_fetch_20 : decode cX1_fetch 20 = .ok (.getfield 53, 3) := by decide +kernel
theorem dX1_fetch_23 : decode cX1_fetch 23 = .ok (.iload_n 1, 1) := by decide +kernel
theorem dX1_fetch_24 : decode cX1_fetch 24 = .ok (.baload, 1) := by decide +kernel
theorem dX1_fetch_25 : decode cX1_fetch 25 = .ok (.ifCond .ne 18, 3) := by decide +kernel
theorem dX1_fetch_28 : decode cX1_fetch 28 = .ok (.aload_n 0, 1) := by decide +kernel
theorem dX1_fetch_29 : decode cX1_fetch 29 = .ok (.getfield 44, 3) := by decide +kernel
theorem dX1_fetch_32 : decode cX1_fetch 32 = .ok (.iload_n 1, 1) := by decide +kernel
theorem dX1_fetch_33 : decode cX1_fetch 33 = .ok (.aload_n 0, 1) := by decide +kernel
theorem dX1_fetch_34 : decode cX1_fetch 34 = .ok (.getfield 44, 3) := by decide +kernel
theorem dX1_fetch_37 : decode cX1_fetch 37 = .ok (.iload_n 1, 1) := by decide +kernel
theorem dX1_fetch_38 : decode cX1_fetch 38 = .ok (.iconst 1, 1) := by decide +kernel
theorem dX1_fetch_39 : decode cX1_fetch 39 = .ok (.isub, 1) := by decide +kernel
theorem dX1_fetch_40 : decode cX1_fetch 40 = .ok (.iaload, 1) := by decide +kernel
theorem dX1_fetch_41 : decode cX1_fetch 41 = .ok (.iastore, 1) := by decide +kernel
theorem dX1_fetch_42 : decode cX1_fetch 42 = .ok (.return_, 1) := by decide +kernel
theorem dX1_fetch_43 : decode cX1_fetch 43 = .ok (.aload_n 0, 1) := by decide +kernel
theorem dX1_fetch_44 : decode cX1_fetch 44 = .ok (.getfield 44, 3) := by decide +kernel
theorem dX1_fetch_47 : decode cX1_fetch 47 = .ok (.iload_n 1, 1) := by decide +kernel
theorem dX1_fetch_48 : decode cX1_fetch 48 = .ok (.iload_n 1, 1) := by decide +kernel
theorem dX1_fetch_49 : decode cX1_fetch 49 = .ok (.ifCond .le 16, 3) := by decide +kernel
theorem dX1_fetch_52 : decode cX1_fetch 52 = .ok (.aload_n 0, 1) := by decide +kernel
theorem dX1_fetch_53 : decode cX1_fetch 53 = .ok (.getfield 44, 3) := by decide +kernel
theorem dX1_fetch_56 : decode cX1_fetch 56 = .ok (.iload_n 1, 1) := by decide +kernel
theorem dX1_fetch_57 : decode cX1_fetch 57 = .ok (.iconst 1, 1) := by decide +kernel
theorem dX1_fetch_58 : decode cX1_fetch 58 = .ok (.isub, 1) := by decide +kernel
theorem dX1_fetch_59 : decode cX1_fetch 59 = .ok (.iaload, 1) := by decide +kernel
theorem dX1_fetch_60 : decode cX1_fetch 60 = .ok (.iconst 1, 1) := by decide +kernel
theorem dX1_fetch_61 : decode cX1_fetch 61 = .ok (.iadd, 1) := by decide +kernel
theorem dX1_fetch_62 : decode cX1_fetch 62 = .ok (.goto 4, 3) := by decide +kernel
theorem dX1_fetch_65 : decode cX1_fetch 65 = .ok (.iconst 1, 1) := by decide +kernel
theorem dX1_fetch_66 : decode cX1_fetch 66 = .ok (.iastore, 1) := by decide +kernel
theorem dX1_fetch_67 : decode cX1_fetch 67 = .ok (.iload_n 1, 1) := by decide +kernel
theorem dX1_fetch_68 : decode cX1_fetch 68 = .ok (.iconst 4, 1) := by decide +kernel
theorem dX1_fetch_69 : decode cX1_fetch 69 = .ok (.if_icmp .le 28, 3) := by decide +kernel
theorem dX1_fetch_72 : decode cX1_fetch 72 = .ok (.aload_n 0, 1) := by decide +kernel
theorem dX1_fetch_73 : decode cX1_fetch 73 = .ok (.getfield 44, 3) := by decide +kernel
theorem dX1_fetch_76 : decode cX1_fetch 76 = .ok (.iload_n 1, 1) := by decide +kernel
theorem dX1_fetch_77 : decode cX1_fetch 77 = .ok (.aload_n 0, 1) := by decide +kernel
theorem dX1_fetch_78 : decode cX1_fetch 78 = .ok (.getfield 44, 3) := by decide +kernel
theorem dX1_fetch_81 : decode cX1_fetch 81 = .ok (.iload_n 1, 1) := by decide +kernel
theorem dX1_fetch_82 : decode cX1_fetch 82 = .ok (.iaload, 1) := by decide +kernel
theorem dX1_fetch_83 : decode cX1_fetch 83 = .ok (.aload_n 0, 1) := by decide +kernel
theorem dX1_fetch_84 : decode cX1_fetch 84 = .ok (.getfield 47, 3) := by decide +kernel
theorem dX1_fetch_87 : decode cX1_fetch 87 = .ok (.iload_n 1, 1) := by decide +kernel
theorem dX1_fetch_88 : decode cX1_fetch 88 = .ok (.iconst 5, 1) := by decide +kernel
theorem dX1_fetch_89 : decode cX1_fetch 89 = .ok (.isub, 1) := by decide +kernel
theorem dX1_fetch_90 : decode cX1_fetch 90 = .ok (.iaload, 1) := by decide +kernel
theorem dX1_fetch_91 : decode cX1_fetch 91 = .ok (.iconst 1, 1) := by decide +kernel
theorem dX1_fetch_92 : decode cX1_fetch 92 = .ok (.iadd, 1) := by decide +kernel
theorem dX1_fetch_93 : decode cX1_fetch 93 = .ok (.invokestatic 83, 3) := by decide +kernel
theorem dX1_fetch_96 : decode cX1_fetch 96 = .ok (.iastore, 1) := by decide +kernel
theorem dX1_fetch_97 : decode cX1_fetch 97 = .ok (.aload_n 0, 1) := by decide +kernel
theorem dX1_fetch_98 : decode cX1_fetch 98 = .ok (.getfield 38, 3) := by decide +kernel
theorem dX1_fetch_101 : decode cX1_fetch 101 = .ok (.iload_n 1, 1) := by decide +kernel
theorem dX1_fetch_102 : decode cX1_fetch 102 = .ok (.baload, 1) := by decide +kernel
theorem dX1_fetch_103 : decode cX1_fetch 103 = .ok (.ifCond .eq 55, 3) := by decide +kernel
theorem dX1_fetch_106 : decode cX1_fetch 106 = .ok (.aload_n 0, 1) := by decide +kernel
theorem dX1_fetch_107 : decode cX1_fetch 107 = .ok (.getfield 32, 3) := by decide +kernel
theorem dX1_fetch_110 : decode cX1_fetch 110 = .ok (.iload_n 1, 1) := by decide +kernel
theorem dX1_fetch_111 : decode cX1_fetch 111 = .ok (.iconst 1, 1) := by decide +kernel
theorem dX1_fetch_112 : decode cX1_fetch 112 = .ok (.isub, 1) := by decide +kernel
theorem dX1_fetch_113 : decode cX1_fetch 113 = .ok (.baload, 1) := by decide +kernel
theorem dX1_fetch_114 : decode cX1_fetch 114 = .ok (.ifCond .ne 16, 3) := by decide +kernel
theorem dX1_fetch_117 : decode cX1_fetch 117 = .ok (.aload_n 0, 1) := by decide +kernel
theorem dX1_fetch_118 : decode cX1_fetch 118 = .ok (.getfield 7, 3) := by decide +kernel
theorem dX1_fetch_121 : decode cX1_fetch 121 = .ok (.iload_n 1, 1) := by decide +kernel
theorem dX1_fetch_122 : decode cX1_fetch 122 = .ok (.iconst 1, 1) := by decide +kernel
theorem dX1_fetch_123 : decode cX1_fetch 123 = .ok (.isub, 1) := by decide +kernel
theorem dX1_fetch_124 : decode cX1_fetch 124 = .ok (.iaload, 1) := by decide +kernel
theorem dX1_fetch_125 : decode cX1_fetch 125 = .ok (.bipush 6, 2) := by decide +kernel
theorem dX1_fetch_127 : decode cX1_fetch 127 = .ok (.if_icmp .ne 31, 3) := by decide +kernel
theorem dX1_fetch_130 : decode cX1_fetch 130 = .ok (.aload_n 0, 1) := by decide +kernel
theorem dX1_fetch_131 : decode cX1_fetch 131 = .ok (.getfield 44, 3) := by decide +kernel
theorem dX1_fetch_134 : decode cX1_fetch 134 = .ok (.iload_n 1, 1) := by decide +kernel
theorem dX1_fetch_135 : decode cX1_fetch 135 = .ok (.aload_n 0, 1) := by decide +kernel
theorem dX1_fetch_136 : decode cX1_fetch 136 = .ok (.getfield 44, 3) := by decide +kernel
theorem dX1_fetch_139 : decode cX1_fetch 139 = .ok (.iload_n 1, 1) := by decide +kernel
theorem dX1_fetch_140 : decode cX1_fetch 140 = .ok (.iaload, 1) := by decide +kernel
theorem dX1_fetch_141 : decode cX1_fetch 141 = .ok (.aload_n 0, 1) := by decide +kernel
theorem dX1_fetch_142 : decode cX1_fetch 142 = .ok (.getfield 50, 3) := by decide +kernel
theorem dX1_fetch_145 : decode cX1_fetch 145 = .ok (.iload_n 1, 1) := by decide +kernel
theorem dX1_fetch_146 : decode cX1_fetch 146 = .ok (.iconst 1, 1) := by decide +kernel
theorem dX1_fetch_147 : decode cX1_fetch 147 = .ok (.isub, 1) := by decide +kernel
theorem dX1_fetch_148 : decode cX1_fetch 148 = .ok (.iaload, 1) := by decide +kernel
theorem dX1_fetch_149 : decode cX1_fetch 149 = .ok (.iconst 1, 1) := by decide +kernel
theorem dX1_fetch_150 : decode cX1_fetch 150 = .ok (.iadd, 1) := by decide +kernel
theorem dX1_fetch_151 : decode cX1_fetch 151 = .ok (.invokestatic 83, 3) := by decide +kernel
theorem dX1_fetch_154 : decode cX1_fetch 154 = .ok (.iastore, 1) := by decide +kernel
theorem dX1_fetch_155 : decode cX1_fetch 155 = .ok (.goto 37, 3) := by decide +kernel
theorem dX1_fetch_158 : decode cX1_fetch 158 = .ok (.aload_n 0, 1) := by decide +kernel
theorem dX1_fetch_159 : decode cX1_fetch 159 = .ok (.getfield 38, 3) := by decide +kernel
theorem dX1_fetch_162 : decode cX1_fetch 162 = .ok (.iload_n 1, 1) := by decide +kernel
theorem dX1_fetch_163 : decode cX1_fetch 163 = .ok (.baload, 1) := by decide +kernel
theorem dX1_fetch_164 : decode cX1_fetch 164 = .ok (.ifCond .eq 28, 3) := by decide +kernel
theorem dX1_fetch_167 : decode cX1_fetch 167 = .ok (.aload_n 0, 1) := by decide +kernel
theorem dX1_fetch_168 : decode cX1_fetch 168 = .ok (.getfield 44, 3) := by decide +kernel
theorem dX1_fetch_171 : decode cX1_fetch 171 = .ok (.iload_n 1, 1) := by decide +kernel
theorem dX1_fetch_172 : decode cX1_fetch 172 = .ok (.aload_n 0, 1) := by decide +kernel
theorem dX1_fetch_173 : decode cX1_fetch 173 = .ok (.getfield 44, 3) := by decide +kernel
theorem dX1_fetch_176 : decode cX1_fetch 176 = .ok (.iload_n 1, 1) := by decide +kernel
theorem dX1_fetch_177 : decode cX1_fetch 177 = .ok (.iaload, 1) := by decide +kernel
theorem dX1_fetch_178 : decode cX1_fetch 178 = .ok (.aload_n 0, 1) := by decide +kernel
theorem dX1_fetch_179 : decode cX1_fetch 179 = .ok (.getfield 47, 3) := by decide +kernel
theorem dX1_fetch_182 : decode cX1_fetch 182 = .ok (.iload_n 1, 1) := by decide +kernel
theorem dX1_fetch_183 : decode cX1_fetch 183 = .ok (.iconst 2, 1) := by decide +kernel
theorem dX1_fetch_184 : decode cX1_fetch 184 = .ok (.isub, 1) := by decide +kernel
theorem dX1_fetch_185 : decode cX1_fetch 185 = .ok (.iaload, 1) := by decide +kernel
theorem dX1_fetch_186 : decode cX1_fetch 186 = .ok (.iconst 2, 1) := by decide +kernel
theorem dX1_fetch_187 : decode cX1_fetch 187 = .ok (.iadd, 1) := by decide +kernel
theorem dX1_fetch_188 : decode cX1_fetch 188 = .ok (.invokestatic 83, 3) := by decide +kernel
theorem dX1_fetch_191 : decode cX1_fetch 191 = .ok (.iastore, 1) := by decide +kernel
theorem dX1_fetch_192 : decode cX1_fetch 192 = .ok (.return_, 1) := by decide +kernel
theorem dX1_ready_0 : decode cX1_ready 0 = .ok (.iload_n 1, 1) := by decide +kernel
theorem dX1_ready_1 : decode cX1_ready 1 = .ok (.ifCond .eq 12, 3) := by decide +kernel
theorem dX1_ready_4 : decode cX1_ready 4 = .ok (.aload_n 0, 1) := by decide +kernel
theorem dX1_ready_5 : decode cX1_ready 5 = .ok (.getfield 56, 3) := by decide +kernel
theorem dX1_ready_8 : decode cX1_ready 8 = .ok (.iload_n 1, 1) := by decide +kernel
theorem dX1_ready_9 : decode cX1_ready 9 = .ok (.iaload, 1) := by decide +kernel
theorem dX1_ready_10 : decode cX1_ready 10 = .ok (.ifCond .ge 7, 3) := by decide +kernel
theorem dX1_ready_13 : decode cX1_ready 13 = .ok (.iconst 0, 1) := by decide +kernel
theorem dX1_ready_14 : decode cX1_ready 14 = .ok (.goto 29, 3) := by decide +kernel
theorem dX1_ready_17 : decode cX1_ready 17 = .ok (.aload_n 0, 1) := by decide +kernel
theorem dX1_ready_18 : decode cX1_ready 18 = .ok (.getfield 47, 3) := by decide +kernel
theorem dX1_ready_21 : decode cX1_ready 21 = .ok (.aload_n 0, 1) := by decide +kernel
theorem dX1_ready_22 : decode cX1_ready 22 = .ok (.getfield 56, 3) := by decide +kernel
theorem dX1_ready_25 : decode cX1_ready 25 = .ok (.iload_n 1, 1) := by decide +kernel
theorem dX1_ready_26 : decode cX1_ready 26 = .ok (.iaload, 1) := by decide +kernel
theorem dX1_ready_27 : decode cX1_ready 27 = .ok (.iaload, 1) := by decide +kernel
theorem dX1_ready_28 : decode cX1_ready 28 = .ok (.aload_n 0, 1) := by decide +kernel
theorem dX1_ready_29 : decode cX1_ready 29 = .ok (.getfield 7, 3) := by decide +kernel
theorem dX1_ready_32 : decode cX1_ready 32 = .ok (.aload_n 0, 1) := by decide +kernel
theorem dX1_ready_33 : decode cX1_ready 33 = .ok (.getfield 56, 3) := by decide +kernel
theorem dX1_ready_36 : decode cX1_ready 36 = .ok (.iload_n 1, 1) := by decide +kernel
theorem dX1_ready_37 : decode cX1_ready 37 = .ok (.iaload, 1) := by decide +kernel
theorem dX1_ready_38 : decode cX1_ready 38 = .ok (.iaload, 1) := by decide +kernel
theorem dX1_ready_39 : decode cX1_ready 39 = .ok (.invokestatic 87, 3) := by decide +kernel
theorem dX1_ready_42 : decode cX1_ready 42 = .ok (.iadd, 1) := by decide +kernel
theorem dX1_ready_43 : decode cX1_ready 43 = .ok (.ireturn, 1) := by decide +kernel
theorem dX1_reckon_0 : decode cX1_reckon 0 = .ok (.iconst (-1), 1) := by decide +kernel
theorem dX1_reckon_1 : decode cX1_reckon 1 = .ok (.istore_n 1, 1) := by decide +kernel
theorem dX1_reckon_2 : decode cX1_reckon 2 = .ok (.iconst 0, 1) := by decide +kernel
theorem dX1_reckon_3 : decode cX1_reckon 3 = .ok (.istore_n 2, 1) := by decide +kernel
theorem dX1_reckon_4 : decode cX1_reckon 4 = .ok (.iload_n 2, 1) := by decide +kernel
theorem dX1_reckon_5 : decode cX1_reckon 5 = .ok (.bipush 32, 2) := by decide +kernel
theorem dX1_reckon_7 : decode cX1_reckon 7 = .ok (.if_icmp .ge 16, 3) := by decide +kernel
theorem dX1_reckon_10 : decode cX1_reckon 10 = .ok (.aload_n 0, 1) := by decide +kernel
theorem dX1_reckon_11 : decode cX1_reckon 11 = .ok (.getfield 56, 3) := by decide +kernel
theorem dX1_reckon_14 : decode cX1_reckon 14 = .ok (.iload_n 2, 1) := by decide +kernel
theorem dX1_reckon_15 : decode cX1_reckon 15 = .ok (.iconst (-1), 1) := by decide +kernel
theorem dX1_reckon_16 : decode cX1_reckon 16 = .ok (.iastore, 1) := by decide +kernel
theorem dX1_reckon_17 : decode cX1_reckon 17 = .ok (.iinc 2 1, 3) := by decide +kernel
theorem dX1_reckon_20 : decode cX1_reckon 20 = .ok (.goto (-16), 3) := by decide +kernel
theorem dX1_reckon_23 : decode cX1_reckon 23 = .ok (.iconst 0, 1) := by decide +kernel
theorem dX1_reckon_24 : decode cX1_reckon 24 = .ok (.istore_n 2, 1) := by decide +kernel
theorem dX1_reckon_25 : decode cX1_reckon 25 = .ok (.iload_n 2, 1) := by decide +kernel
theorem dX1_reckon_26 : decode cX1_reckon 26 = .ok (.aload_n 0, 1) := by decide +kernel
theorem dX1_reckon_27 : decode cX1_reckon 27 = .ok (.getfield 63, 3) := by decide +kernel
theorem dX1_reckon_30 : decode cX1_reckon 30 = .ok (.if_icmp .ge 330, 3) := by decide +kernel
theorem dX1_reckon_33 : decode cX1_reckon 33 = .ok (.aload_n 0, 1) := by decide +kernel
theorem dX1_reckon_34 : decode cX1_reckon 34 = .ok (.iload_n 2, 1) := by decide +kernel
theorem dX1_reckon_35 : decode cX1_reckon 35 = .ok (.invokevirtual 91, 3) := by decide +kernel
theorem dX1_reckon_38 : decode cX1_reckon 38 = .ok (.aload_n 0, 1) := by decide +kernel
theorem dX1_reckon_39 : decode cX1_reckon 39 = .ok (.iload_n 2, 1) := by decide +kernel
theorem dX1_reckon_40 : decode cX1_reckon 40 = .ok (.invokevirtual 95, 3) := by decide +kernel
theorem dX1_reckon_43 : decode cX1_reckon 43 = .ok (.aload_n 0, 1) := by decide +kernel
theorem dX1_reckon_44 : decode cX1_reckon 44 = .ok (.getfield 44, 3) := by decide +kernel
theorem dX1_reckon_47 : decode cX1_reckon 47 = .ok (.iload_n 2, 1) := by decide +kernel
theorem dX1_reckon_48 : decode cX1_reckon 48 = .ok (.iaload, 1) := by decide +kernel
theorem dX1_reckon_49 : decode cX1_reckon 49 = .ok (.iconst 2, 1) := by decide +kernel
theorem dX1_reckon_50 : decode cX1_reckon 50 = .ok (.iadd, 1) := by decide +kernel
theorem dX1_reckon_51 : decode cX1_reckon 51 = .ok (.aload_n 0, 1) := by decide +kernel
theorem dX1_reckon_52 : decode cX1_reckon 52 = .ok (.aload_n 0, 1) := by decide +kernel
theorem dX1_reckon_53 : decode cX1_reckon 53 = .ok (.getfield 16, 3) := by decide +kernel
theorem dX1_reckon_56 : decode cX1_reckon 56 = .ok (.iload_n 2, 1) := by decide +kernel
theorem dX1_reckon_57 : decode cX1_reckon 57 = .ok (.iaload, 1) := by decide +kernel
theorem dX1_reckon_58 : decode cX1_reckon 58 = .ok (.invokevirtual 98, 3) := by decide +kernel
theorem dX1_reckon_61 : decode cX1_reckon 61 = .ok (.invokestatic 83, 3) := by decide +kernel
theorem dX1_reckon_64 : decode cX1_reckon 64 = .ok (.aload_n 0, 1) := by decide +kernel
theorem dX1_reckon_65 : decode cX1_reckon 65 = .ok (.aload_n 0, 1) := by decide +kernel
theorem dX1_reckon_66 : decode cX1_reckon 66 = .ok (.getfield 19, 3) := by decide +kernel
theorem dX1_reckon_69 : decode cX1_reckon 69 = .ok (.iload_n 2, 1) := by decide +kernel
theorem dX1_reckon_70 : decode cX1_reckon 70 = .ok (.iaload, 1) := by decide +kernel
theorem dX1_reckon_71 : decode cX1_reckon 71 = .ok (.invokevirtual 98, 3) := by decide +kernel
theorem dX1_reckon_74 : decode cX1_reckon 74 = .ok (.invokestatic 83, 3) := by decide +kernel
theorem dX1_reckon_77 : decode cX1_reckon 77 = .ok (.istore_n 3, 1) := by decide +kernel
theorem dX1_reckon_78 : decode cX1_reckon 78 = .ok (.iload_n 2, 1) := by decide +kernel
theorem dX1_reckon_79 : decode cX1_reckon 79 = .ok (.ifCond .le 66, 3) := by decide +kernel
theorem dX1_reckon_82 : decode cX1_reckon 82 = .ok (.aload_n 0, 1) := by decide +kernel
theorem dX1_reckon_83 : decode cX1_reckon 83 = .ok (.iload_n 2, 1) := by decide +kernel
theorem dX1_reckon_84 : decode cX1_reckon 84 = .ok (.invokevirtual 101, 3) := by decide +kernel
theorem dX1_reckon_87 : decode cX1_reckon 87 = .ok (.ifCond .eq 31, 3) := by decide +kernel
theorem dX1_reckon_90 : decode cX1_reckon 90 = .ok (.iload_n 2, 1) := by decide +kernel
theorem dX1_reckon_91 : decode cX1_reckon 91 = .ok (.iconst 1, 1) := by decide +kernel
theorem dX1_reckon_92 : decode cX1_reckon 92 = .ok (.if_icmp .eq 22, 3) := by decide +kernel
theorem dX1_reckon_95 : decode cX1_reckon 95 = .ok (.aload_n 0, 1) := by decide +kernel
theorem dX1_reckon_96 : decode cX1_reckon 96 = .ok (.getfield 47, 3) := by decide +kernel
theorem dX1_reckon_99 : decode cX1_reckon 99 = .ok (.iload_n 2, 1) := by decide +kernel
theorem dX1_reckon_100 : decode cX1_reckon 100 = .ok (.iconst 2, 1) := by decide +kernel
theorem dX1_reckon_101 : decode cX1_reckon 101 = .ok (.isub, 1) := by decide +kernel
theorem dX1_reckon_102 : decode cX1_reckon 102 = .ok (.iaload, 1) := by decide +kernel
theorem dX1_reckon_103 : decode cX1_reckon 103 = .ok (.aload_n 0, 1) := by decide +kernel
theorem dX1_reckon_104 : decode cX1_reckon 104 = .ok (.getfield 47, 3) := by decide +kernel
theorem dX1_reckon_107 : decode cX1_reckon 107 = .ok (.iload_n 2, 1) := by decide +kernel
theorem dX1_reckon_108 : decode cX1_reckon 108 = .ok (.iconst 1, 1) := by decide +kernel
theorem dX1_reckon_109 : decode cX1_reckon 109 = .ok (.isub, 1) := by decide +kernel
theorem dX1_reckon_110 : decode cX1_reckon 110 = .ok (.iaload, 1) := by decide +kernel
theorem dX1_reckon_111 : decode cX1_reckon 111 = .ok (.if_icmp .ge 7, 3) := by decide +kernel
theorem dX1_reckon_114 : decode cX1_reckon 114 = .ok (.iconst 1, 1) := by decide +kernel
theorem dX1_reckon_115 : decode cX1_reckon 115 = .ok (.goto 4, 3) := by decide +kernel
theorem dX1_reckon_118 : decode cX1_reckon 118 = .ok (.iconst 0, 1) := by decide +kernel
theorem dX1_reckon_119 : decode cX1_reckon 119 = .ok (.istore 4, 2) := by decide +kernel
theorem dX1_reckon_121 : decode cX1_reckon 121 = .ok (.iload_n 3, 1) := by decide +kernel
theorem dX1_reckon_122 : decode cX1_reckon 122 = .ok (.aload_n 0, 1) := by decide +kernel
theorem dX1_reckon_123 : decode cX1_reckon 123 = .ok (.getfield 47, 3) := by decide +kernel
theorem dX1_reckon_126 : decode cX1_reckon 126 = .ok (.iload_n 2, 1) := by decide +kernel
theorem dX1_reckon_127 : decode cX1_reckon 127 = .ok (.iconst 1, 1) := by decide +kernel
theorem dX1_reckon_128 : decode cX1_reckon 128 = .ok (.isub, 1) := by decide +kernel
theorem dX1_reckon_129 : decode cX1_reckon 129 = .ok (.iaload, 1) := by decide +kernel
theorem dX1_reckon_130 : decode cX1_reckon 130 = .ok (.iload 4, 2) := by decide +kernel
theorem dX1_reckon_132 : decode cX1_reckon 132 = .ok (.ifCond .eq 7, 3) := by decide +kernel
theorem dX1_reckon_135 : decode cX1_reckon 135 = .ok (.iconst 0, 1) := by decide +kernel
theorem dX1_reckon_136 : decode cX1_reckon 136 = .ok (.goto 4, 3) := by decide +kernel
theorem dX1_reckon_139 : decode cX1_reckon 139 = .ok (.iconst 1, 1) := by decide +kernel
theorem dX1_reckon_140 : decode cX1_reckon 140 = .ok (.iadd, 1) := by decide +kernel
theorem dX1_reckon_141 : decode cX1_reckon 141 = .ok (.invokestatic 83, 3) := by decide +kernel
theorem dX1_reckon_144 : decode cX1_reckon 144 = .ok (.istore_n 3, 1) := by decide +kernel
theorem dX1_reckon_145 : decode cX1_reckon 145 = .ok (.aload_n 0, 1) := by decide +kernel
theorem dX1_reckon_146 : decode cX1_reckon 146 = .ok (.getfield 7, 3) := by decide +kernel
theorem dX1_reckon_149 : decode cX1_reckon 149 = .ok (.iload_n 2, 1) := by decide +kernel
theorem dX1_reckon_150 : decode cX1_reckon 150 = .ok (.iaload, 1) := by decide +kernel
theorem dX1_reckon_151 : decode cX1_reckon 151 = .ok (.iconst 4, 1) := by decide +kernel
theorem dX1_reckon_152 : decode cX1_reckon 152 = .ok (.if_icmp .ne 27, 3) := by decide +kernel
theorem dX1_reckon_155 : decode cX1_reckon 155 = .ok (.iload_n 1, 1) := by decide +kernel
theorem dX1_reckon_156 : decode cX1_reckon 156 = .ok (.ifCond .ge 7, 3) := by decide +kernel
theorem dX1_reckon_159 : decode cX1_reckon 159 = .ok (.iload_n 3, 1) := by decide +kernel
theorem dX1_reckon_160 : decode cX1_reckon 160 = .ok (.goto 16, 3) := by decide +kernel
theorem dX1_reckon_163 : decode cX1_reckon 163 = .ok (.iload_n 3, 1) := by decide +kernel
theorem dX1_reckon_164 : decode cX1_reckon 164 = .ok (.aload_n 0, 1) := by decide +kernel
theorem dX1_reckon_165 : decode cX1_reckon 165 = .ok (.getfield 47, 3) := by decide +kernel
theorem dX1_reckon_168 : decode cX1_reckon 168 = .ok (.iload_n 1, 1) := by decide +kernel
theorem dX1_reckon_169 : decode cX1_reckon 169 = .ok (.iaload, 1) := by decide +kernel
theorem dX1_reckon_170 : decode cX1_reckon 170 = .ok (.bipush 18, 2) := by decide +kernel
theorem dX1_reckon_172 : decode cX1_reckon 172 = .ok (.iadd, 1) := by decide +kernel
theorem dX1_reckon_173 : decode cX1_reckon 173 = .ok (.invokestatic 83, 3) := by decide +kernel
theorem dX1_reckon_176 : decode cX1_reckon 176 = .ok (.istore_n 3, 1) := by decide +kernel
theorem dX1_reckon_177 : decode cX1_reckon 177 = .ok (.iload_n 2, 1) := by decide +kernel
theorem dX1_reckon_178 : decode cX1_reckon 178 = .ok (.istore_n 1, 1) := by decide +kernel
theorem dX1_reckon_179 : decode cX1_reckon 179 = .ok (.aload_n 0, 1) := by decide +kernel
theorem dX1_reckon_180 : decode cX1_reckon 180 = .ok (.getfield 7, 3) := by decide +kernel
theorem dX1_reckon_183 : decode cX1_reckon 183 = .ok (.iload_n 2, 1) := by decide +kernel
theorem dX1_reckon_184 : decode cX1_reckon 184 = .ok (.iaload, 1) := by decide +kernel
theorem dX1_reckon_185 : decode cX1_reckon 185 = .ok (.bipush 6, 2) := by decide +kernel
theorem dX1_reckon_187 : decode cX1_reckon 187 = .ok (.if_icmp .ne 24, 3) := by decide +kernel
theorem dX1_reckon_190 : decode cX1_reckon 190 = .ok (.iload_n 2, 1) := by decide +kernel
theorem dX1_reckon_191 : decode cX1_reckon 191 = .ok (.ifCond .le 20, 3) := by decide +kernel
theorem dX1_reckon_194 : decode cX1_reckon 194 = .ok (.iload_n 3, 1) := by decide +kernel
theorem dX1_reckon_195 : decode cX1_reckon 195 = .ok (.aload_n 0, 1) := by decide +kernel
theorem dX1_reckon_196 : decode cX1_reckon 196 = .ok (.getfield 50, 3) := by decide +kernel
theorem dX1_reckon_199 : decode cX1_reckon 199 = .ok (.iload_n 2, 1) := by decide +kernel
theorem dX1_reckon_200 : decode cX1_reckon 200 = .ok (.iconst 1, 1) := by decide +kernel
theorem dX1_reckon_201 : decode cX1_reckon 201 = .ok (.isub, 1) := by decide +kernel
theorem dX1_reckon_202 : decode cX1_reckon 202 = .ok (.iaload, 1) := by decide +kernel
theorem dX1_reckon_203 : decode cX1_reckon 203 = .ok (.iconst 1, 1) := by decide +kernel
end
section
theorem dX1_reckon_204 : decode cX1_reckon 204 = .ok (.iadd, 1) := by decide +kernel
theorem dX1_reckon_205 : decode cX1_reckon 205 = .ok (.invokestatic 83, 3) := by decide +kernel
theorem dX1_reckon_208 : decode cX1_reckon 208 = .ok (.goto 4, 3) := by decide +kernel
theorem dX1_reckon_211 : decode cX1_reckon 211 = .ok (.iload_n 3, 1) := by decide +kernel
theorem dX1_reckon_212 : decode cX1_reckon 212 = .ok (.istore_n 3, 1) := by decide +kernel
theorem dX1_reckon_213 : decode cX1_reckon 213 = .ok (.aload_n 0, 1) := by decide +kernel
theorem dX1_reckon_214 : decode cX1_reckon 214 = .ok (.getfield 47, 3) := by decide +kernel
theorem dX1_reckon_217 : decode cX1_reckon 217 = .ok (.iload_n 2, 1) := by decide +kernel
theorem dX1_reckon_218 : decode cX1_reckon 218 = .ok (.iload_n 3, 1) := by decide +kernel
theorem dX1_reckon_219 : decode cX1_reckon 219 = .ok (.iastore, 1) := by decide +kernel
theorem dX1_reckon_220 : decode cX1_reckon 220 = .ok (.iload_n 3, 1) := by decide +kernel
theorem dX1_reckon_221 : decode cX1_reckon 221 = .ok (.aload_n 0, 1) := by decide +kernel
theorem dX1_reckon_222 : decode cX1_reckon 222 = .ok (.getfield 7, 3) := by decide +kernel
theorem dX1_reckon_225 : decode cX1_reckon 225 = .ok (.iload_n 2, 1) := by decide +kernel
theorem dX1_reckon_226 : decode cX1_reckon 226 = .ok (.iaload, 1) := by decide +kernel
theorem dX1_reckon_227 : decode cX1_reckon 227 = .ok (.iconst 3, 1) := by decide +kernel
theorem dX1_reckon_228 : decode cX1_reckon 228 = .ok (.if_icmp .ne 7, 3) := by decide +kernel
theorem dX1_reckon_231 : decode cX1_reckon 231 = .ok (.iconst 5, 1) := by decide +kernel
theorem dX1_reckon_232 : decode cX1_reckon 232 = .ok (.goto 19, 3) := by decide +kernel
theorem dX1_reckon_235 : decode cX1_reckon 235 = .ok (.aload_n 0, 1) := by decide +kernel
theorem dX1_reckon_236 : decode cX1_reckon 236 = .ok (.getfield 7, 3) := by decide +kernel
theorem dX1_reckon_239 : decode cX1_reckon 239 = .ok (.iload_n 2, 1) := by decide +kernel
theorem dX1_reckon_240 : decode cX1_reckon 240 = .ok (.iaload, 1) := by decide +kernel
theorem dX1_reckon_241 : decode cX1_reckon 241 = .ok (.iconst 4, 1) := by decide +kernel
theorem dX1_reckon_242 : decode cX1_reckon 242 = .ok (.if_icmp .ne 8, 3) := by decide +kernel
theorem dX1_reckon_245 : decode cX1_reckon 245 = .ok (.bipush 20, 2) := by decide +kernel
theorem dX1_reckon_247 : decode cX1_reckon 247 = .ok (.goto 4, 3) := by decide +kernel
theorem dX1_reckon_250 : decode cX1_reckon 250 = .ok (.iconst 3, 1) := by decide +kernel
theorem dX1_reckon_251 : decode cX1_reckon 251 = .ok (.iadd, 1) := by decide +kernel
theorem dX1_reckon_252 : decode cX1_reckon 252 = .ok (.istore 4, 2) := by decide +kernel
theorem dX1_reckon_254 : decode cX1_reckon 254 = .ok (.iload_n 2, 1) := by decide +kernel
theorem dX1_reckon_255 : decode cX1_reckon 255 = .ok (.ifCond .le 34, 3) := by decide +kernel
theorem dX1_reckon_258 : decode cX1_reckon 258 = .ok (.iload 4, 2) := by decide +kernel
theorem dX1_reckon_260 : decode cX1_reckon 260 = .ok (.aload_n 0, 1) := by decide +kernel
theorem dX1_reckon_261 : decode cX1_reckon 261 = .ok (.getfield 50, 3) := by decide +kernel
theorem dX1_reckon_264 : decode cX1_reckon 264 = .ok (.iload_n 2, 1) := by decide +kernel
theorem dX1_reckon_265 : decode cX1_reckon 265 = .ok (.iconst 1, 1) := by decide +kernel
theorem dX1_reckon_266 : decode cX1_reckon 266 = .ok (.isub, 1) := by decide +kernel
theorem dX1_reckon_267 : decode cX1_reckon 267 = .ok (.iaload, 1) := by decide +kernel
theorem dX1_reckon_268 : decode cX1_reckon 268 = .ok (.aload_n 0, 1) := by decide +kernel
theorem dX1_reckon_269 : decode cX1_reckon 269 = .ok (.getfield 32, 3) := by decide +kernel
theorem dX1_reckon_272 : decode cX1_reckon 272 = .ok (.iload_n 2, 1) := by decide +kernel
theorem dX1_reckon_273 : decode cX1_reckon 273 = .ok (.baload, 1) := by decide +kernel
theorem dX1_reckon_274 : decode cX1_reckon 274 = .ok (.ifCond .eq 7, 3) := by decide +kernel
theorem dX1_reckon_277 : decode cX1_reckon 277 = .ok (.iconst 1, 1) := by decide +kernel
theorem dX1_reckon_278 : decode cX1_reckon 278 = .ok (.goto 4, 3) := by decide +kernel
theorem dX1_reckon_281 : decode cX1_reckon 281 = .ok (.iconst 0, 1) := by decide +kernel
theorem dX1_reckon_282 : decode cX1_reckon 282 = .ok (.iadd, 1) := by decide +kernel
theorem dX1_reckon_283 : decode cX1_reckon 283 = .ok (.invokestatic 83, 3) := by decide +kernel
theorem dX1_reckon_286 : decode cX1_reckon 286 = .ok (.goto 5, 3) := by decide +kernel
theorem dX1_reckon_289 : decode cX1_reckon 289 = .ok (.iload 4, 2) := by decide +kernel
theorem dX1_reckon_291 : decode cX1_reckon 291 = .ok (.istore 4, 2) := by decide +kernel
theorem dX1_reckon_293 : decode cX1_reckon 293 = .ok (.aload_n 0, 1) := by decide +kernel
theorem dX1_reckon_294 : decode cX1_reckon 294 = .ok (.getfield 50, 3) := by decide +kernel
theorem dX1_reckon_297 : decode cX1_reckon 297 = .ok (.iload_n 2, 1) := by decide +kernel
theorem dX1_reckon_298 : decode cX1_reckon 298 = .ok (.iload_n 2, 1) := by decide +kernel
theorem dX1_reckon_299 : decode cX1_reckon 299 = .ok (.iconst 1, 1) := by decide +kernel
theorem dX1_reckon_300 : decode cX1_reckon 300 = .ok (.if_icmp .le 21, 3) := by decide +kernel
theorem dX1_reckon_303 : decode cX1_reckon 303 = .ok (.iload 4, 2) := by decide +kernel
theorem dX1_reckon_305 : decode cX1_reckon 305 = .ok (.aload_n 0, 1) := by decide +kernel
theorem dX1_reckon_306 : decode cX1_reckon 306 = .ok (.getfield 50, 3) := by decide +kernel
theorem dX1_reckon_309 : decode cX1_reckon 309 = .ok (.iload_n 2, 1) := by decide +kernel
theorem dX1_reckon_310 : decode cX1_reckon 310 = .ok (.iconst 2, 1) := by decide +kernel
theorem dX1_reckon_311 : decode cX1_reckon 311 = .ok (.isub, 1) := by decide +kernel
theorem dX1_reckon_312 : decode cX1_reckon 312 = .ok (.iaload, 1) := by decide +kernel
theorem dX1_reckon_313 : decode cX1_reckon 313 = .ok (.iconst 1, 1) := by decide +kernel
theorem dX1_reckon_314 : decode cX1_reckon 314 = .ok (.iadd, 1) := by decide +kernel
theorem dX1_reckon_315 : decode cX1_reckon 315 = .ok (.invokestatic 83, 3) := by decide +kernel
theorem dX1_reckon_318 : decode cX1_reckon 318 = .ok (.goto 5, 3) := by decide +kernel
theorem dX1_reckon_321 : decode cX1_reckon 321 = .ok (.iload 4, 2) := by decide +kernel
theorem dX1_reckon_323 : decode cX1_reckon 323 = .ok (.iastore, 1) := by decide +kernel
theorem dX1_reckon_324 : decode cX1_reckon 324 = .ok (.aload_n 0, 1) := by decide +kernel
theorem dX1_reckon_325 : decode cX1_reckon 325 = .ok (.getfield 13, 3) := by decide +kernel
theorem dX1_reckon_328 : decode cX1_reckon 328 = .ok (.iload_n 2, 1) := by decide +kernel
theorem dX1_reckon_329 : decode cX1_reckon 329 = .ok (.iaload, 1) := by decide +kernel
theorem dX1_reckon_330 : decode cX1_reckon 330 = .ok (.ifCond .le 24, 3) := by decide +kernel
theorem dX1_reckon_333 : decode cX1_reckon 333 = .ok (.aload_n 0, 1) := by decide +kernel
theorem dX1_reckon_334 : decode cX1_reckon 334 = .ok (.getfield 32, 3) := by decide +kernel
theorem dX1_reckon_337 : decode cX1_reckon 337 = .ok (.iload_n 2, 1) := by decide +kernel
theorem dX1_reckon_338 : decode cX1_reckon 338 = .ok (.baload, 1) := by decide +kernel
theorem dX1_reckon_339 : decode cX1_reckon 339 = .ok (.ifCond .ne 15, 3) := by decide +kernel
theorem dX1_reckon_342 : decode cX1_reckon 342 = .ok (.aload_n 0, 1) := by decide +kernel
theorem dX1_reckon_343 : decode cX1_reckon 343 = .ok (.getfield 56, 3) := by decide +kernel
theorem dX1_reckon_346 : decode cX1_reckon 346 = .ok (.aload_n 0, 1) := by decide +kernel
theorem dX1_reckon_347 : decode cX1_reckon 347 = .ok (.getfield 13, 3) := by decide +kernel
theorem dX1_reckon_350 : decode cX1_reckon 350 = .ok (.iload_n 2, 1) := by decide +kernel
theorem dX1_reckon_351 : decode cX1_reckon 351 = .ok (.iaload, 1) := by decide +kernel
theorem dX1_reckon_352 : decode cX1_reckon 352 = .ok (.iload_n 2, 1) := by decide +kernel
theorem dX1_reckon_353 : decode cX1_reckon 353 = .ok (.iastore, 1) := by decide +kernel
theorem dX1_reckon_354 : decode cX1_reckon 354 = .ok (.iinc 2 1, 3) := by decide +kernel
theorem dX1_reckon_357 : decode cX1_reckon 357 = .ok (.goto (-332), 3) := by decide +kernel
theorem dX1_reckon_360 : decode cX1_reckon 360 = .ok (.return_, 1) := by decide +kernel
theorem dX1_time_0 : decode cX1_time 0 = .ok (.aload_n 0, 1) := by decide +kernel
theorem dX1_time_1 : decode cX1_time 1 = .ok (.iconst 0, 1) := by decide +kernel
theorem dX1_time_2 : decode cX1_time 2 = .ok (.putfield 59, 3) := by decide +kernel
theorem dX1_time_5 : decode cX1_time 5 = .ok (.iload_n 1, 1) := by decide +kernel
theorem dX1_time_6 : decode cX1_time 6 = .ok (.ifCond .lt 11, 3) := by decide +kernel
theorem dX1_time_9 : decode cX1_time 9 = .ok (.iload_n 1, 1) := by decide +kernel
theorem dX1_time_10 : decode cX1_time 10 = .ok (.aload_n 0, 1) := by decide +kernel
theorem dX1_time_11 : decode cX1_time 11 = .ok (.getfield 63, 3) := by decide +kernel
theorem dX1_time_14 : decode cX1_time 14 = .ok (.if_icmp .lt 5, 3) := by decide +kernel
theorem dX1_time_17 : decode cX1_time 17 = .ok (.iconst (-1), 1) := by decide +kernel
theorem dX1_time_18 : decode cX1_time 18 = .ok (.ireturn, 1) := by decide +kernel
theorem dX1_time_19 : decode cX1_time 19 = .ok (.aload_n 0, 1) := by decide +kernel
theorem dX1_time_20 : decode cX1_time 20 = .ok (.invokevirtual 104, 3) := by decide +kernel
theorem dX1_time_23 : decode cX1_time 23 = .ok (.iload_n 2, 1) := by decide +kernel
theorem dX1_time_24 : decode cX1_time 24 = .ok (.tableswitch 142 0 4 #[36, 43, 50, 57, 107], 36) := by decide +kernel
theorem dX1_time_60 : decode cX1_time 60 = .ok (.aload_n 0, 1) := by decide +kernel
theorem dX1_time_61 : decode cX1_time 61 = .ok (.getfield 44, 3) := by decide +kernel
theorem dX1_time_64 : decode cX1_time 64 = .ok (.iload_n 1, 1) := by decide +kernel
theorem dX1_time_65 : decode cX1_time 65 = .ok (.iaload, 1) := by decide +kernel
theorem dX1_time_66 : decode cX1_time 66 = .ok (.ireturn, 1) := by decide +kernel
theorem dX1_time_67 : decode cX1_time 67 = .ok (.aload_n 0, 1) := by decide +kernel
theorem dX1_time_68 : decode cX1_time 68 = .ok (.getfield 47, 3) := by decide +kernel
theorem dX1_time_71 : decode cX1_time 71 = .ok (.iload_n 1, 1) := by decide +kernel
theorem dX1_time_72 : decode cX1_time 72 = .ok (.iaload, 1) := by decide +kernel
theorem dX1_time_73 : decode cX1_time 73 = .ok (.ireturn, 1) := by decide +kernel
theorem dX1_time_74 : decode cX1_time 74 = .ok (.aload_n 0, 1) := by decide +kernel
theorem dX1_time_75 : decode cX1_time 75 = .ok (.getfield 50, 3) := by decide +kernel
theorem dX1_time_78 : decode cX1_time 78 = .ok (.iload_n 1, 1) := by decide +kernel
theorem dX1_time_79 : decode cX1_time 79 = .ok (.iaload, 1) := by decide +kernel
theorem dX1_time_80 : decode cX1_time 80 = .ok (.ireturn, 1) := by decide +kernel
theorem dX1_time_81 : decode cX1_time 81 = .ok (.aload_n 0, 1) := by decide +kernel
theorem dX1_time_82 : decode cX1_time 82 = .ok (.getfield 53, 3) := by decide +kernel
theorem dX1_time_85 : decode cX1_time 85 = .ok (.iload_n 1, 1) := by decide +kernel
theorem dX1_time_86 : decode cX1_time 86 = .ok (.baload, 1) := by decide +kernel
theorem dX1_time_87 : decode cX1_time 87 = .ok (.ifCond .eq 38, 3) := by decide +kernel
theorem dX1_time_90 : decode cX1_time 90 = .ok (.iload_n 1, 1) := by decide +kernel
theorem dX1_time_91 : decode cX1_time 91 = .ok (.iconst 1, 1) := by decide +kernel
theorem dX1_time_92 : decode cX1_time 92 = .ok (.iadd, 1) := by decide +kernel
theorem dX1_time_93 : decode cX1_time 93 = .ok (.aload_n 0, 1) := by decide +kernel
theorem dX1_time_94 : decode cX1_time 94 = .ok (.getfield 63, 3) := by decide +kernel
theorem dX1_time_97 : decode cX1_time 97 = .ok (.if_icmp .ge 32, 3) := by decide +kernel
theorem dX1_time_100 : decode cX1_time 100 = .ok (.aload_n 0, 1) := by decide +kernel
theorem dX1_time_101 : decode cX1_time 101 = .ok (.getfield 53, 3) := by decide +kernel
theorem dX1_time_104 : decode cX1_time 104 = .ok (.iload_n 1, 1) := by decide +kernel
theorem dX1_time_105 : decode cX1_time 105 = .ok (.iconst 1, 1) := by decide +kernel
theorem dX1_time_106 : decode cX1_time 106 = .ok (.iadd, 1) := by decide +kernel
theorem dX1_time_107 : decode cX1_time 107 = .ok (.aload_n 0, 1) := by decide +kernel
theorem dX1_time_108 : decode cX1_time 108 = .ok (.getfield 63, 3) := by decide +kernel
theorem dX1_time_111 : decode cX1_time 111 = .ok (.if_icmp .ge 9, 3) := by decide +kernel
theorem dX1_time_114 : decode cX1_time 114 = .ok (.iload_n 1, 1) := by decide +kernel
theorem dX1_time_115 : decode cX1_time 115 = .ok (.iconst 1, 1) := by decide +kernel
theorem dX1_time_116 : decode cX1_time 116 = .ok (.iadd, 1) := by decide +kernel
theorem dX1_time_117 : decode cX1_time 117 = .ok (.goto 4, 3) := by decide +kernel
theorem dX1_time_120 : decode cX1_time 120 = .ok (.iload_n 1, 1) := by decide +kernel
theorem dX1_time_121 : decode cX1_time 121 = .ok (.baload, 1) := by decide +kernel
theorem dX1_time_122 : decode cX1_time 122 = .ok (.ifCond .ne 7, 3) := by decide +kernel
theorem dX1_time_125 : decode cX1_time 125 = .ok (.iconst 2, 1) := by decide +kernel
theorem dX1_time_126 : decode cX1_time 126 = .ok (.goto 4, 3) := by decide +kernel
theorem dX1_time_129 : decode cX1_time 129 = .ok (.iconst 1, 1) := by decide +kernel
theorem dX1_time_130 : decode cX1_time 130 = .ok (.ireturn, 1) := by decide +kernel
theorem dX1_time_131 : decode cX1_time 131 = .ok (.iload_n 1, 1) := by decide +kernel
theorem dX1_time_132 : decode cX1_time 132 = .ok (.ifCond .le 32, 3) := by decide +kernel
theorem dX1_time_135 : decode cX1_time 135 = .ok (.aload_n 0, 1) := by decide +kernel
theorem dX1_time_136 : decode cX1_time 136 = .ok (.getfield 47, 3) := by decide +kernel
theorem dX1_time_139 : decode cX1_time 139 = .ok (.iload_n 1, 1) := by decide +kernel
theorem dX1_time_140 : decode cX1_time 140 = .ok (.iaload, 1) := by decide +kernel
theorem dX1_time_141 : decode cX1_time 141 = .ok (.aload_n 0, 1) := by decide +kernel
theorem dX1_time_142 : decode cX1_time 142 = .ok (.getfield 47, 3) := by decide +kernel
theorem dX1_time_145 : decode cX1_time 145 = .ok (.iload_n 1, 1) := by decide +kernel
theorem dX1_time_146 : decode cX1_time 146 = .ok (.ifCond .le 9, 3) := by decide +kernel
theorem dX1_time_149 : decode cX1_time 149 = .ok (.iload_n 1, 1) := by decide +kernel
theorem dX1_time_150 : decode cX1_time 150 = .ok (.iconst 1, 1) := by decide +kernel
theorem dX1_time_151 : decode cX1_time 151 = .ok (.isub, 1) := by decide +kernel
theorem dX1_time_152 : decode cX1_time 152 = .ok (.goto 4, 3) := by decide +kernel
theorem dX1_time_155 : decode cX1_time 155 = .ok (.iconst 0, 1) := by decide +kernel
theorem dX1_time_156 : decode cX1_time 156 = .ok (.iaload, 1) := by decide +kernel
theorem dX1_time_157 : decode cX1_time 157 = .ok (.if_icmp .ne 7, 3) := by decide +kernel
theorem dX1_time_160 : decode cX1_time 160 = .ok (.iconst 1, 1) := by decide +kernel
theorem dX1_time_161 : decode cX1_time 161 = .ok (.goto 4, 3) := by decide +kernel
theorem dX1_time_164 : decode cX1_time 164 = .ok (.iconst 0, 1) := by decide +kernel
theorem dX1_time_165 : decode cX1_time 165 = .ok (.ireturn, 1) := by decide +kernel
theorem dX1_time_166 : decode cX1_time 166 = .ok (.iconst (-1), 1) := by decide +kernel
theorem dX1_time_167 : decode cX1_time 167 = .ok (.ireturn, 1) := by decide +kernel
theorem dX1_of_0 : decode cX1_of 0 = .ok (.aload_n 0, 1) := by decide +kernel
theorem dX1_of_1 : decode cX1_of 1 = .ok (.iconst 0, 1) := by decide +kernel
theorem dX1_of_2 : decode cX1_of 2 = .ok (.putfield 59, 3) := by decide +kernel
theorem dX1_of_5 : decode cX1_of 5 = .ok (.iload_n 1, 1) := by decide +kernel
theorem dX1_of_6 : decode cX1_of 6 = .ok (.ifCond .lt 11, 3) := by decide +kernel
theorem dX1_of_9 : decode cX1_of 9 = .ok (.iload_n 1, 1) := by decide +kernel
theorem dX1_of_10 : decode cX1_of 10 = .ok (.aload_n 0, 1) := by decide +kernel
theorem dX1_of_11 : decode cX1_of 11 = .ok (.getfield 63, 3) := by decide +kernel
theorem dX1_of_14 : decode cX1_of 14 = .ok (.if_icmp .lt 5, 3) := by decide +kernel
theorem dX1_of_17 : decode cX1_of 17 = .ok (.iconst (-1), 1) := by decide +kernel
theorem dX1_of_18 : decode cX1_of 18 = .ok (.ireturn, 1) := by decide +kernel
theorem dX1_of_19 : decode cX1_of 19 = .ok (.aload_n 0, 1) := by decide +kernel
theorem dX1_of_20 : decode cX1_of 20 = .ok (.invokevirtual 104, 3) := by decide +kernel
theorem dX1_of_23 : decode cX1_of 23 = .ok (.iload_n 2, 1) := by decide +kernel
theorem dX1_of_24 : decode cX1_of 24 = .ok (.tableswitch 136 0 7 #[48, 55, 62, 69, 76, 91, 106, 121], 48) := by decide +kernel
theorem dX1_of_72 : decode cX1_of 72 = .ok (.aload_n 0, 1) := by decide +kernel
theorem dX1_of_73 : decode cX1_of 73 = .ok (.getfield 7, 3) := by decide +kernel
theorem dX1_of_76 : decode cX1_of 76 = .ok (.iload_n 1, 1) := by decide +kernel
theorem dX1_of_77 : decode cX1_of 77 = .ok (.iaload, 1) := by decide +kernel
theorem dX1_of_78 : decode cX1_of 78 = .ok (.ireturn, 1) := by decide +kernel
theorem dX1_of_79 : decode cX1_of 79 = .ok (.aload_n 0, 1) := by decide +kernel
theorem dX1_of_80 : decode cX1_of 80 = .ok (.getfield 13, 3) := by decide +kernel
theorem dX1_of_83 : decode cX1_of 83 = .ok (.iload_n 1, 1) := by decide +kernel
theorem dX1_of_84 : decode cX1_of 84 = .ok (.iaload, 1) := by decide +kernel
theorem dX1_of_85 : decode cX1_of 85 = .ok (.ireturn, 1) := by decide +kernel
theorem dX1_of_86 : decode cX1_of 86 = .ok (.aload_n 0, 1) := by decide +kernel
theorem dX1_of_87 : decode cX1_of 87 = .ok (.getfield 16, 3) := by decide +kernel
theorem dX1_of_90 : decode cX1_of 90 = .ok (.iload_n 1, 1) := by decide +kernel
theorem dX1_of_91 : decode cX1_of 91 = .ok (.iaload, 1) := by decide +kernel
theorem dX1_of_92 : decode cX1_of 92 = .ok (.ireturn, 1) := by decide +kernel
theorem dX1_of_93 : decode cX1_of 93 = .ok (.aload_n 0, 1) := by decide +kernel
theorem dX1_of_94 : decode cX1_of 94 = .ok (.getfield 19, 3) := by decide +kernel
theorem dX1_of_97 : decode cX1_of 97 = .ok (.iload_n 1, 1) := by decide +kernel
theorem dX1_of_98 : decode cX1_of 98 = .ok (.iaload, 1) := by decide +kernel
theorem dX1_of_99 : decode cX1_of 99 = .ok (.ireturn, 1) := by decide +kernel
theorem dX1_of_100 : decode cX1_of 100 = .ok (.aload_n 0, 1) := by decide +kernel
theorem dX1_of_101 : decode cX1_of 101 = .ok (.getfield 32, 3) := by decide +kernel
theorem dX1_of_104 : decode cX1_of 104 = .ok (.iload_n 1, 1) := by decide +kernel
theorem dX1_of_105 : decode cX1_of 105 = .ok (.baload, 1) := by decide +kernel
theorem dX1_of_106 : decode cX1_of 106 = .ok (.ifCond .eq 7, 3) := by decide +kernel
theorem dX1_of_109 : decode cX1_of 109 = .ok (.iconst 1, 1) := by decide +kernel
theorem dX1_of_110 : decode cX1_of 110 = .ok (.goto 4, 3) := by decide +kernel
theorem dX1_of_113 : decode cX1_of 113 = .ok (.iconst 0, 1) := by decide +kernel
theorem dX1_of_114 : decode cX1_of 114 = .ok (.ireturn, 1) := by decide +kernel
theorem dX1_of_115 : decode cX1_of 115 = .ok (.aload_n 0, 1) := by decide +kernel
theorem dX1_of_116 : decode cX1_of 116 = .ok (.getfield 35, 3) := by decide +kernel
theorem dX1_of_119 : decode cX1_of 119 = .ok (.iload_n 1, 1) := by decide +kernel
theorem dX1_of_120 : decode cX1_of 120 = .ok (.baload, 1) := by decide +kernel
theorem dX1_of_121 : decode cX1_of 121 = .ok (.ifCond .eq 7, 3) := by decide +kernel
theorem dX1_of_124 : decode cX1_of 124 = .ok (.iconst 1, 1) := by decide +kernel
theorem dX1_of_125 : decode cX1_of 125 = .ok (.goto 4, 3) := by decide +kernel
theorem dX1_of_128 : decode cX1_of 128 = .ok (.iconst 0, 1) := by decide +kernel
theorem dX1_of_129 : decode cX1_of 129 = .ok (.ireturn, 1) := by decide +kernel
theorem dX1_of_130 : decode cX1_of 130 = .ok (.aload_n 0, 1) := by decide +kernel
theorem dX1_of_131 : decode cX1_of 131 = .ok (.getfield 38, 3) := by decide +kernel
theorem dX1_of_134 : decode cX1_of 134 = .ok (.iload_n 1, 1) := by decide +kernel
theorem dX1_of_135 : decode cX1_of 135 = .ok (.baload, 1) := by decide +kernel
theorem dX1_of_136 : decode cX1_of 136 = .ok (.ifCond .eq 7, 3) := by decide +kernel
theorem dX1_of_139 : decode cX1_of 139 = .ok (.iconst 1, 1) := by decide +kernel
theorem dX1_of_140 : decode cX1_of 140 = .ok (.goto 4, 3) := by decide +kernel
theorem dX1_of_143 : decode cX1_of 143 = .ok (.iconst 0, 1) := by decide +kernel
theorem dX1_of_144 : decode cX1_of 144 = .ok (.ireturn, 1) := by decide +kernel
theorem dX1_of_145 : decode cX1_of 145 = .ok (.aload_n 0, 1) := by decide +kernel
theorem dX1_of_146 : decode cX1_of 146 = .ok (.getfield 41, 3) := by decide +kernel
theorem dX1_of_149 : decode cX1_of 149 = .ok (.iload_n 1, 1) := by decide +kernel
theorem dX1_of_150 : decode cX1_of 150 = .ok (.baload, 1) := by decide +kernel
theorem dX1_of_151 : decode cX1_of 151 = .ok (.ifCond .eq 7, 3) := by decide +kernel
theorem dX1_of_154 : decode cX1_of 154 = .ok (.iconst 1, 1) := by decide +kernel
theorem dX1_of_155 : decode cX1_of 155 = .ok (.goto 4, 3) := by decide +kernel
theorem dX1_of_158 : decode cX1_of 158 = .ok (.iconst 0, 1) := by decide +kernel
theorem dX1_of_159 : decode cX1_of 159 = .ok (.ireturn, 1) := by decide +kernel
theorem dX1_of_160 : decode cX1_of 160 = .ok (.iconst (-1), 1) := by decide +kernel
theorem dX1_of_161 : decode cX1_of 161 = .ok (.ireturn, 1) := by decide +kernel
theorem dX1_stageOf_0 : decode cX1_stageOf 0 = .ok (.iload_n 2, 1) := by decide +kernel
theorem dX1_stageOf_1 : decode cX1_stageOf 1 = .ok (.aload_n 0, 1) := by decide +kernel
theorem dX1_stageOf_2 : decode cX1_stageOf 2 = .ok (.getfield 44, 3) := by decide +kernel
theorem dX1_stageOf_5 : decode cX1_stageOf 5 = .ok (.iload_n 1, 1) := by decide +kernel
theorem dX1_stageOf_6 : decode cX1_stageOf 6 = .ok (.iaload, 1) := by decide +kernel
theorem dX1_stageOf_7 : decode cX1_stageOf 7 = .ok (.if_icmp .ge 7, 3) := by decide +kernel
theorem dX1_stageOf_10 : decode cX1_stageOf 10 = .ok (.iconst 0, 1) := by decide +kernel
theorem dX1_stageOf_11 : decode cX1_stageOf 11 = .ok (.goto 32, 3) := by decide +kernel
theorem dX1_stageOf_14 : decode cX1_stageOf 14 = .ok (.iload_n 2, 1) := by decide +kernel
theorem dX1_stageOf_15 : decode cX1_stageOf 15 = .ok (.aload_n 0, 1) := by decide +kernel
theorem dX1_stageOf_16 : decode cX1_stageOf 16 = .ok (.getfield 47, 3) := by decide +kernel
theorem dX1_stageOf_19 : decode cX1_stageOf 19 = .ok (.iload_n 1, 1) := by decide +kernel
theorem dX1_stageOf_20 : decode cX1_stageOf 20 = .ok (.iaload, 1) := by decide +kernel
theorem dX1_stageOf_21 : decode cX1_stageOf 21 = .ok (.if_icmp .ge 7, 3) := by decide +kernel
theorem dX1_stageOf_24 : decode cX1_stageOf 24 = .ok (.iconst 1, 1) := by decide +kernel
theorem dX1_stageOf_25 : decode cX1_stageOf 25 = .ok (.goto 18, 3) := by decide +kernel
theorem dX1_stageOf_28 : decode cX1_stageOf 28 = .ok (.iload_n 2, 1) := by decide +kernel
theorem dX1_stageOf_29 : decode cX1_stageOf 29 = .ok (.aload_n 0, 1) := by decide +kernel
theorem dX1_stageOf_30 : decode cX1_stageOf 30 = .ok (.getfield 50, 3) := by decide +kernel
theorem dX1_stageOf_33 : decode cX1_stageOf 33 = .ok (.iload_n 1, 1) := by decide +kernel
theorem dX1_stageOf_34 : decode cX1_stageOf 34 = .ok (.iaload, 1) := by decide +kernel
theorem dX1_stageOf_35 : decode cX1_stageOf 35 = .ok (.if_icmp .ge 7, 3) := by decide +kernel
theorem dX1_stageOf_38 : decode cX1_stageOf 38 = .ok (.iconst 2, 1) := by decide +kernel
theorem dX1_stageOf_39 : decode cX1_stageOf 39 = .ok (.goto 4, 3) := by decide +kernel
theorem dX1_stageOf_42 : decode cX1_stageOf 42 = .ok (.iconst 3, 1) := by decide +kernel
theorem dX1_stageOf_43 : decode cX1_stageOf 43 = .ok (.ireturn, 1) := by decide +kernel
theorem dX1_stage_0 : decode cX1_stage 0 = .ok (.aload_n 0, 1) := by decide +kernel
theorem dX1_stage_1 : decode cX1_stage 1 = .ok (.iconst 0, 1) := by decide +kernel
theorem dX1_stage_2 : decode cX1_stage 2 = .ok (.putfield 59, 3) := by decide +kernel
theorem dX1_stage_5 : decode cX1_stage 5 = .ok (.iload_n 1, 1) := by decide +kernel
theorem dX1_stage_6 : decode cX1_stage 6 = .ok (.ifCond .lt 15, 3) := by decide +kernel
theorem dX1_stage_9 : decode cX1_stage 9 = .ok (.iload_n 1, 1) := by decide +kernel
theorem dX1_stage_10 : decode cX1_stage 10 = .ok (.aload_n 0, 1) := by decide +kernel
theorem dX1_stage_11 : decode cX1_stage 11 = .ok (.getfield 63, 3) := by decide +kernel
theorem dX1_stage_14 : decode cX1_stage 14 = .ok (.if_icmp .ge 7, 3) := by decide +kernel
theorem dX1_stage_17 : decode cX1_stage 17 = .ok (.iload_n 2, 1) := by decide +kernel
theorem dX1_stage_18 : decode cX1_stage 18 = .ok (.ifCond .ge 5, 3) := by decide +kernel
theorem dX1_stage_21 : decode cX1_stage 21 = .ok (.iconst (-1), 1) := by decide +kernel
theorem dX1_stage_22 : decode cX1_stage 22 = .ok (.ireturn, 1) := by decide +kernel
theorem dX1_stage_23 : decode cX1_stage 23 = .ok (.aload_n 0, 1) := by decide +kernel
theorem dX1_stage_24 : decode cX1_stage 24 = .ok (.invokevirtual 104, 3) := by decide +kernel
theorem dX1_stage_27 : decode cX1_stage 27 = .ok (.aload_n 0, 1) := by decide +kernel
theorem dX1_stage_28 : decode cX1_stage 28 = .ok (.iload_n 1, 1) := by decide +kernel
theorem dX1_stage_29 : decode cX1_stage 29 = .ok (.iload_n 2, 1) := by decide +kernel
theorem dX1_stage_30 : decode cX1_stage 30 = .ok (.invokevirtual 107, 3) := by decide +kernel
theorem dX1_stage_33 : decode cX1_stage 33 = .ok (.ireturn, 1) := by decide +kernel
theorem dX1_inStage_0 : decode cX1_inStage 0 = .ok (.iconst 0, 1) := by decide +kernel
theorem dX1_inStage_1 : decode cX1_inStage 1 = .ok (.istore_n 3, 1) := by decide +kernel
theorem dX1_inStage_2 : decode cX1_inStage 2 = .ok (.iconst 0, 1) := by decide +kernel
theorem dX1_inStage_3 : decode cX1_inStage 3 = .ok (.istore 4, 2) := by decide +kernel
theorem dX1_inStage_5 : decode cX1_inStage 5 = .ok (.iload 4, 2) := by decide +kernel
theorem dX1_inStage_7 : decode cX1_inStage 7 = .ok (.aload_n 0, 1) := by decide +kernel
end
section
theorem dX1_inStage_8 : decode cX1_inStage 8 = .ok (.getfield 63, 3) := by decide +kernel
theorem dX1_inStage_11 : decode cX1_inStage 11 = .ok (.if_icmp .ge 28, 3) := by decide +kernel
theorem dX1_inStage_14 : decode cX1_inStage 14 = .ok (.iload_n 3, 1) := by decide +kernel
theorem dX1_inStage_15 : decode cX1_inStage 15 = .ok (.aload_n 0, 1) := by decide +kernel
theorem dX1_inStage_16 : decode cX1_inStage 16 = .ok (.iload 4, 2) := by decide +kernel
theorem dX1_inStage_18 : decode cX1_inStage 18 = .ok (.iload_n 2, 1) := by decide +kernel
theorem dX1_inStage_19 : decode cX1_inStage 19 = .ok (.invokevirtual 107, 3) := by decide +kernel
theorem dX1_inStage_22 : decode cX1_inStage 22 = .ok (.iload_n 1, 1) := by decide +kernel
theorem dX1_inStage_23 : decode cX1_inStage 23 = .ok (.if_icmp .ne 7, 3) := by decide +kernel
theorem dX1_inStage_26 : decode cX1_inStage 26 = .ok (.iconst 1, 1) := by decide +kernel
theorem dX1_inStage_27 : decode cX1_inStage 27 = .ok (.goto 4, 3) := by decide +kernel
theorem dX1_inStage_30 : decode cX1_inStage 30 = .ok (.iconst 0, 1) := by decide +kernel
theorem dX1_inStage_31 : decode cX1_inStage 31 = .ok (.iadd, 1) := by decide +kernel
theorem dX1_inStage_32 : decode cX1_inStage 32 = .ok (.istore_n 3, 1) := by decide +kernel
theorem dX1_inStage_33 : decode cX1_inStage 33 = .ok (.iinc 4 1, 3) := by decide +kernel
theorem dX1_inStage_36 : decode cX1_inStage 36 = .ok (.goto (-31), 3) := by decide +kernel
theorem dX1_inStage_39 : decode cX1_inStage 39 = .ok (.iload_n 3, 1) := by decide +kernel
theorem dX1_inStage_40 : decode cX1_inStage 40 = .ok (.ireturn, 1) := by decide +kernel
theorem dX1_many_0 : decode cX1_many 0 = .ok (.aload_n 0, 1) := by decide +kernel
theorem dX1_many_1 : decode cX1_many 1 = .ok (.iconst 0, 1) := by decide +kernel
theorem dX1_many_2 : decode cX1_many 2 = .ok (.putfield 59, 3) := by decide +kernel
theorem dX1_many_5 : decode cX1_many 5 = .ok (.iload_n 1, 1) := by decide +kernel
theorem dX1_many_6 : decode cX1_many 6 = .ok (.ifCond .lt 12, 3) := by decide +kernel
theorem dX1_many_9 : decode cX1_many 9 = .ok (.iload_n 1, 1) := by decide +kernel
theorem dX1_many_10 : decode cX1_many 10 = .ok (.iconst 3, 1) := by decide +kernel
theorem dX1_many_11 : decode cX1_many 11 = .ok (.if_icmp .gt 7, 3) := by decide +kernel
theorem dX1_many_14 : decode cX1_many 14 = .ok (.iload_n 2, 1) := by decide +kernel
theorem dX1_many_15 : decode cX1_many 15 = .ok (.ifCond .ge 5, 3) := by decide +kernel
theorem dX1_many_18 : decode cX1_many 18 = .ok (.iconst (-1), 1) := by decide +kernel
theorem dX1_many_19 : decode cX1_many 19 = .ok (.ireturn, 1) := by decide +kernel
theorem dX1_many_20 : decode cX1_many 20 = .ok (.aload_n 0, 1) := by decide +kernel
theorem dX1_many_21 : decode cX1_many 21 = .ok (.invokevirtual 104, 3) := by decide +kernel
theorem dX1_many_24 : decode cX1_many 24 = .ok (.aload_n 0, 1) := by decide +kernel
theorem dX1_many_25 : decode cX1_many 25 = .ok (.iload_n 1, 1) := by decide +kernel
theorem dX1_many_26 : decode cX1_many 26 = .ok (.iload_n 2, 1) := by decide +kernel
theorem dX1_many_27 : decode cX1_many 27 = .ok (.invokevirtual 110, 3) := by decide +kernel
theorem dX1_many_30 : decode cX1_many 30 = .ok (.ireturn, 1) := by decide +kernel
theorem dX1_counted_0 : decode cX1_counted 0 = .ok (.iconst 0, 1) := by decide +kernel
theorem dX1_counted_1 : decode cX1_counted 1 = .ok (.istore_n 2, 1) := by decide +kernel
theorem dX1_counted_2 : decode cX1_counted 2 = .ok (.iconst 0, 1) := by decide +kernel
theorem dX1_counted_3 : decode cX1_counted 3 = .ok (.istore_n 3, 1) := by decide +kernel
theorem dX1_counted_4 : decode cX1_counted 4 = .ok (.iload_n 3, 1) := by decide +kernel
theorem dX1_counted_5 : decode cX1_counted 5 = .ok (.aload_n 0, 1) := by decide +kernel
theorem dX1_counted_6 : decode cX1_counted 6 = .ok (.getfield 63, 3) := by decide +kernel
theorem dX1_counted_9 : decode cX1_counted 9 = .ok (.if_icmp .ge 123, 3) := by decide +kernel
theorem dX1_counted_12 : decode cX1_counted 12 = .ok (.iload_n 3, 1) := by decide +kernel
theorem dX1_counted_13 : decode cX1_counted 13 = .ok (.ifCond .le 7, 3) := by decide +kernel
theorem dX1_counted_16 : decode cX1_counted 16 = .ok (.iconst 1, 1) := by decide +kernel
theorem dX1_counted_17 : decode cX1_counted 17 = .ok (.goto 4, 3) := by decide +kernel
theorem dX1_counted_20 : decode cX1_counted 20 = .ok (.iconst 0, 1) := by decide +kernel
theorem dX1_counted_21 : decode cX1_counted 21 = .ok (.istore 4, 2) := by decide +kernel
theorem dX1_counted_23 : decode cX1_counted 23 = .ok (.iload 4, 2) := by decide +kernel
theorem dX1_counted_25 : decode cX1_counted 25 = .ok (.ifCond .eq 9, 3) := by decide +kernel
theorem dX1_counted_28 : decode cX1_counted 28 = .ok (.iload_n 3, 1) := by decide +kernel
theorem dX1_counted_29 : decode cX1_counted 29 = .ok (.iconst 1, 1) := by decide +kernel
theorem dX1_counted_30 : decode cX1_counted 30 = .ok (.isub, 1) := by decide +kernel
theorem dX1_counted_31 : decode cX1_counted 31 = .ok (.goto 4, 3) := by decide +kernel
theorem dX1_counted_34 : decode cX1_counted 34 = .ok (.iconst 0, 1) := by decide +kernel
theorem dX1_counted_35 : decode cX1_counted 35 = .ok (.istore 5, 2) := by decide +kernel
theorem dX1_counted_37 : decode cX1_counted 37 = .ok (.iload_n 1, 1) := by decide +kernel
theorem dX1_counted_38 : decode cX1_counted 38 = .ok (.iconst 2, 1) := by decide +kernel
theorem dX1_counted_39 : decode cX1_counted 39 = .ok (.if_icmp .ne 32, 3) := by decide +kernel
theorem dX1_counted_42 : decode cX1_counted 42 = .ok (.iload 4, 2) := by decide +kernel
theorem dX1_counted_44 : decode cX1_counted 44 = .ok (.ifCond .eq 23, 3) := by decide +kernel
theorem dX1_counted_47 : decode cX1_counted 47 = .ok (.aload_n 0, 1) := by decide +kernel
theorem dX1_counted_48 : decode cX1_counted 48 = .ok (.getfield 50, 3) := by decide +kernel
theorem dX1_counted_51 : decode cX1_counted 51 = .ok (.iload_n 3, 1) := by decide +kernel
theorem dX1_counted_52 : decode cX1_counted 52 = .ok (.iaload, 1) := by decide +kernel
theorem dX1_counted_53 : decode cX1_counted 53 = .ok (.aload_n 0, 1) := by decide +kernel
theorem dX1_counted_54 : decode cX1_counted 54 = .ok (.getfield 50, 3) := by decide +kernel
theorem dX1_counted_57 : decode cX1_counted 57 = .ok (.iload 5, 2) := by decide +kernel
theorem dX1_counted_59 : decode cX1_counted 59 = .ok (.iaload, 1) := by decide +kernel
theorem dX1_counted_60 : decode cX1_counted 60 = .ok (.if_icmp .ne 7, 3) := by decide +kernel
theorem dX1_counted_63 : decode cX1_counted 63 = .ok (.iconst 1, 1) := by decide +kernel
theorem dX1_counted_64 : decode cX1_counted 64 = .ok (.goto 47, 3) := by decide +kernel
theorem dX1_counted_67 : decode cX1_counted 67 = .ok (.iconst 0, 1) := by decide +kernel
theorem dX1_counted_68 : decode cX1_counted 68 = .ok (.goto 43, 3) := by decide +kernel
theorem dX1_counted_71 : decode cX1_counted 71 = .ok (.iload_n 1, 1) := by decide +kernel
theorem dX1_counted_72 : decode cX1_counted 72 = .ok (.iconst 4, 1) := by decide +kernel
theorem dX1_counted_73 : decode cX1_counted 73 = .ok (.if_icmp .ne 12, 3) := by decide +kernel
theorem dX1_counted_76 : decode cX1_counted 76 = .ok (.aload_n 0, 1) := by decide +kernel
theorem dX1_counted_77 : decode cX1_counted 77 = .ok (.getfield 53, 3) := by decide +kernel
theorem dX1_counted_80 : decode cX1_counted 80 = .ok (.iload_n 3, 1) := by decide +kernel
theorem dX1_counted_81 : decode cX1_counted 81 = .ok (.baload, 1) := by decide +kernel
theorem dX1_counted_82 : decode cX1_counted 82 = .ok (.goto 29, 3) := by decide +kernel
theorem dX1_counted_85 : decode cX1_counted 85 = .ok (.iload 4, 2) := by decide +kernel
theorem dX1_counted_87 : decode cX1_counted 87 = .ok (.ifCond .eq 23, 3) := by decide +kernel
theorem dX1_counted_90 : decode cX1_counted 90 = .ok (.aload_n 0, 1) := by decide +kernel
theorem dX1_counted_91 : decode cX1_counted 91 = .ok (.getfield 47, 3) := by decide +kernel
theorem dX1_counted_94 : decode cX1_counted 94 = .ok (.iload_n 3, 1) := by decide +kernel
theorem dX1_counted_95 : decode cX1_counted 95 = .ok (.iaload, 1) := by decide +kernel
theorem dX1_counted_96 : decode cX1_counted 96 = .ok (.aload_n 0, 1) := by decide +kernel
theorem dX1_counted_97 : decode cX1_counted 97 = .ok (.getfield 47, 3) := by decide +kernel
theorem dX1_counted_100 : decode cX1_counted 100 = .ok (.iload 5, 2) := by decide +kernel
theorem dX1_counted_102 : decode cX1_counted 102 = .ok (.iaload, 1) := by decide +kernel
theorem dX1_counted_103 : decode cX1_counted 103 = .ok (.if_icmp .ne 7, 3) := by decide +kernel
theorem dX1_counted_106 : decode cX1_counted 106 = .ok (.iconst 1, 1) := by decide +kernel
theorem dX1_counted_107 : decode cX1_counted 107 = .ok (.goto 4, 3) := by decide +kernel
theorem dX1_counted_110 : decode cX1_counted 110 = .ok (.iconst 0, 1) := by decide +kernel
theorem dX1_counted_111 : decode cX1_counted 111 = .ok (.istore 6, 2) := by decide +kernel
theorem dX1_counted_113 : decode cX1_counted 113 = .ok (.iload_n 2, 1) := by decide +kernel
theorem dX1_counted_114 : decode cX1_counted 114 = .ok (.iload 6, 2) := by decide +kernel
theorem dX1_counted_116 : decode cX1_counted 116 = .ok (.ifCond .eq 7, 3) := by decide +kernel
theorem dX1_counted_119 : decode cX1_counted 119 = .ok (.iconst 1, 1) := by decide +kernel
theorem dX1_counted_120 : decode cX1_counted 120 = .ok (.goto 4, 3) := by decide +kernel
theorem dX1_counted_123 : decode cX1_counted 123 = .ok (.iconst 0, 1) := by decide +kernel
theorem dX1_counted_124 : decode cX1_counted 124 = .ok (.iadd, 1) := by decide +kernel
theorem dX1_counted_125 : decode cX1_counted 125 = .ok (.istore_n 2, 1) := by decide +kernel
theorem dX1_counted_126 : decode cX1_counted 126 = .ok (.iinc 3 1, 3) := by decide +kernel
theorem dX1_counted_129 : decode cX1_counted 129 = .ok (.goto (-125), 3) := by decide +kernel
theorem dX1_counted_132 : decode cX1_counted 132 = .ok (.iload_n 2, 1) := by decide +kernel
theorem dX1_counted_133 : decode cX1_counted 133 = .ok (.ireturn, 1) := by decide +kernel
theorem dX1_longest_0 : decode cX1_longest 0 = .ok (.iconst 0, 1) := by decide +kernel
theorem dX1_longest_1 : decode cX1_longest 1 = .ok (.istore_n 1, 1) := by decide +kernel
theorem dX1_longest_2 : decode cX1_longest 2 = .ok (.iconst 0, 1) := by decide +kernel
theorem dX1_longest_3 : decode cX1_longest 3 = .ok (.istore_n 2, 1) := by decide +kernel
theorem dX1_longest_4 : decode cX1_longest 4 = .ok (.iload_n 2, 1) := by decide +kernel
theorem dX1_longest_5 : decode cX1_longest 5 = .ok (.aload_n 0, 1) := by decide +kernel
theorem dX1_longest_6 : decode cX1_longest 6 = .ok (.getfield 63, 3) := by decide +kernel
theorem dX1_longest_9 : decode cX1_longest 9 = .ok (.if_icmp .ge 52, 3) := by decide +kernel
theorem dX1_longest_12 : decode cX1_longest 12 = .ok (.aload_n 0, 1) := by decide +kernel
theorem dX1_longest_13 : decode cX1_longest 13 = .ok (.getfield 50, 3) := by decide +kernel
theorem dX1_longest_16 : decode cX1_longest 16 = .ok (.iload_n 2, 1) := by decide +kernel
theorem dX1_longest_17 : decode cX1_longest 17 = .ok (.iaload, 1) := by decide +kernel
theorem dX1_longest_18 : decode cX1_longest 18 = .ok (.iload_n 2, 1) := by decide +kernel
theorem dX1_longest_19 : decode cX1_longest 19 = .ok (.ifCond .le 22, 3) := by decide +kernel
theorem dX1_longest_22 : decode cX1_longest 22 = .ok (.aload_n 0, 1) := by decide +kernel
theorem dX1_longest_23 : decode cX1_longest 23 = .ok (.getfield 50, 3) := by decide +kernel
theorem dX1_longest_26 : decode cX1_longest 26 = .ok (.iload_n 2, 1) := by decide +kernel
theorem dX1_longest_27 : decode cX1_longest 27 = .ok (.ifCond .le 9, 3) := by decide +kernel
theorem dX1_longest_30 : decode cX1_longest 30 = .ok (.iload_n 2, 1) := by decide +kernel
theorem dX1_longest_31 : decode cX1_longest 31 = .ok (.iconst 1, 1) := by decide +kernel
theorem dX1_longest_32 : decode cX1_longest 32 = .ok (.isub, 1) := by decide +kernel
theorem dX1_longest_33 : decode cX1_longest 33 = .ok (.goto 4, 3) := by decide +kernel
theorem dX1_longest_36 : decode cX1_longest 36 = .ok (.iconst 0, 1) := by decide +kernel
theorem dX1_longest_37 : decode cX1_longest 37 = .ok (.iaload, 1) := by decide +kernel
theorem dX1_longest_38 : decode cX1_longest 38 = .ok (.goto 4, 3) := by decide +kernel
theorem dX1_longest_41 : decode cX1_longest 41 = .ok (.iconst 0, 1) := by decide +kernel
theorem dX1_longest_42 : decode cX1_longest 42 = .ok (.isub, 1) := by decide +kernel
theorem dX1_longest_43 : decode cX1_longest 43 = .ok (.istore_n 3, 1) := by decide +kernel
theorem dX1_longest_44 : decode cX1_longest 44 = .ok (.iload_n 3, 1) := by decide +kernel
theorem dX1_longest_45 : decode cX1_longest 45 = .ok (.iload_n 1, 1) := by decide +kernel
theorem dX1_longest_46 : decode cX1_longest 46 = .ok (.if_icmp .le 7, 3) := by decide +kernel
theorem dX1_longest_49 : decode cX1_longest 49 = .ok (.iload_n 3, 1) := by decide +kernel
theorem dX1_longest_50 : decode cX1_longest 50 = .ok (.goto 4, 3) := by decide +kernel
theorem dX1_longest_53 : decode cX1_longest 53 = .ok (.iload_n 1, 1) := by decide +kernel
theorem dX1_longest_54 : decode cX1_longest 54 = .ok (.istore_n 1, 1) := by decide +kernel
theorem dX1_longest_55 : decode cX1_longest 55 = .ok (.iinc 2 1, 3) := by decide +kernel
theorem dX1_longest_58 : decode cX1_longest 58 = .ok (.goto (-54), 3) := by decide +kernel
theorem dX1_longest_61 : decode cX1_longest 61 = .ok (.iload_n 1, 1) := by decide +kernel
theorem dX1_longest_62 : decode cX1_longest 62 = .ok (.ireturn, 1) := by decide +kernel
theorem dX1_busiest_0 : decode cX1_busiest 0 = .ok (.iconst 0, 1) := by decide +kernel
theorem dX1_busiest_1 : decode cX1_busiest 1 = .ok (.istore_n 1, 1) := by decide +kernel
theorem dX1_busiest_2 : decode cX1_busiest 2 = .ok (.iconst 0, 1) := by decide +kernel
theorem dX1_busiest_3 : decode cX1_busiest 3 = .ok (.istore_n 2, 1) := by decide +kernel
theorem dX1_busiest_4 : decode cX1_busiest 4 = .ok (.iload_n 2, 1) := by decide +kernel
theorem dX1_busiest_5 : decode cX1_busiest 5 = .ok (.aload_n 0, 1) := by decide +kernel
theorem dX1_busiest_6 : decode cX1_busiest 6 = .ok (.getfield 63, 3) := by decide +kernel
theorem dX1_busiest_9 : decode cX1_busiest 9 = .ok (.if_icmp .ge 80, 3) := by decide +kernel
theorem dX1_busiest_12 : decode cX1_busiest 12 = .ok (.iconst 0, 1) := by decide +kernel
theorem dX1_busiest_13 : decode cX1_busiest 13 = .ok (.istore_n 3, 1) := by decide +kernel
theorem dX1_busiest_14 : decode cX1_busiest 14 = .ok (.iconst 0, 1) := by decide +kernel
theorem dX1_busiest_15 : decode cX1_busiest 15 = .ok (.istore 4, 2) := by decide +kernel
theorem dX1_busiest_17 : decode cX1_busiest 17 = .ok (.iload 4, 2) := by decide +kernel
theorem dX1_busiest_19 : decode cX1_busiest 19 = .ok (.aload_n 0, 1) := by decide +kernel
theorem dX1_busiest_20 : decode cX1_busiest 20 = .ok (.getfield 63, 3) := by decide +kernel
theorem dX1_busiest_23 : decode cX1_busiest 23 = .ok (.if_icmp .ge 49, 3) := by decide +kernel
theorem dX1_busiest_26 : decode cX1_busiest 26 = .ok (.iload_n 3, 1) := by decide +kernel
theorem dX1_busiest_27 : decode cX1_busiest 27 = .ok (.aload_n 0, 1) := by decide +kernel
theorem dX1_busiest_28 : decode cX1_busiest 28 = .ok (.getfield 47, 3) := by decide +kernel
theorem dX1_busiest_31 : decode cX1_busiest 31 = .ok (.iload 4, 2) := by decide +kernel
theorem dX1_busiest_33 : decode cX1_busiest 33 = .ok (.iaload, 1) := by decide +kernel
theorem dX1_busiest_34 : decode cX1_busiest 34 = .ok (.aload_n 0, 1) := by decide +kernel
theorem dX1_busiest_35 : decode cX1_busiest 35 = .ok (.getfield 47, 3) := by decide +kernel
theorem dX1_busiest_38 : decode cX1_busiest 38 = .ok (.iload_n 2, 1) := by decide +kernel
theorem dX1_busiest_39 : decode cX1_busiest 39 = .ok (.iaload, 1) := by decide +kernel
theorem dX1_busiest_40 : decode cX1_busiest 40 = .ok (.if_icmp .gt 23, 3) := by decide +kernel
theorem dX1_busiest_43 : decode cX1_busiest 43 = .ok (.aload_n 0, 1) := by decide +kernel
theorem dX1_busiest_44 : decode cX1_busiest 44 = .ok (.getfield 50, 3) := by decide +kernel
theorem dX1_busiest_47 : decode cX1_busiest 47 = .ok (.iload 4, 2) := by decide +kernel
theorem dX1_busiest_49 : decode cX1_busiest 49 = .ok (.iaload, 1) := by decide +kernel
theorem dX1_busiest_50 : decode cX1_busiest 50 = .ok (.aload_n 0, 1) := by decide +kernel
theorem dX1_busiest_51 : decode cX1_busiest 51 = .ok (.getfield 47, 3) := by decide +kernel
theorem dX1_busiest_54 : decode cX1_busiest 54 = .ok (.iload_n 2, 1) := by decide +kernel
theorem dX1_busiest_55 : decode cX1_busiest 55 = .ok (.iaload, 1) := by decide +kernel
theorem dX1_busiest_56 : decode cX1_busiest 56 = .ok (.if_icmp .le 7, 3) := by decide +kernel
theorem dX1_busiest_59 : decode cX1_busiest 59 = .ok (.iconst 1, 1) := by decide +kernel
theorem dX1_busiest_60 : decode cX1_busiest 60 = .ok (.goto 4, 3) := by decide +kernel
theorem dX1_busiest_63 : decode cX1_busiest 63 = .ok (.iconst 0, 1) := by decide +kernel
theorem dX1_busiest_64 : decode cX1_busiest 64 = .ok (.iadd, 1) := by decide +kernel
theorem dX1_busiest_65 : decode cX1_busiest 65 = .ok (.istore_n 3, 1) := by decide +kernel
theorem dX1_busiest_66 : decode cX1_busiest 66 = .ok (.iinc 4 1, 3) := by decide +kernel
theorem dX1_busiest_69 : decode cX1_busiest 69 = .ok (.goto (-52), 3) := by decide +kernel
theorem dX1_busiest_72 : decode cX1_busiest 72 = .ok (.iload_n 3, 1) := by decide +kernel
theorem dX1_busiest_73 : decode cX1_busiest 73 = .ok (.iload_n 1, 1) := by decide +kernel
theorem dX1_busiest_74 : decode cX1_busiest 74 = .ok (.if_icmp .le 7, 3) := by decide +kernel
theorem dX1_busiest_77 : decode cX1_busiest 77 = .ok (.iload_n 3, 1) := by decide +kernel
theorem dX1_busiest_78 : decode cX1_busiest 78 = .ok (.goto 4, 3) := by decide +kernel
theorem dX1_busiest_81 : decode cX1_busiest 81 = .ok (.iload_n 1, 1) := by decide +kernel
theorem dX1_busiest_82 : decode cX1_busiest 82 = .ok (.istore_n 1, 1) := by decide +kernel
theorem dX1_busiest_83 : decode cX1_busiest 83 = .ok (.iinc 2 1, 3) := by decide +kernel
theorem dX1_busiest_86 : decode cX1_busiest 86 = .ok (.goto (-82), 3) := by decide +kernel
theorem dX1_busiest_89 : decode cX1_busiest 89 = .ok (.iload_n 1, 1) := by decide +kernel
theorem dX1_busiest_90 : decode cX1_busiest 90 = .ok (.ireturn, 1) := by decide +kernel
theorem dX1_look_0 : decode cX1_look 0 = .ok (.aload_n 0, 1) := by decide +kernel
theorem dX1_look_1 : decode cX1_look 1 = .ok (.iconst 0, 1) := by decide +kernel
theorem dX1_look_2 : decode cX1_look 2 = .ok (.putfield 59, 3) := by decide +kernel
theorem dX1_look_5 : decode cX1_look 5 = .ok (.aload_n 0, 1) := by decide +kernel
theorem dX1_look_6 : decode cX1_look 6 = .ok (.invokevirtual 104, 3) := by decide +kernel
theorem dX1_look_9 : decode cX1_look 9 = .ok (.iload_n 1, 1) := by decide +kernel
theorem dX1_look_10 : decode cX1_look 10 = .ok (.tableswitch 86 0 6 #[42, 47, 70, 76, 70, 70, 81], 42) := by decide +kernel
theorem dX1_look_52 : decode cX1_look 52 = .ok (.aload_n 0, 1) := by decide +kernel
theorem dX1_look_53 : decode cX1_look 53 = .ok (.getfield 63, 3) := by decide +kernel
theorem dX1_look_56 : decode cX1_look 56 = .ok (.ireturn, 1) := by decide +kernel
theorem dX1_look_57 : decode cX1_look 57 = .ok (.aload_n 0, 1) := by decide +kernel
theorem dX1_look_58 : decode cX1_look 58 = .ok (.getfield 63, 3) := by decide +kernel
theorem dX1_look_61 : decode cX1_look 61 = .ok (.ifCond .le 17, 3) := by decide +kernel
theorem dX1_look_64 : decode cX1_look 64 = .ok (.aload_n 0, 1) := by decide +kernel
theorem dX1_look_65 : decode cX1_look 65 = .ok (.getfield 50, 3) := by decide +kernel
theorem dX1_look_68 : decode cX1_look 68 = .ok (.aload_n 0, 1) := by decide +kernel
theorem dX1_look_69 : decode cX1_look 69 = .ok (.getfield 63, 3) := by decide +kernel
theorem dX1_look_72 : decode cX1_look 72 = .ok (.iconst 1, 1) := by decide +kernel
theorem dX1_look_73 : decode cX1_look 73 = .ok (.isub, 1) := by decide +kernel
theorem dX1_look_74 : decode cX1_look 74 = .ok (.iaload, 1) := by decide +kernel
theorem dX1_look_75 : decode cX1_look 75 = .ok (.goto 4, 3) := by decide +kernel
theorem dX1_look_78 : decode cX1_look 78 = .ok (.iconst 0, 1) := by decide +kernel
theorem dX1_look_79 : decode cX1_look 79 = .ok (.ireturn, 1) := by decide +kernel
theorem dX1_look_80 : decode cX1_look 80 = .ok (.aload_n 0, 1) := by decide +kernel
theorem dX1_look_81 : decode cX1_look 81 = .ok (.iload_n 1, 1) := by decide +kernel
theorem dX1_look_82 : decode cX1_look 82 = .ok (.invokevirtual 113, 3) := by decide +kernel
theorem dX1_look_85 : decode cX1_look 85 = .ok (.ireturn, 1) := by decide +kernel
theorem dX1_look_86 : decode cX1_look 86 = .ok (.aload_n 0, 1) := by decide +kernel
theorem dX1_look_87 : decode cX1_look 87 = .ok (.invokevirtual 116, 3) := by decide +kernel
theorem dX1_look_90 : decode cX1_look 90 = .ok (.ireturn, 1) := by decide +kernel
theorem dX1_look_91 : decode cX1_look 91 = .ok (.aload_n 0, 1) := by decide +kernel
theorem dX1_look_92 : decode cX1_look 92 = .ok (.invokevirtual 120, 3) := by decide +kernel
theorem dX1_look_95 : decode cX1_look 95 = .ok (.ireturn, 1) := by decide +kernel
theorem dX1_look_96 : decode cX1_look 96 = .ok (.iconst (-1), 1) := by decide +kernel
theorem dX1_look_97 : decode cX1_look 97 = .ok (.ireturn, 1) := by decide +kernel
end
