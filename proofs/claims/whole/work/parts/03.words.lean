/-- the tables' words that a callee may be given -/
def tb : List Cond := lw_tbl.filter goodWord
theorem tb_good : ∀ w, w ∈ tb → w ∈ tb ∧ ((w.onTables && w.keeps) = true ∨ ∃ ty, w = .arrayClass ty) := fun w h => ⟨h, good_of_word (List.mem_filter.mp h).2⟩
theorem tb_of {args : Array Value} {s : State} (h : ∀ w ∈ lw_tbl, w.before args s = true) : ∀ w ∈ tb, w.before args s = true := fun w hw => h w (List.mem_filter.mp hw).1
theorem tb_t {w : Cond} (i : Nat) (h : tables_1[i]? = some w) (hg : goodWord w = true) : w ∈ tb := List.mem_filter.mpr ⟨List.mem_append_right _ (List.mem_of_getElem? h), hg⟩
theorem tb_s {w : Cond} (i : Nat) (h : (k2_sels lw_privs)[i]? = some w) (hg : goodWord w = true) : w ∈ tb := List.mem_filter.mpr ⟨List.mem_append_left _ (List.mem_of_getElem? h), hg⟩
theorem zwX0_0 : u_lay RX0 TX0 0 ∈ tb := tb_t 26 (by decide +kernel) (by decide +kernel)
theorem zwX0_1 : u_lay RX0 TX0 1 ∈ tb := tb_t 28 (by decide +kernel) (by decide +kernel)
theorem zwX0_2 : u_lay RX0 TX0 2 ∈ tb := tb_t 30 (by decide +kernel) (by decide +kernel)
theorem zwX0_3 : u_lay RX0 TX0 3 ∈ tb := tb_t 32 (by decide +kernel) (by decide +kernel)
theorem zwX0_4 : u_lay RX0 TX0 4 ∈ tb := tb_t 34 (by decide +kernel) (by decide +kernel)
theorem zwX0_5 : u_lay RX0 TX0 5 ∈ tb := tb_t 36 (by decide +kernel) (by decide +kernel)
theorem zwX0_6 : u_lay RX0 TX0 6 ∈ tb := tb_t 38 (by decide +kernel) (by decide +kernel)
theorem zwX0_7 : u_lay RX0 TX0 7 ∈ tb := tb_t 40 (by decide +kernel) (by decide +kernel)
theorem zwX0_8 : u_lay RX0 TX0 8 ∈ tb := tb_t 42 (by decide +kernel) (by decide +kernel)
theorem zwX0_9 : u_lay RX0 TX0 9 ∈ tb := tb_t 44 (by decide +kernel) (by decide +kernel)
theorem zwX0_10 : u_lay RX0 TX0 10 ∈ tb := tb_t 46 (by decide +kernel) (by decide +kernel)
theorem zwX0_11 : u_lay RX0 TX0 11 ∈ tb := tb_t 48 (by decide +kernel) (by decide +kernel)
theorem zwX0_12 : u_lay RX0 TX0 12 ∈ tb := tb_t 50 (by decide +kernel) (by decide +kernel)
theorem zwX0_13 : u_lay RX0 TX0 13 ∈ tb := tb_t 52 (by decide +kernel) (by decide +kernel)
theorem inX0 : ∀ w ∈ u_ws RX0 TX0 14, w ∈ tb := by
  intro w hw
  obtain ⟨k, hk, rfl⟩ := List.mem_map.mp hw
  have hk : k < 14 := List.mem_range.mp hk
  rcases (show k = 0 ∨ k = 1 ∨ k = 2 ∨ k = 3 ∨ k = 4 ∨ k = 5 ∨ k = 6 ∨ k = 7 ∨ k = 8 ∨ k = 9 ∨ k = 10 ∨ k = 11 ∨ k = 12 ∨ k = 13 by omega) with rfl | rfl | rfl | rfl | rfl | rfl | rfl | rfl | rfl | rfl | rfl | rfl | rfl | rfl
  · exact zwX0_0
  · exact zwX0_1
  · exact zwX0_2
  · exact zwX0_3
  · exact zwX0_4
  · exact zwX0_5
  · exact zwX0_6
  · exact zwX0_7
  · exact zwX0_8
  · exact zwX0_9
  · exact zwX0_10
  · exact zwX0_11
  · exact zwX0_12
  · exact zwX0_13
theorem zwX1_0 : u_lay RX1 TX1 0 ∈ tb := tb_t 258 (by decide +kernel) (by decide +kernel)
theorem zwX1_1 : u_lay RX1 TX1 1 ∈ tb := tb_t 260 (by decide +kernel) (by decide +kernel)
theorem zwX1_2 : u_lay RX1 TX1 2 ∈ tb := tb_t 262 (by decide +kernel) (by decide +kernel)
theorem zwX1_3 : u_lay RX1 TX1 3 ∈ tb := tb_t 264 (by decide +kernel) (by decide +kernel)
theorem zwX1_4 : u_lay RX1 TX1 4 ∈ tb := tb_t 266 (by decide +kernel) (by decide +kernel)
theorem zwX1_5 : u_lay RX1 TX1 5 ∈ tb := tb_t 268 (by decide +kernel) (by decide +kernel)
theorem zwX1_6 : u_lay RX1 TX1 6 ∈ tb := tb_t 270 (by decide +kernel) (by decide +kernel)
theorem zwX1_7 : u_lay RX1 TX1 7 ∈ tb := tb_t 272 (by decide +kernel) (by decide +kernel)
theorem zwX1_8 : u_lay RX1 TX1 8 ∈ tb := tb_t 274 (by decide +kernel) (by decide +kernel)
theorem zwX1_9 : u_lay RX1 TX1 9 ∈ tb := tb_t 276 (by decide +kernel) (by decide +kernel)
theorem zwX1_10 : u_lay RX1 TX1 10 ∈ tb := tb_t 278 (by decide +kernel) (by decide +kernel)
theorem zwX1_11 : u_lay RX1 TX1 11 ∈ tb := tb_t 280 (by decide +kernel) (by decide +kernel)
theorem zwX1_12 : u_lay RX1 TX1 12 ∈ tb := tb_t 282 (by decide +kernel) (by decide +kernel)
theorem zwX1_13 : u_lay RX1 TX1 13 ∈ tb := tb_t 284 (by decide +kernel) (by decide +kernel)
theorem zwX1_14 : u_lay RX1 TX1 14 ∈ tb := tb_t 286 (by decide +kernel) (by decide +kernel)
theorem zwX1_15 : u_lay RX1 TX1 15 ∈ tb := tb_t 288 (by decide +kernel) (by decide +kernel)
theorem zwX1_16 : u_lay RX1 TX1 16 ∈ tb := tb_t 290 (by decide +kernel) (by decide +kernel)
theorem zwX1_17 : u_lay RX1 TX1 17 ∈ tb := tb_t 292 (by decide +kernel) (by decide +kernel)
theorem inX1 : ∀ w ∈ u_ws RX1 TX1 18, w ∈ tb := by
  intro w hw
  obtain ⟨k, hk, rfl⟩ := List.mem_map.mp hw
  have hk : k < 18 := List.mem_range.mp hk
  rcases (show k = 0 ∨ k = 1 ∨ k = 2 ∨ k = 3 ∨ k = 4 ∨ k = 5 ∨ k = 6 ∨ k = 7 ∨ k = 8 ∨ k = 9 ∨ k = 10 ∨ k = 11 ∨ k = 12 ∨ k = 13 ∨ k = 14 ∨ k = 15 ∨ k = 16 ∨ k = 17 by omega) with rfl | rfl | rfl | rfl | rfl | rfl | rfl | rfl | rfl | rfl | rfl | rfl | rfl | rfl | rfl | rfl | rfl | rfl
  · exact zwX1_0
  · exact zwX1_1
  · exact zwX1_2
  · exact zwX1_3
  · exact zwX1_4
  · exact zwX1_5
  · exact zwX1_6
  · exact zwX1_7
  · exact zwX1_8
  · exact zwX1_9
  · exact zwX1_10
  · exact zwX1_11
  · exact zwX1_12
  · exact zwX1_13
  · exact zwX1_14
  · exact zwX1_15
  · exact zwX1_16
  · exact zwX1_17
theorem zlX0_7 : Cond.fieldLink RX0 7 RX0 (TX0 0).2.1 (TX0 0).2.2.1 ∈ tb := tb_t 12 (by decide +kernel) (by decide +kernel)
theorem zlX0_13 : Cond.fieldLink RX0 13 RX0 (TX0 1).2.1 (TX0 1).2.2.1 ∈ tb := tb_t 13 (by decide +kernel) (by decide +kernel)
theorem zlX0_17 : Cond.fieldLink RX0 17 RX0 (TX0 2).2.1 (TX0 2).2.2.1 ∈ tb := tb_t 14 (by decide +kernel) (by decide +kernel)
theorem zlX0_20 : Cond.fieldLink RX0 20 RX0 (TX0 3).2.1 (TX0 3).2.2.1 ∈ tb := tb_t 15 (by decide +kernel) (by decide +kernel)
theorem zlX0_23 : Cond.fieldLink RX0 23 RX0 (TX0 4).2.1 (TX0 4).2.2.1 ∈ tb := tb_t 16 (by decide +kernel) (by decide +kernel)
theorem zlX0_26 : Cond.fieldLink RX0 26 RX0 (TX0 5).2.1 (TX0 5).2.2.1 ∈ tb := tb_t 17 (by decide +kernel) (by decide +kernel)
theorem zlX0_29 : Cond.fieldLink RX0 29 RX0 (TX0 6).2.1 (TX0 6).2.2.1 ∈ tb := tb_t 18 (by decide +kernel) (by decide +kernel)
theorem zlX0_33 : Cond.fieldLink RX0 33 RX0 (TX0 7).2.1 (TX0 7).2.2.1 ∈ tb := tb_t 19 (by decide +kernel) (by decide +kernel)
theorem zlX0_36 : Cond.fieldLink RX0 36 RX0 (TX0 8).2.1 (TX0 8).2.2.1 ∈ tb := tb_t 20 (by decide +kernel) (by decide +kernel)
theorem zlX0_39 : Cond.fieldLink RX0 39 RX0 (TX0 9).2.1 (TX0 9).2.2.1 ∈ tb := tb_t 21 (by decide +kernel) (by decide +kernel)
theorem zlX0_42 : Cond.fieldLink RX0 42 RX0 (TX0 10).2.1 (TX0 10).2.2.1 ∈ tb := tb_t 22 (by decide +kernel) (by decide +kernel)
theorem zlX0_45 : Cond.fieldLink RX0 45 RX0 (TX0 11).2.1 (TX0 11).2.2.1 ∈ tb := tb_t 23 (by decide +kernel) (by decide +kernel)
theorem zlX0_48 : Cond.fieldLink RX0 48 RX0 (TX0 12).2.1 (TX0 12).2.2.1 ∈ tb := tb_t 24 (by decide +kernel) (by decide +kernel)
theorem zlX0_51 : Cond.fieldLink RX0 51 RX0 (TX0 13).2.1 (TX0 13).2.2.1 ∈ tb := tb_t 25 (by decide +kernel) (by decide +kernel)
theorem zlX1_59 : Cond.fieldLink RX1 59 RX1 (TX1 0).2.1 (TX1 0).2.2.1 ∈ tb := tb_t 240 (by decide +kernel) (by decide +kernel)
theorem zlX1_63 : Cond.fieldLink RX1 63 RX1 (TX1 1).2.1 (TX1 1).2.2.1 ∈ tb := tb_t 241 (by decide +kernel) (by decide +kernel)
theorem zlX1_7 : Cond.fieldLink RX1 7 RX1 (TX1 2).2.1 (TX1 2).2.2.1 ∈ tb := tb_t 242 (by decide +kernel) (by decide +kernel)
theorem zlX1_13 : Cond.fieldLink RX1 13 RX1 (TX1 3).2.1 (TX1 3).2.2.1 ∈ tb := tb_t 243 (by decide +kernel) (by decide +kernel)
theorem zlX1_16 : Cond.fieldLink RX1 16 RX1 (TX1 4).2.1 (TX1 4).2.2.1 ∈ tb := tb_t 244 (by decide +kernel) (by decide +kernel)
theorem zlX1_19 : Cond.fieldLink RX1 19 RX1 (TX1 5).2.1 (TX1 5).2.2.1 ∈ tb := tb_t 245 (by decide +kernel) (by decide +kernel)
theorem zlX1_22 : Cond.fieldLink RX1 22 RX1 (TX1 6).2.1 (TX1 6).2.2.1 ∈ tb := tb_t 246 (by decide +kernel) (by decide +kernel)
theorem zlX1_25 : Cond.fieldLink RX1 25 RX1 (TX1 7).2.1 (TX1 7).2.2.1 ∈ tb := tb_t 247 (by decide +kernel) (by decide +kernel)
theorem zlX1_29 : Cond.fieldLink RX1 29 RX1 (TX1 8).2.1 (TX1 8).2.2.1 ∈ tb := tb_t 248 (by decide +kernel) (by decide +kernel)
theorem zlX1_32 : Cond.fieldLink RX1 32 RX1 (TX1 9).2.1 (TX1 9).2.2.1 ∈ tb := tb_t 249 (by decide +kernel) (by decide +kernel)
theorem zlX1_35 : Cond.fieldLink RX1 35 RX1 (TX1 10).2.1 (TX1 10).2.2.1 ∈ tb := tb_t 250 (by decide +kernel) (by decide +kernel)
theorem zlX1_38 : Cond.fieldLink RX1 38 RX1 (TX1 11).2.1 (TX1 11).2.2.1 ∈ tb := tb_t 251 (by decide +kernel) (by decide +kernel)
theorem zlX1_41 : Cond.fieldLink RX1 41 RX1 (TX1 12).2.1 (TX1 12).2.2.1 ∈ tb := tb_t 252 (by decide +kernel) (by decide +kernel)
theorem zlX1_44 : Cond.fieldLink RX1 44 RX1 (TX1 13).2.1 (TX1 13).2.2.1 ∈ tb := tb_t 253 (by decide +kernel) (by decide +kernel)
theorem zlX1_47 : Cond.fieldLink RX1 47 RX1 (TX1 14).2.1 (TX1 14).2.2.1 ∈ tb := tb_t 254 (by decide +kernel) (by decide +kernel)
theorem zlX1_50 : Cond.fieldLink RX1 50 RX1 (TX1 15).2.1 (TX1 15).2.2.1 ∈ tb := tb_t 255 (by decide +kernel) (by decide +kernel)
theorem zlX1_53 : Cond.fieldLink RX1 53 RX1 (TX1 16).2.1 (TX1 16).2.2.1 ∈ tb := tb_t 256 (by decide +kernel) (by decide +kernel)
theorem zlX1_56 : Cond.fieldLink RX1 56 RX1 (TX1 17).2.1 (TX1 17).2.2.1 ∈ tb := tb_t 257 (by decide +kernel) (by decide +kernel)
theorem ziX0_init : Cond.instanceMethod yX0_init ∈ tb := tb_t 7 (by decide +kernel) (by decide +kernel)
theorem ziX0_put : Cond.instanceMethod yX0_put ∈ tb := tb_t 58 (by decide +kernel) (by decide +kernel)
theorem ztX0_isRegister : Cond.static yX0_isRegister ∈ tb := tb_t 62 (by decide +kernel) (by decide +kernel)
theorem ziX0_append : Cond.instanceMethod yX0_append ∈ tb := tb_t 66 (by decide +kernel) (by decide +kernel)
theorem ziX0_settle : Cond.instanceMethod yX0_settle ∈ tb := tb_t 70 (by decide +kernel) (by decide +kernel)
theorem ziX0_joinsGroup : Cond.instanceMethod yX0_joinsGroup ∈ tb := tb_t 74 (by decide +kernel) (by decide +kernel)
theorem ziX0_isBehindSlot : Cond.instanceMethod yX0_isBehindSlot ∈ tb := tb_t 78 (by decide +kernel) (by decide +kernel)
theorem ziX0_liesBehind : Cond.instanceMethod yX0_liesBehind ∈ tb := tb_t 82 (by decide +kernel) (by decide +kernel)
theorem ziX0_isRedirected : Cond.instanceMethod yX0_isRedirected ∈ tb := tb_t 86 (by decide +kernel) (by decide +kernel)
theorem ziX0_isBehindFailingOrSingle : Cond.instanceMethod yX0_isBehindFailingOrSingle ∈ tb := tb_t 90 (by decide +kernel) (by decide +kernel)
theorem ziX0_isBehindSlotOfMissedBranch : Cond.instanceMethod yX0_isBehindSlotOfMissedBranch ∈ tb := tb_t 94 (by decide +kernel) (by decide +kernel)
theorem ziX0_isMissed : Cond.instanceMethod yX0_isMissed ∈ tb := tb_t 98 (by decide +kernel) (by decide +kernel)
theorem ziX0_leastFetchTime : Cond.instanceMethod yX0_leastFetchTime ∈ tb := tb_t 102 (by decide +kernel) (by decide +kernel)
theorem ziX0_leastIssueTime : Cond.instanceMethod yX0_leastIssueTime ∈ tb := tb_t 109 (by decide +kernel) (by decide +kernel)
theorem ziX0_leastInOrder : Cond.instanceMethod yX0_leastInOrder ∈ tb := tb_t 113 (by decide +kernel) (by decide +kernel)
theorem ziX0_makesPair : Cond.instanceMethod yX0_makesPair ∈ tb := tb_t 117 (by decide +kernel) (by decide +kernel)
theorem ztX0_usesMemory : Cond.static yX0_usesMemory ∈ tb := tb_t 120 (by decide +kernel) (by decide +kernel)
theorem ztX0_usesMultiplier : Cond.static yX0_usesMultiplier ∈ tb := tb_t 123 (by decide +kernel) (by decide +kernel)
theorem ziX0_reads : Cond.instanceMethod yX0_reads ∈ tb := tb_t 127 (by decide +kernel) (by decide +kernel)
theorem ziX0_whenReadable : Cond.instanceMethod yX0_whenReadable ∈ tb := tb_t 131 (by decide +kernel) (by decide +kernel)
theorem ztX0_delayOf : Cond.static yX0_delayOf ∈ tb := tb_t 134 (by decide +kernel) (by decide +kernel)
theorem ziX0_whenDividerIsFree : Cond.instanceMethod yX0_whenDividerIsFree ∈ tb := tb_t 138 (by decide +kernel) (by decide +kernel)
theorem ziX0_doneBefore : Cond.instanceMethod yX0_doneBefore ∈ tb := tb_t 142 (by decide +kernel) (by decide +kernel)
theorem ziX0_leastDoneTime : Cond.instanceMethod yX0_leastDoneTime ∈ tb := tb_t 146 (by decide +kernel) (by decide +kernel)
theorem ztX0_workOf : Cond.static yX0_workOf ∈ tb := tb_t 149 (by decide +kernel) (by decide +kernel)
theorem ziX0_branch : Cond.instanceMethod yX0_branch ∈ tb := tb_t 152 (by decide +kernel) (by decide +kernel)
theorem ziX0_fail : Cond.instanceMethod yX0_fail ∈ tb := tb_t 156 (by decide +kernel) (by decide +kernel)
theorem ziX0_failLast : Cond.instanceMethod yX0_failLast ∈ tb := tb_t 161 (by decide +kernel) (by decide +kernel)
theorem ziX0_drop : Cond.instanceMethod yX0_drop ∈ tb := tb_t 164 (by decide +kernel) (by decide +kernel)
theorem ziX0_clear : Cond.instanceMethod yX0_clear ∈ tb := tb_t 168 (by decide +kernel) (by decide +kernel)
theorem ziX0_again : Cond.instanceMethod yX0_again ∈ tb := tb_t 172 (by decide +kernel) (by decide +kernel)
theorem ziX0_isInstruction : Cond.instanceMethod yX0_isInstruction ∈ tb := tb_t 177 (by decide +kernel) (by decide +kernel)
theorem ziX0_time : Cond.instanceMethod yX0_time ∈ tb := tb_t 180 (by decide +kernel) (by decide +kernel)
theorem ziX0_groupSize : Cond.instanceMethod yX0_groupSize ∈ tb := tb_t 185 (by decide +kernel) (by decide +kernel)
theorem ziX0_isIssuedAsSecond : Cond.instanceMethod yX0_isIssuedAsSecond ∈ tb := tb_t 189 (by decide +kernel) (by decide +kernel)
theorem ztX0_oneIf : Cond.static yX0_oneIf ∈ tb := tb_t 192 (by decide +kernel) (by decide +kernel)
theorem ziX0_of : Cond.instanceMethod yX0_of ∈ tb := tb_t 195 (by decide +kernel) (by decide +kernel)
theorem ziX0_stage : Cond.instanceMethod yX0_stage ∈ tb := tb_t 199 (by decide +kernel) (by decide +kernel)
theorem ziX0_stageAt : Cond.instanceMethod yX0_stageAt ∈ tb := tb_t 204 (by decide +kernel) (by decide +kernel)
theorem ziX0_many : Cond.instanceMethod yX0_many ∈ tb := tb_t 207 (by decide +kernel) (by decide +kernel)
theorem ziX0_look : Cond.instanceMethod yX0_look ∈ tb := tb_t 211 (by decide +kernel) (by decide +kernel)
theorem ziX0_cyclesWithTwoDone : Cond.instanceMethod yX0_cyclesWithTwoDone ∈ tb := tb_t 216 (by decide +kernel) (by decide +kernel)
theorem ziX0_longestWayBetweenDone : Cond.instanceMethod yX0_longestWayBetweenDone ∈ tb := tb_t 220 (by decide +kernel) (by decide +kernel)
theorem ziX0_groups : Cond.instanceMethod yX0_groups ∈ tb := tb_t 224 (by decide +kernel) (by decide +kernel)
theorem ziX0_pairsIssuedAtOnce : Cond.instanceMethod yX0_pairsIssuedAtOnce ∈ tb := tb_t 228 (by decide +kernel) (by decide +kernel)
theorem ziX0_mostAtWork : Cond.instanceMethod yX0_mostAtWork ∈ tb := tb_t 232 (by decide +kernel) (by decide +kernel)
theorem ziX1_init : Cond.instanceMethod yX1_init ∈ tb := tb_t 237 (by decide +kernel) (by decide +kernel)
theorem ziX1_put : Cond.instanceMethod yX1_put ∈ tb := tb_t 296 (by decide +kernel) (by decide +kernel)
theorem ztX1_isRegister : Cond.static yX1_isRegister ∈ tb := tb_t 300 (by decide +kernel) (by decide +kernel)
theorem ziX1_come : Cond.instanceMethod yX1_come ∈ tb := tb_t 304 (by decide +kernel) (by decide +kernel)
theorem ziX1_branch : Cond.instanceMethod yX1_branch ∈ tb := tb_t 307 (by decide +kernel) (by decide +kernel)
theorem ziX1_fail : Cond.instanceMethod yX1_fail ∈ tb := tb_t 311 (by decide +kernel) (by decide +kernel)
theorem ziX1_drop : Cond.instanceMethod yX1_drop ∈ tb := tb_t 315 (by decide +kernel) (by decide +kernel)
theorem ziX1_clear : Cond.instanceMethod yX1_clear ∈ tb := tb_t 319 (by decide +kernel) (by decide +kernel)
theorem ziX1_again : Cond.instanceMethod yX1_again ∈ tb := tb_t 323 (by decide +kernel) (by decide +kernel)
theorem ziX1_time : Cond.instanceMethod yX1_time ∈ tb := tb_t 327 (by decide +kernel) (by decide +kernel)
theorem ziX1_reckon : Cond.instanceMethod yX1_reckon ∈ tb := tb_t 332 (by decide +kernel) (by decide +kernel)
theorem ziX1_stand : Cond.instanceMethod yX1_stand ∈ tb := tb_t 336 (by decide +kernel) (by decide +kernel)
theorem ziX1_fetch : Cond.instanceMethod yX1_fetch ∈ tb := tb_t 340 (by decide +kernel) (by decide +kernel)
theorem ziX1_joins : Cond.instanceMethod yX1_joins ∈ tb := tb_t 344 (by decide +kernel) (by decide +kernel)
theorem ztX1_later : Cond.static yX1_later ∈ tb := tb_t 347 (by decide +kernel) (by decide +kernel)
theorem ziX1_ready : Cond.instanceMethod yX1_ready ∈ tb := tb_t 351 (by decide +kernel) (by decide +kernel)
theorem ztX1_delay : Cond.static yX1_delay ∈ tb := tb_t 354 (by decide +kernel) (by decide +kernel)
theorem ziX1_pairs : Cond.instanceMethod yX1_pairs ∈ tb := tb_t 358 (by decide +kernel) (by decide +kernel)
theorem ztX1_isMemory : Cond.static yX1_isMemory ∈ tb := tb_t 361 (by decide +kernel) (by decide +kernel)
theorem ztX1_isSlow : Cond.static yX1_isSlow ∈ tb := tb_t 364 (by decide +kernel) (by decide +kernel)
theorem ziX1_of : Cond.instanceMethod yX1_of ∈ tb := tb_t 367 (by decide +kernel) (by decide +kernel)
theorem ziX1_stage : Cond.instanceMethod yX1_stage ∈ tb := tb_t 371 (by decide +kernel) (by decide +kernel)
theorem ziX1_stageOf : Cond.instanceMethod yX1_stageOf ∈ tb := tb_t 376 (by decide +kernel) (by decide +kernel)
theorem ziX1_many : Cond.instanceMethod yX1_many ∈ tb := tb_t 379 (by decide +kernel) (by decide +kernel)
theorem ziX1_inStage : Cond.instanceMethod yX1_inStage ∈ tb := tb_t 384 (by decide +kernel) (by decide +kernel)
theorem ziX1_look : Cond.instanceMethod yX1_look ∈ tb := tb_t 387 (by decide +kernel) (by decide +kernel)
theorem ziX1_counted : Cond.instanceMethod yX1_counted ∈ tb := tb_t 392 (by decide +kernel) (by decide +kernel)
theorem ziX1_longest : Cond.instanceMethod yX1_longest ∈ tb := tb_t 396 (by decide +kernel) (by decide +kernel)
theorem ziX1_busiest : Cond.instanceMethod yX1_busiest ∈ tb := tb_t 400 (by decide +kernel) (by decide +kernel)
theorem zkX0_init : Cond.code yX0_init cX0_init 1 none ∈ tb := tb_t 8 (by decide +kernel) (by decide +kernel)
theorem zkX0_put : Cond.code yX0_put cX0_put 5 (some .int) ∈ tb := tb_t 60 (by decide +kernel) (by decide +kernel)
theorem zkX0_isRegister : Cond.code yX0_isRegister cX0_isRegister 1 (some .boolean) ∈ tb := tb_t 63 (by decide +kernel) (by decide +kernel)
theorem zkX0_append : Cond.code yX0_append cX0_append 8 (some .int) ∈ tb := tb_t 67 (by decide +kernel) (by decide +kernel)
theorem zkX0_settle : Cond.code yX0_settle cX0_settle 2 none ∈ tb := tb_t 71 (by decide +kernel) (by decide +kernel)
theorem zkX0_joinsGroup : Cond.code yX0_joinsGroup cX0_joinsGroup 3 (some .boolean) ∈ tb := tb_t 75 (by decide +kernel) (by decide +kernel)
theorem zkX0_isBehindSlot : Cond.code yX0_isBehindSlot cX0_isBehindSlot 2 (some .boolean) ∈ tb := tb_t 79 (by decide +kernel) (by decide +kernel)
theorem zkX0_liesBehind : Cond.code yX0_liesBehind cX0_liesBehind 2 (some .boolean) ∈ tb := tb_t 83 (by decide +kernel) (by decide +kernel)
theorem zkX0_isRedirected : Cond.code yX0_isRedirected cX0_isRedirected 2 (some .boolean) ∈ tb := tb_t 87 (by decide +kernel) (by decide +kernel)
theorem zkX0_isBehindFailingOrSingle : Cond.code yX0_isBehindFailingOrSingle cX0_isBehindFailingOrSingle 2 (some .boolean) ∈ tb := tb_t 91 (by decide +kernel) (by decide +kernel)
theorem zkX0_isBehindSlotOfMissedBranch : Cond.code yX0_isBehindSlotOfMissedBranch cX0_isBehindSlotOfMissedBranch 2 (some .boolean) ∈ tb := tb_t 95 (by decide +kernel) (by decide +kernel)
theorem zkX0_isMissed : Cond.code yX0_isMissed cX0_isMissed 2 (some .boolean) ∈ tb := tb_t 99 (by decide +kernel) (by decide +kernel)
theorem zkX0_leastFetchTime : Cond.code yX0_leastFetchTime cX0_leastFetchTime 3 (some .int) ∈ tb := tb_t 103 (by decide +kernel) (by decide +kernel)
theorem zkX0_leastIssueTime : Cond.code yX0_leastIssueTime cX0_leastIssueTime 3 (some .int) ∈ tb := tb_t 110 (by decide +kernel) (by decide +kernel)
theorem zkX0_leastInOrder : Cond.code yX0_leastInOrder cX0_leastInOrder 3 (some .int) ∈ tb := tb_t 114 (by decide +kernel) (by decide +kernel)
theorem zkX0_makesPair : Cond.code yX0_makesPair cX0_makesPair 4 (some .boolean) ∈ tb := tb_t 118 (by decide +kernel) (by decide +kernel)
theorem zkX0_usesMemory : Cond.code yX0_usesMemory cX0_usesMemory 1 (some .boolean) ∈ tb := tb_t 121 (by decide +kernel) (by decide +kernel)
theorem zkX0_usesMultiplier : Cond.code yX0_usesMultiplier cX0_usesMultiplier 1 (some .boolean) ∈ tb := tb_t 124 (by decide +kernel) (by decide +kernel)
theorem zkX0_reads : Cond.code yX0_reads cX0_reads 3 (some .boolean) ∈ tb := tb_t 128 (by decide +kernel) (by decide +kernel)
theorem zkX0_whenReadable : Cond.code yX0_whenReadable cX0_whenReadable 4 (some .int) ∈ tb := tb_t 132 (by decide +kernel) (by decide +kernel)
theorem zkX0_delayOf : Cond.code yX0_delayOf cX0_delayOf 1 (some .int) ∈ tb := tb_t 135 (by decide +kernel) (by decide +kernel)
theorem zkX0_whenDividerIsFree : Cond.code yX0_whenDividerIsFree cX0_whenDividerIsFree 3 (some .int) ∈ tb := tb_t 139 (by decide +kernel) (by decide +kernel)
theorem zkX0_doneBefore : Cond.code yX0_doneBefore cX0_doneBefore 2 (some .int) ∈ tb := tb_t 143 (by decide +kernel) (by decide +kernel)
theorem zkX0_leastDoneTime : Cond.code yX0_leastDoneTime cX0_leastDoneTime 3 (some .int) ∈ tb := tb_t 147 (by decide +kernel) (by decide +kernel)
theorem zkX0_workOf : Cond.code yX0_workOf cX0_workOf 1 (some .int) ∈ tb := tb_t 150 (by decide +kernel) (by decide +kernel)
theorem zkX0_branch : Cond.code yX0_branch cX0_branch 5 (some .int) ∈ tb := tb_t 154 (by decide +kernel) (by decide +kernel)
theorem zkX0_fail : Cond.code yX0_fail cX0_fail 1 (some .boolean) ∈ tb := tb_t 158 (by decide +kernel) (by decide +kernel)
theorem zkX0_failLast : Cond.code yX0_failLast cX0_failLast 2 none ∈ tb := tb_t 162 (by decide +kernel) (by decide +kernel)
theorem zkX0_drop : Cond.code yX0_drop cX0_drop 2 (some .boolean) ∈ tb := tb_t 166 (by decide +kernel) (by decide +kernel)
theorem zkX0_clear : Cond.code yX0_clear cX0_clear 1 none ∈ tb := tb_t 170 (by decide +kernel) (by decide +kernel)
theorem zkX0_again : Cond.code yX0_again cX0_again 4 (some .int) ∈ tb := tb_t 174 (by decide +kernel) (by decide +kernel)
theorem zkX0_isInstruction : Cond.code yX0_isInstruction cX0_isInstruction 2 (some .boolean) ∈ tb := tb_t 178 (by decide +kernel) (by decide +kernel)
theorem zkX0_time : Cond.code yX0_time cX0_time 3 (some .int) ∈ tb := tb_t 182 (by decide +kernel) (by decide +kernel)
theorem zkX0_groupSize : Cond.code yX0_groupSize cX0_groupSize 2 (some .int) ∈ tb := tb_t 186 (by decide +kernel) (by decide +kernel)
theorem zkX0_isIssuedAsSecond : Cond.code yX0_isIssuedAsSecond cX0_isIssuedAsSecond 2 (some .boolean) ∈ tb := tb_t 190 (by decide +kernel) (by decide +kernel)
theorem zkX0_oneIf : Cond.code yX0_oneIf cX0_oneIf 1 (some .int) ∈ tb := tb_t 193 (by decide +kernel) (by decide +kernel)
theorem zkX0_of : Cond.code yX0_of cX0_of 3 (some .int) ∈ tb := tb_t 197 (by decide +kernel) (by decide +kernel)
theorem zkX0_stage : Cond.code yX0_stage cX0_stage 3 (some .int) ∈ tb := tb_t 201 (by decide +kernel) (by decide +kernel)
theorem zkX0_stageAt : Cond.code yX0_stageAt cX0_stageAt 3 (some .int) ∈ tb := tb_t 205 (by decide +kernel) (by decide +kernel)
theorem zkX0_many : Cond.code yX0_many cX0_many 5 (some .int) ∈ tb := tb_t 209 (by decide +kernel) (by decide +kernel)
theorem zkX0_look : Cond.code yX0_look cX0_look 2 (some .int) ∈ tb := tb_t 213 (by decide +kernel) (by decide +kernel)
theorem zkX0_cyclesWithTwoDone : Cond.code yX0_cyclesWithTwoDone cX0_cyclesWithTwoDone 3 (some .int) ∈ tb := tb_t 217 (by decide +kernel) (by decide +kernel)
theorem zkX0_longestWayBetweenDone : Cond.code yX0_longestWayBetweenDone cX0_longestWayBetweenDone 3 (some .int) ∈ tb := tb_t 221 (by decide +kernel) (by decide +kernel)
theorem zkX0_groups : Cond.code yX0_groups cX0_groups 3 (some .int) ∈ tb := tb_t 225 (by decide +kernel) (by decide +kernel)
theorem zkX0_pairsIssuedAtOnce : Cond.code yX0_pairsIssuedAtOnce cX0_pairsIssuedAtOnce 3 (some .int) ∈ tb := tb_t 229 (by decide +kernel) (by decide +kernel)
theorem zkX0_mostAtWork : Cond.code yX0_mostAtWork cX0_mostAtWork 4 (some .int) ∈ tb := tb_t 233 (by decide +kernel) (by decide +kernel)
theorem zkX1_init : Cond.code yX1_init cX1_init 1 none ∈ tb := tb_t 238 (by decide +kernel) (by decide +kernel)
theorem zkX1_put : Cond.code yX1_put cX1_put 5 (some .int) ∈ tb := tb_t 298 (by decide +kernel) (by decide +kernel)
theorem zkX1_isRegister : Cond.code yX1_isRegister cX1_isRegister 1 (some .boolean) ∈ tb := tb_t 301 (by decide +kernel) (by decide +kernel)
theorem zkX1_come : Cond.code yX1_come cX1_come 7 (some .int) ∈ tb := tb_t 305 (by decide +kernel) (by decide +kernel)
theorem zkX1_branch : Cond.code yX1_branch cX1_branch 5 (some .int) ∈ tb := tb_t 309 (by decide +kernel) (by decide +kernel)
theorem zkX1_fail : Cond.code yX1_fail cX1_fail 1 (some .boolean) ∈ tb := tb_t 313 (by decide +kernel) (by decide +kernel)
theorem zkX1_drop : Cond.code yX1_drop cX1_drop 2 (some .boolean) ∈ tb := tb_t 317 (by decide +kernel) (by decide +kernel)
theorem zkX1_clear : Cond.code yX1_clear cX1_clear 1 none ∈ tb := tb_t 321 (by decide +kernel) (by decide +kernel)
theorem zkX1_again : Cond.code yX1_again cX1_again 5 (some .int) ∈ tb := tb_t 325 (by decide +kernel) (by decide +kernel)
theorem zkX1_time : Cond.code yX1_time cX1_time 3 (some .int) ∈ tb := tb_t 329 (by decide +kernel) (by decide +kernel)
theorem zkX1_reckon : Cond.code yX1_reckon cX1_reckon 5 none ∈ tb := tb_t 333 (by decide +kernel) (by decide +kernel)
theorem zkX1_stand : Cond.code yX1_stand cX1_stand 5 none ∈ tb := tb_t 337 (by decide +kernel) (by decide +kernel)
theorem zkX1_fetch : Cond.code yX1_fetch cX1_fetch 2 none ∈ tb := tb_t 341 (by decide +kernel) (by decide +kernel)
theorem zkX1_joins : Cond.code yX1_joins cX1_joins 2 (some .boolean) ∈ tb := tb_t 345 (by decide +kernel) (by decide +kernel)
theorem zkX1_later : Cond.code yX1_later cX1_later 2 (some .int) ∈ tb := tb_t 348 (by decide +kernel) (by decide +kernel)
theorem zkX1_ready : Cond.code yX1_ready cX1_ready 2 (some .int) ∈ tb := tb_t 352 (by decide +kernel) (by decide +kernel)
theorem zkX1_delay : Cond.code yX1_delay cX1_delay 1 (some .int) ∈ tb := tb_t 355 (by decide +kernel) (by decide +kernel)
theorem zkX1_pairs : Cond.code yX1_pairs cX1_pairs 5 (some .boolean) ∈ tb := tb_t 359 (by decide +kernel) (by decide +kernel)
theorem zkX1_isMemory : Cond.code yX1_isMemory cX1_isMemory 1 (some .boolean) ∈ tb := tb_t 362 (by decide +kernel) (by decide +kernel)
theorem zkX1_isSlow : Cond.code yX1_isSlow cX1_isSlow 1 (some .boolean) ∈ tb := tb_t 365 (by decide +kernel) (by decide +kernel)
theorem zkX1_of : Cond.code yX1_of cX1_of 3 (some .int) ∈ tb := tb_t 369 (by decide +kernel) (by decide +kernel)
theorem zkX1_stage : Cond.code yX1_stage cX1_stage 3 (some .int) ∈ tb := tb_t 373 (by decide +kernel) (by decide +kernel)
theorem zkX1_stageOf : Cond.code yX1_stageOf cX1_stageOf 3 (some .int) ∈ tb := tb_t 377 (by decide +kernel) (by decide +kernel)
theorem zkX1_many : Cond.code yX1_many cX1_many 3 (some .int) ∈ tb := tb_t 381 (by decide +kernel) (by decide +kernel)
theorem zkX1_inStage : Cond.code yX1_inStage cX1_inStage 5 (some .int) ∈ tb := tb_t 385 (by decide +kernel) (by decide +kernel)
theorem zkX1_look : Cond.code yX1_look cX1_look 2 (some .int) ∈ tb := tb_t 389 (by decide +kernel) (by decide +kernel)
theorem zkX1_counted : Cond.code yX1_counted cX1_counted 7 (some .int) ∈ tb := tb_t 393 (by decide +kernel) (by decide +kernel)
theorem zkX1_longest : Cond.code yX1_longest cX1_longest 4 (some .int) ∈ tb := tb_t 397 (by decide +kernel) (by decide +kernel)
theorem zkX1_busiest : Cond.code yX1_busiest cX1_busiest 5 (some .int) ∈ tb := tb_t 401 (by decide +kernel) (by decide +kernel)
theorem zsX0_append : Cond.selects RX0 yX0_append yX0_append ∈ tb := tb_s 0 (by decide +kernel) (by decide +kernel)
theorem zsX0_settle : Cond.selects RX0 yX0_settle yX0_settle ∈ tb := tb_s 1 (by decide +kernel) (by decide +kernel)
theorem zsX0_joinsGroup : Cond.selects RX0 yX0_joinsGroup yX0_joinsGroup ∈ tb := tb_s 2 (by decide +kernel) (by decide +kernel)
theorem zsX0_isBehindSlot : Cond.selects RX0 yX0_isBehindSlot yX0_isBehindSlot ∈ tb := tb_s 3 (by decide +kernel) (by decide +kernel)
theorem zsX0_liesBehind : Cond.selects RX0 yX0_liesBehind yX0_liesBehind ∈ tb := tb_s 4 (by decide +kernel) (by decide +kernel)
theorem zsX0_isRedirected : Cond.selects RX0 yX0_isRedirected yX0_isRedirected ∈ tb := tb_s 5 (by decide +kernel) (by decide +kernel)
theorem zsX0_isBehindFailingOrSingle : Cond.selects RX0 yX0_isBehindFailingOrSingle yX0_isBehindFailingOrSingle ∈ tb := tb_s 6 (by decide +kernel) (by decide +kernel)
theorem zsX0_isBehindSlotOfMissedBranch : Cond.selects RX0 yX0_isBehindSlotOfMissedBranch yX0_isBehindSlotOfMissedBranch ∈ tb := tb_s 7 (by decide +kernel) (by decide +kernel)
theorem zsX0_isMissed : Cond.selects RX0 yX0_isMissed yX0_isMissed ∈ tb := tb_s 8 (by decide +kernel) (by decide +kernel)
theorem zsX0_leastFetchTime : Cond.selects RX0 yX0_leastFetchTime yX0_leastFetchTime ∈ tb := tb_s 9 (by decide +kernel) (by decide +kernel)
theorem zsX0_leastIssueTime : Cond.selects RX0 yX0_leastIssueTime yX0_leastIssueTime ∈ tb := tb_s 10 (by decide +kernel) (by decide +kernel)
theorem zsX0_leastInOrder : Cond.selects RX0 yX0_leastInOrder yX0_leastInOrder ∈ tb := tb_s 11 (by decide +kernel) (by decide +kernel)
theorem zsX0_makesPair : Cond.selects RX0 yX0_makesPair yX0_makesPair ∈ tb := tb_s 12 (by decide +kernel) (by decide +kernel)
theorem zsX0_reads : Cond.selects RX0 yX0_reads yX0_reads ∈ tb := tb_s 13 (by decide +kernel) (by decide +kernel)
theorem zsX0_whenReadable : Cond.selects RX0 yX0_whenReadable yX0_whenReadable ∈ tb := tb_s 14 (by decide +kernel) (by decide +kernel)
theorem zsX0_whenDividerIsFree : Cond.selects RX0 yX0_whenDividerIsFree yX0_whenDividerIsFree ∈ tb := tb_s 15 (by decide +kernel) (by decide +kernel)
theorem zsX0_doneBefore : Cond.selects RX0 yX0_doneBefore yX0_doneBefore ∈ tb := tb_s 16 (by decide +kernel) (by decide +kernel)
theorem zsX0_leastDoneTime : Cond.selects RX0 yX0_leastDoneTime yX0_leastDoneTime ∈ tb := tb_s 17 (by decide +kernel) (by decide +kernel)
theorem zsX0_failLast : Cond.selects RX0 yX0_failLast yX0_failLast ∈ tb := tb_s 18 (by decide +kernel) (by decide +kernel)
theorem zsX0_isInstruction : Cond.selects RX0 yX0_isInstruction yX0_isInstruction ∈ tb := tb_s 19 (by decide +kernel) (by decide +kernel)
theorem zsX0_groupSize : Cond.selects RX0 yX0_groupSize yX0_groupSize ∈ tb := tb_s 20 (by decide +kernel) (by decide +kernel)
theorem zsX0_isIssuedAsSecond : Cond.selects RX0 yX0_isIssuedAsSecond yX0_isIssuedAsSecond ∈ tb := tb_s 21 (by decide +kernel) (by decide +kernel)
theorem zsX0_stageAt : Cond.selects RX0 yX0_stageAt yX0_stageAt ∈ tb := tb_s 22 (by decide +kernel) (by decide +kernel)
theorem zsX0_cyclesWithTwoDone : Cond.selects RX0 yX0_cyclesWithTwoDone yX0_cyclesWithTwoDone ∈ tb := tb_s 23 (by decide +kernel) (by decide +kernel)
theorem zsX0_longestWayBetweenDone : Cond.selects RX0 yX0_longestWayBetweenDone yX0_longestWayBetweenDone ∈ tb := tb_s 24 (by decide +kernel) (by decide +kernel)
theorem zsX0_groups : Cond.selects RX0 yX0_groups yX0_groups ∈ tb := tb_s 25 (by decide +kernel) (by decide +kernel)
theorem zsX0_pairsIssuedAtOnce : Cond.selects RX0 yX0_pairsIssuedAtOnce yX0_pairsIssuedAtOnce ∈ tb := tb_s 26 (by decide +kernel) (by decide +kernel)
theorem zsX0_mostAtWork : Cond.selects RX0 yX0_mostAtWork yX0_mostAtWork ∈ tb := tb_s 27 (by decide +kernel) (by decide +kernel)
theorem zsX1_come : Cond.selects RX1 yX1_come yX1_come ∈ tb := tb_s 28 (by decide +kernel) (by decide +kernel)
theorem zsX1_reckon : Cond.selects RX1 yX1_reckon yX1_reckon ∈ tb := tb_s 29 (by decide +kernel) (by decide +kernel)
theorem zsX1_stand : Cond.selects RX1 yX1_stand yX1_stand ∈ tb := tb_s 30 (by decide +kernel) (by decide +kernel)
theorem zsX1_fetch : Cond.selects RX1 yX1_fetch yX1_fetch ∈ tb := tb_s 31 (by decide +kernel) (by decide +kernel)
theorem zsX1_joins : Cond.selects RX1 yX1_joins yX1_joins ∈ tb := tb_s 32 (by decide +kernel) (by decide +kernel)
theorem zsX1_ready : Cond.selects RX1 yX1_ready yX1_ready ∈ tb := tb_s 33 (by decide +kernel) (by decide +kernel)
theorem zsX1_pairs : Cond.selects RX1 yX1_pairs yX1_pairs ∈ tb := tb_s 34 (by decide +kernel) (by decide +kernel)
theorem zsX1_stageOf : Cond.selects RX1 yX1_stageOf yX1_stageOf ∈ tb := tb_s 35 (by decide +kernel) (by decide +kernel)
theorem zsX1_inStage : Cond.selects RX1 yX1_inStage yX1_inStage ∈ tb := tb_s 36 (by decide +kernel) (by decide +kernel)
theorem zsX1_counted : Cond.selects RX1 yX1_counted yX1_counted ∈ tb := tb_s 37 (by decide +kernel) (by decide +kernel)
theorem zsX1_longest : Cond.selects RX1 yX1_longest yX1_longest ∈ tb := tb_s 38 (by decide +kernel) (by decide +kernel)
theorem zsX1_busiest : Cond.selects RX1 yX1_busiest yX1_busiest ∈ tb := tb_s 39 (by decide +kernel) (by decide +kernel)
theorem zsX0_put : Cond.selects RX0 yX0_put yX0_put ∈ tb := tb_t 59 (by decide +kernel) (by decide +kernel)
theorem zsX0_branch : Cond.selects RX0 yX0_branch yX0_branch ∈ tb := tb_t 153 (by decide +kernel) (by decide +kernel)
theorem zsX0_fail : Cond.selects RX0 yX0_fail yX0_fail ∈ tb := tb_t 157 (by decide +kernel) (by decide +kernel)
theorem zsX0_drop : Cond.selects RX0 yX0_drop yX0_drop ∈ tb := tb_t 165 (by decide +kernel) (by decide +kernel)
theorem zsX0_clear : Cond.selects RX0 yX0_clear yX0_clear ∈ tb := tb_t 169 (by decide +kernel) (by decide +kernel)
theorem zsX0_again : Cond.selects RX0 yX0_again yX0_again ∈ tb := tb_t 173 (by decide +kernel) (by decide +kernel)
theorem zsX0_time : Cond.selects RX0 yX0_time yX0_time ∈ tb := tb_t 181 (by decide +kernel) (by decide +kernel)
theorem zsX0_of : Cond.selects RX0 yX0_of yX0_of ∈ tb := tb_t 196 (by decide +kernel) (by decide +kernel)
theorem zsX0_stage : Cond.selects RX0 yX0_stage yX0_stage ∈ tb := tb_t 200 (by decide +kernel) (by decide +kernel)
theorem zsX0_many : Cond.selects RX0 yX0_many yX0_many ∈ tb := tb_t 208 (by decide +kernel) (by decide +kernel)
theorem zsX0_look : Cond.selects RX0 yX0_look yX0_look ∈ tb := tb_t 212 (by decide +kernel) (by decide +kernel)
theorem zsX1_put : Cond.selects RX1 yX1_put yX1_put ∈ tb := tb_t 297 (by decide +kernel) (by decide +kernel)
theorem zsX1_branch : Cond.selects RX1 yX1_branch yX1_branch ∈ tb := tb_t 308 (by decide +kernel) (by decide +kernel)
theorem zsX1_fail : Cond.selects RX1 yX1_fail yX1_fail ∈ tb := tb_t 312 (by decide +kernel) (by decide +kernel)
theorem zsX1_drop : Cond.selects RX1 yX1_drop yX1_drop ∈ tb := tb_t 316 (by decide +kernel) (by decide +kernel)
theorem zsX1_clear : Cond.selects RX1 yX1_clear yX1_clear ∈ tb := tb_t 320 (by decide +kernel) (by decide +kernel)
theorem zsX1_again : Cond.selects RX1 yX1_again yX1_again ∈ tb := tb_t 324 (by decide +kernel) (by decide +kernel)
theorem zsX1_time : Cond.selects RX1 yX1_time yX1_time ∈ tb := tb_t 328 (by decide +kernel) (by decide +kernel)
theorem zsX1_of : Cond.selects RX1 yX1_of yX1_of ∈ tb := tb_t 368 (by decide +kernel) (by decide +kernel)
theorem zsX1_stage : Cond.selects RX1 yX1_stage yX1_stage ∈ tb := tb_t 372 (by decide +kernel) (by decide +kernel)
theorem zsX1_many : Cond.selects RX1 yX1_many yX1_many ∈ tb := tb_t 380 (by decide +kernel) (by decide +kernel)
theorem zsX1_look : Cond.selects RX1 yX1_look yX1_look ∈ tb := tb_t 388 (by decide +kernel) (by decide +kernel)
theorem znL : Cond.initialized RL ∈ tb := tb_t 0 (by decide +kernel) (by decide +kernel)
theorem znX0 : Cond.initialized RX0 ∈ tb := tb_t 1 (by decide +kernel) (by decide +kernel)
theorem znX1 : Cond.initialized RX1 ∈ tb := tb_t 2 (by decide +kernel) (by decide +kernel)
theorem ia_max2 : Cond.initialized "java/lang/Math" ∈ tb := tb_t 3 (by decide +kernel) (by decide +kernel)
theorem zcl_7 : Cond.classLink RL 7 RX0 ∈ tb := tb_t 4 (by decide +kernel) (by decide +kernel)
theorem zinX0 : Cond.instantiable RX0 14 ∈ tb := tb_t 5 (by decide +kernel) (by decide +kernel)
theorem zmL_9 : Cond.methodLink RL 9 yX0_init ∈ tb := tb_t 6 (by decide +kernel) (by decide +kernel)
theorem zmX0_1 : Cond.methodLink RX0 1 objectInit ∈ tb := tb_t 9 (by decide +kernel) (by decide +kernel)
theorem zl_oi2 : Cond.instanceMethod objectInit ∈ tb := tb_t 10 (by decide +kernel) (by decide +kernel)
theorem zl_oi3 : Cond.code objectInit ⟨#[0xb1]⟩ 1 none ∈ tb := tb_t 11 (by decide +kernel) (by decide +kernel)
theorem za_I : Cond.arrayClass .int ∈ tb := tb_t 55 (by decide +kernel) (by decide +kernel)
theorem za_Z : Cond.arrayClass .boolean ∈ tb := tb_t 56 (by decide +kernel) (by decide +kernel)
theorem zmL_13 : Cond.methodLink RL 13 yX0_put ∈ tb := tb_t 57 (by decide +kernel) (by decide +kernel)
theorem zmX0_54 : Cond.methodLink RX0 54 yX0_isRegister ∈ tb := tb_t 61 (by decide +kernel) (by decide +kernel)
theorem zmX0_58 : Cond.methodLink RX0 58 yX0_append ∈ tb := tb_t 64 (by decide +kernel) (by decide +kernel)
theorem zmX0_108 : Cond.methodLink RX0 108 yX0_settle ∈ tb := tb_t 68 (by decide +kernel) (by decide +kernel)
theorem zmX0_112 : Cond.methodLink RX0 112 yX0_joinsGroup ∈ tb := tb_t 72 (by decide +kernel) (by decide +kernel)
theorem zmX0_124 : Cond.methodLink RX0 124 yX0_isBehindSlot ∈ tb := tb_t 76 (by decide +kernel) (by decide +kernel)
theorem zmX0_82 : Cond.methodLink RX0 82 yX0_liesBehind ∈ tb := tb_t 80 (by decide +kernel) (by decide +kernel)
theorem zmX0_79 : Cond.methodLink RX0 79 yX0_isRedirected ∈ tb := tb_t 84 (by decide +kernel) (by decide +kernel)
theorem zmX0_127 : Cond.methodLink RX0 127 yX0_isBehindFailingOrSingle ∈ tb := tb_t 88 (by decide +kernel) (by decide +kernel)
theorem zmX0_130 : Cond.methodLink RX0 130 yX0_isBehindSlotOfMissedBranch ∈ tb := tb_t 92 (by decide +kernel) (by decide +kernel)
theorem zmX0_133 : Cond.methodLink RX0 133 yX0_isMissed ∈ tb := tb_t 96 (by decide +kernel) (by decide +kernel)
theorem zmX0_115 : Cond.methodLink RX0 115 yX0_leastFetchTime ∈ tb := tb_t 100 (by decide +kernel) (by decide +kernel)
theorem zmX0_136 : Cond.methodLink RX0 136 Lib.Math.max.name ∈ tb := tb_t 104 (by decide +kernel) (by decide +kernel)
theorem ia_max1 : Cond.static Lib.Math.max.name ∈ tb := tb_t 105 (by decide +kernel) (by decide +kernel)
theorem ia_max3 : Cond.code Lib.Math.max.name Lib.Math.max.code 2 (some .int) ∈ tb := tb_t 106 (by decide +kernel) (by decide +kernel)
theorem zmX0_118 : Cond.methodLink RX0 118 yX0_leastIssueTime ∈ tb := tb_t 107 (by decide +kernel) (by decide +kernel)
theorem zmX0_141 : Cond.methodLink RX0 141 yX0_leastInOrder ∈ tb := tb_t 111 (by decide +kernel) (by decide +kernel)
theorem zmX0_150 : Cond.methodLink RX0 150 yX0_makesPair ∈ tb := tb_t 115 (by decide +kernel) (by decide +kernel)
theorem zmX0_153 : Cond.methodLink RX0 153 yX0_usesMemory ∈ tb := tb_t 119 (by decide +kernel) (by decide +kernel)
theorem zmX0_156 : Cond.methodLink RX0 156 yX0_usesMultiplier ∈ tb := tb_t 122 (by decide +kernel) (by decide +kernel)
theorem zmX0_159 : Cond.methodLink RX0 159 yX0_reads ∈ tb := tb_t 125 (by decide +kernel) (by decide +kernel)
theorem zmX0_144 : Cond.methodLink RX0 144 yX0_whenReadable ∈ tb := tb_t 129 (by decide +kernel) (by decide +kernel)
theorem zmX0_163 : Cond.methodLink RX0 163 yX0_delayOf ∈ tb := tb_t 133 (by decide +kernel) (by decide +kernel)
theorem zmX0_147 : Cond.methodLink RX0 147 yX0_whenDividerIsFree ∈ tb := tb_t 136 (by decide +kernel) (by decide +kernel)
theorem zmX0_89 : Cond.methodLink RX0 89 yX0_doneBefore ∈ tb := tb_t 140 (by decide +kernel) (by decide +kernel)
theorem zmX0_121 : Cond.methodLink RX0 121 yX0_leastDoneTime ∈ tb := tb_t 144 (by decide +kernel) (by decide +kernel)
theorem zmX0_166 : Cond.methodLink RX0 166 yX0_workOf ∈ tb := tb_t 148 (by decide +kernel) (by decide +kernel)
theorem zmL_18 : Cond.methodLink RL 18 yX0_branch ∈ tb := tb_t 151 (by decide +kernel) (by decide +kernel)
theorem zmL_23 : Cond.methodLink RL 23 yX0_fail ∈ tb := tb_t 155 (by decide +kernel) (by decide +kernel)
theorem zmX0_62 : Cond.methodLink RX0 62 yX0_failLast ∈ tb := tb_t 159 (by decide +kernel) (by decide +kernel)
theorem zmL_28 : Cond.methodLink RL 28 yX0_drop ∈ tb := tb_t 163 (by decide +kernel) (by decide +kernel)
theorem zmL_33 : Cond.methodLink RL 33 yX0_clear ∈ tb := tb_t 167 (by decide +kernel) (by decide +kernel)
theorem zmL_37 : Cond.methodLink RL 37 yX0_again ∈ tb := tb_t 171 (by decide +kernel) (by decide +kernel)
theorem zmX0_65 : Cond.methodLink RX0 65 yX0_isInstruction ∈ tb := tb_t 175 (by decide +kernel) (by decide +kernel)
theorem zmL_42 : Cond.methodLink RL 42 yX0_time ∈ tb := tb_t 179 (by decide +kernel) (by decide +kernel)
theorem zmX0_68 : Cond.methodLink RX0 68 yX0_groupSize ∈ tb := tb_t 183 (by decide +kernel) (by decide +kernel)
theorem zmX0_72 : Cond.methodLink RX0 72 yX0_isIssuedAsSecond ∈ tb := tb_t 187 (by decide +kernel) (by decide +kernel)
theorem zmX0_75 : Cond.methodLink RX0 75 yX0_oneIf ∈ tb := tb_t 191 (by decide +kernel) (by decide +kernel)
theorem zmL_46 : Cond.methodLink RL 46 yX0_of ∈ tb := tb_t 194 (by decide +kernel) (by decide +kernel)
theorem zmL_50 : Cond.methodLink RL 50 yX0_stage ∈ tb := tb_t 198 (by decide +kernel) (by decide +kernel)
theorem zmX0_85 : Cond.methodLink RX0 85 yX0_stageAt ∈ tb := tb_t 202 (by decide +kernel) (by decide +kernel)
theorem zmL_54 : Cond.methodLink RL 54 yX0_many ∈ tb := tb_t 206 (by decide +kernel) (by decide +kernel)
theorem zmL_58 : Cond.methodLink RL 58 yX0_look ∈ tb := tb_t 210 (by decide +kernel) (by decide +kernel)
theorem zmX0_92 : Cond.methodLink RX0 92 yX0_cyclesWithTwoDone ∈ tb := tb_t 214 (by decide +kernel) (by decide +kernel)
theorem zmX0_96 : Cond.methodLink RX0 96 yX0_longestWayBetweenDone ∈ tb := tb_t 218 (by decide +kernel) (by decide +kernel)
theorem zmX0_99 : Cond.methodLink RX0 99 yX0_groups ∈ tb := tb_t 222 (by decide +kernel) (by decide +kernel)
theorem zmX0_102 : Cond.methodLink RX0 102 yX0_pairsIssuedAtOnce ∈ tb := tb_t 226 (by decide +kernel) (by decide +kernel)
theorem zmX0_105 : Cond.methodLink RX0 105 yX0_mostAtWork ∈ tb := tb_t 230 (by decide +kernel) (by decide +kernel)
theorem zcl_10 : Cond.classLink RL 10 RX1 ∈ tb := tb_t 234 (by decide +kernel) (by decide +kernel)
theorem zinX1 : Cond.instantiable RX1 18 ∈ tb := tb_t 235 (by decide +kernel) (by decide +kernel)
theorem zmL_12 : Cond.methodLink RL 12 yX1_init ∈ tb := tb_t 236 (by decide +kernel) (by decide +kernel)
theorem zmX1_1 : Cond.methodLink RX1 1 objectInit ∈ tb := tb_t 239 (by decide +kernel) (by decide +kernel)
theorem zmL_17 : Cond.methodLink RL 17 yX1_put ∈ tb := tb_t 295 (by decide +kernel) (by decide +kernel)
theorem zmX1_66 : Cond.methodLink RX1 66 yX1_isRegister ∈ tb := tb_t 299 (by decide +kernel) (by decide +kernel)
theorem zmX1_70 : Cond.methodLink RX1 70 yX1_come ∈ tb := tb_t 302 (by decide +kernel) (by decide +kernel)
theorem zmL_22 : Cond.methodLink RL 22 yX1_branch ∈ tb := tb_t 306 (by decide +kernel) (by decide +kernel)
theorem zmL_27 : Cond.methodLink RL 27 yX1_fail ∈ tb := tb_t 310 (by decide +kernel) (by decide +kernel)
theorem zmL_32 : Cond.methodLink RL 32 yX1_drop ∈ tb := tb_t 314 (by decide +kernel) (by decide +kernel)
theorem zmL_36 : Cond.methodLink RL 36 yX1_clear ∈ tb := tb_t 318 (by decide +kernel) (by decide +kernel)
theorem zmL_41 : Cond.methodLink RL 41 yX1_again ∈ tb := tb_t 322 (by decide +kernel) (by decide +kernel)
theorem zmL_45 : Cond.methodLink RL 45 yX1_time ∈ tb := tb_t 326 (by decide +kernel) (by decide +kernel)
theorem zmX1_104 : Cond.methodLink RX1 104 yX1_reckon ∈ tb := tb_t 330 (by decide +kernel) (by decide +kernel)
theorem zmX1_91 : Cond.methodLink RX1 91 yX1_stand ∈ tb := tb_t 334 (by decide +kernel) (by decide +kernel)
theorem zmX1_95 : Cond.methodLink RX1 95 yX1_fetch ∈ tb := tb_t 338 (by decide +kernel) (by decide +kernel)
theorem zmX1_80 : Cond.methodLink RX1 80 yX1_joins ∈ tb := tb_t 342 (by decide +kernel) (by decide +kernel)
theorem zmX1_83 : Cond.methodLink RX1 83 yX1_later ∈ tb := tb_t 346 (by decide +kernel) (by decide +kernel)
theorem zmX1_98 : Cond.methodLink RX1 98 yX1_ready ∈ tb := tb_t 349 (by decide +kernel) (by decide +kernel)
theorem zmX1_87 : Cond.methodLink RX1 87 yX1_delay ∈ tb := tb_t 353 (by decide +kernel) (by decide +kernel)
theorem zmX1_101 : Cond.methodLink RX1 101 yX1_pairs ∈ tb := tb_t 356 (by decide +kernel) (by decide +kernel)
theorem zmX1_74 : Cond.methodLink RX1 74 yX1_isMemory ∈ tb := tb_t 360 (by decide +kernel) (by decide +kernel)
theorem zmX1_77 : Cond.methodLink RX1 77 yX1_isSlow ∈ tb := tb_t 363 (by decide +kernel) (by decide +kernel)
theorem zmL_49 : Cond.methodLink RL 49 yX1_of ∈ tb := tb_t 366 (by decide +kernel) (by decide +kernel)
theorem zmL_53 : Cond.methodLink RL 53 yX1_stage ∈ tb := tb_t 370 (by decide +kernel) (by decide +kernel)
theorem zmX1_107 : Cond.methodLink RX1 107 yX1_stageOf ∈ tb := tb_t 374 (by decide +kernel) (by decide +kernel)
theorem zmL_57 : Cond.methodLink RL 57 yX1_many ∈ tb := tb_t 378 (by decide +kernel) (by decide +kernel)
theorem zmX1_110 : Cond.methodLink RX1 110 yX1_inStage ∈ tb := tb_t 382 (by decide +kernel) (by decide +kernel)
theorem zmL_62 : Cond.methodLink RL 62 yX1_look ∈ tb := tb_t 386 (by decide +kernel) (by decide +kernel)
theorem zmX1_113 : Cond.methodLink RX1 113 yX1_counted ∈ tb := tb_t 390 (by decide +kernel) (by decide +kernel)
theorem zmX1_116 : Cond.methodLink RX1 116 yX1_longest ∈ tb := tb_t 394 (by decide +kernel) (by decide +kernel)
theorem zmX1_120 : Cond.methodLink RX1 120 yX1_busiest ∈ tb := tb_t 398 (by decide +kernel) (by decide +kernel)
theorem zyX0_put : yX0_put.cls = RX0 ∧ yX0_put.cls ≠ "java/lang/invoke/MethodHandle" ∧ yX0_put.cls ≠ "java/lang/invoke/VarHandle" ∧ (parseMethodDescriptor yX0_put.desc).map (fun d => d.parameters.length) = some 4 := by decide +kernel
theorem zyX0_isRegister : yX0_isRegister.cls = RX0 ∧ yX0_isRegister.cls ≠ "java/lang/invoke/MethodHandle" ∧ yX0_isRegister.cls ≠ "java/lang/invoke/VarHandle" ∧ (parseMethodDescriptor yX0_isRegister.desc).map (fun d => d.parameters.length) = some 1 := by decide +kernel
theorem zyX0_append : yX0_append.cls = RX0 ∧ yX0_append.cls ≠ "java/lang/invoke/MethodHandle" ∧ yX0_append.cls ≠ "java/lang/invoke/VarHandle" ∧ (parseMethodDescriptor yX0_append.desc).map (fun d => d.parameters.length) = some 6 := by decide +kernel
theorem zyX0_settle : yX0_settle.cls = RX0 ∧ yX0_settle.cls ≠ "java/lang/invoke/MethodHandle" ∧ yX0_settle.cls ≠ "java/lang/invoke/VarHandle" ∧ (parseMethodDescriptor yX0_settle.desc).map (fun d => d.parameters.length) = some 1 := by decide +kernel
theorem zyX0_joinsGroup : yX0_joinsGroup.cls = RX0 ∧ yX0_joinsGroup.cls ≠ "java/lang/invoke/MethodHandle" ∧ yX0_joinsGroup.cls ≠ "java/lang/invoke/VarHandle" ∧ (parseMethodDescriptor yX0_joinsGroup.desc).map (fun d => d.parameters.length) = some 1 := by decide +kernel
theorem zyX0_isBehindSlot : yX0_isBehindSlot.cls = RX0 ∧ yX0_isBehindSlot.cls ≠ "java/lang/invoke/MethodHandle" ∧ yX0_isBehindSlot.cls ≠ "java/lang/invoke/VarHandle" ∧ (parseMethodDescriptor yX0_isBehindSlot.desc).map (fun d => d.parameters.length) = some 1 := by decide +kernel
theorem zyX0_liesBehind : yX0_liesBehind.cls = RX0 ∧ yX0_liesBehind.cls ≠ "java/lang/invoke/MethodHandle" ∧ yX0_liesBehind.cls ≠ "java/lang/invoke/VarHandle" ∧ (parseMethodDescriptor yX0_liesBehind.desc).map (fun d => d.parameters.length) = some 1 := by decide +kernel
theorem zyX0_isRedirected : yX0_isRedirected.cls = RX0 ∧ yX0_isRedirected.cls ≠ "java/lang/invoke/MethodHandle" ∧ yX0_isRedirected.cls ≠ "java/lang/invoke/VarHandle" ∧ (parseMethodDescriptor yX0_isRedirected.desc).map (fun d => d.parameters.length) = some 1 := by decide +kernel
theorem zyX0_isBehindFailingOrSingle : yX0_isBehindFailingOrSingle.cls = RX0 ∧ yX0_isBehindFailingOrSingle.cls ≠ "java/lang/invoke/MethodHandle" ∧ yX0_isBehindFailingOrSingle.cls ≠ "java/lang/invoke/VarHandle" ∧ (parseMethodDescriptor yX0_isBehindFailingOrSingle.desc).map (fun d => d.parameters.length) = some 1 := by decide +kernel
theorem zyX0_isBehindSlotOfMissedBranch : yX0_isBehindSlotOfMissedBranch.cls = RX0 ∧ yX0_isBehindSlotOfMissedBranch.cls ≠ "java/lang/invoke/MethodHandle" ∧ yX0_isBehindSlotOfMissedBranch.cls ≠ "java/lang/invoke/VarHandle" ∧ (parseMethodDescriptor yX0_isBehindSlotOfMissedBranch.desc).map (fun d => d.parameters.length) = some 1 := by decide +kernel
theorem zyX0_isMissed : yX0_isMissed.cls = RX0 ∧ yX0_isMissed.cls ≠ "java/lang/invoke/MethodHandle" ∧ yX0_isMissed.cls ≠ "java/lang/invoke/VarHandle" ∧ (parseMethodDescriptor yX0_isMissed.desc).map (fun d => d.parameters.length) = some 1 := by decide +kernel
theorem zyX0_leastFetchTime : yX0_leastFetchTime.cls = RX0 ∧ yX0_leastFetchTime.cls ≠ "java/lang/invoke/MethodHandle" ∧ yX0_leastFetchTime.cls ≠ "java/lang/invoke/VarHandle" ∧ (parseMethodDescriptor yX0_leastFetchTime.desc).map (fun d => d.parameters.length) = some 1 := by decide +kernel
theorem zyX0_leastIssueTime : yX0_leastIssueTime.cls = RX0 ∧ yX0_leastIssueTime.cls ≠ "java/lang/invoke/MethodHandle" ∧ yX0_leastIssueTime.cls ≠ "java/lang/invoke/VarHandle" ∧ (parseMethodDescriptor yX0_leastIssueTime.desc).map (fun d => d.parameters.length) = some 1 := by decide +kernel
theorem zyX0_leastInOrder : yX0_leastInOrder.cls = RX0 ∧ yX0_leastInOrder.cls ≠ "java/lang/invoke/MethodHandle" ∧ yX0_leastInOrder.cls ≠ "java/lang/invoke/VarHandle" ∧ (parseMethodDescriptor yX0_leastInOrder.desc).map (fun d => d.parameters.length) = some 1 := by decide +kernel
theorem zyX0_makesPair : yX0_makesPair.cls = RX0 ∧ yX0_makesPair.cls ≠ "java/lang/invoke/MethodHandle" ∧ yX0_makesPair.cls ≠ "java/lang/invoke/VarHandle" ∧ (parseMethodDescriptor yX0_makesPair.desc).map (fun d => d.parameters.length) = some 1 := by decide +kernel
theorem zyX0_usesMemory : yX0_usesMemory.cls = RX0 ∧ yX0_usesMemory.cls ≠ "java/lang/invoke/MethodHandle" ∧ yX0_usesMemory.cls ≠ "java/lang/invoke/VarHandle" ∧ (parseMethodDescriptor yX0_usesMemory.desc).map (fun d => d.parameters.length) = some 1 := by decide +kernel
theorem zyX0_usesMultiplier : yX0_usesMultiplier.cls = RX0 ∧ yX0_usesMultiplier.cls ≠ "java/lang/invoke/MethodHandle" ∧ yX0_usesMultiplier.cls ≠ "java/lang/invoke/VarHandle" ∧ (parseMethodDescriptor yX0_usesMultiplier.desc).map (fun d => d.parameters.length) = some 1 := by decide +kernel
theorem zyX0_reads : yX0_reads.cls = RX0 ∧ yX0_reads.cls ≠ "java/lang/invoke/MethodHandle" ∧ yX0_reads.cls ≠ "java/lang/invoke/VarHandle" ∧ (parseMethodDescriptor yX0_reads.desc).map (fun d => d.parameters.length) = some 2 := by decide +kernel
theorem zyX0_whenReadable : yX0_whenReadable.cls = RX0 ∧ yX0_whenReadable.cls ≠ "java/lang/invoke/MethodHandle" ∧ yX0_whenReadable.cls ≠ "java/lang/invoke/VarHandle" ∧ (parseMethodDescriptor yX0_whenReadable.desc).map (fun d => d.parameters.length) = some 2 := by decide +kernel
theorem zyX0_delayOf : yX0_delayOf.cls = RX0 ∧ yX0_delayOf.cls ≠ "java/lang/invoke/MethodHandle" ∧ yX0_delayOf.cls ≠ "java/lang/invoke/VarHandle" ∧ (parseMethodDescriptor yX0_delayOf.desc).map (fun d => d.parameters.length) = some 1 := by decide +kernel
theorem zyX0_whenDividerIsFree : yX0_whenDividerIsFree.cls = RX0 ∧ yX0_whenDividerIsFree.cls ≠ "java/lang/invoke/MethodHandle" ∧ yX0_whenDividerIsFree.cls ≠ "java/lang/invoke/VarHandle" ∧ (parseMethodDescriptor yX0_whenDividerIsFree.desc).map (fun d => d.parameters.length) = some 1 := by decide +kernel
theorem zyX0_doneBefore : yX0_doneBefore.cls = RX0 ∧ yX0_doneBefore.cls ≠ "java/lang/invoke/MethodHandle" ∧ yX0_doneBefore.cls ≠ "java/lang/invoke/VarHandle" ∧ (parseMethodDescriptor yX0_doneBefore.desc).map (fun d => d.parameters.length) = some 1 := by decide +kernel
theorem zyX0_leastDoneTime : yX0_leastDoneTime.cls = RX0 ∧ yX0_leastDoneTime.cls ≠ "java/lang/invoke/MethodHandle" ∧ yX0_leastDoneTime.cls ≠ "java/lang/invoke/VarHandle" ∧ (parseMethodDescriptor yX0_leastDoneTime.desc).map (fun d => d.parameters.length) = some 1 := by decide +kernel
theorem zyX0_workOf : yX0_workOf.cls = RX0 ∧ yX0_workOf.cls ≠ "java/lang/invoke/MethodHandle" ∧ yX0_workOf.cls ≠ "java/lang/invoke/VarHandle" ∧ (parseMethodDescriptor yX0_workOf.desc).map (fun d => d.parameters.length) = some 1 := by decide +kernel
theorem zyX0_branch : yX0_branch.cls = RX0 ∧ yX0_branch.cls ≠ "java/lang/invoke/MethodHandle" ∧ yX0_branch.cls ≠ "java/lang/invoke/VarHandle" ∧ (parseMethodDescriptor yX0_branch.desc).map (fun d => d.parameters.length) = some 4 := by decide +kernel
theorem zyX0_fail : yX0_fail.cls = RX0 ∧ yX0_fail.cls ≠ "java/lang/invoke/MethodHandle" ∧ yX0_fail.cls ≠ "java/lang/invoke/VarHandle" ∧ (parseMethodDescriptor yX0_fail.desc).map (fun d => d.parameters.length) = some 0 := by decide +kernel
theorem zyX0_failLast : yX0_failLast.cls = RX0 ∧ yX0_failLast.cls ≠ "java/lang/invoke/MethodHandle" ∧ yX0_failLast.cls ≠ "java/lang/invoke/VarHandle" ∧ (parseMethodDescriptor yX0_failLast.desc).map (fun d => d.parameters.length) = some 0 := by decide +kernel
theorem zyX0_drop : yX0_drop.cls = RX0 ∧ yX0_drop.cls ≠ "java/lang/invoke/MethodHandle" ∧ yX0_drop.cls ≠ "java/lang/invoke/VarHandle" ∧ (parseMethodDescriptor yX0_drop.desc).map (fun d => d.parameters.length) = some 1 := by decide +kernel
theorem zyX0_clear : yX0_clear.cls = RX0 ∧ yX0_clear.cls ≠ "java/lang/invoke/MethodHandle" ∧ yX0_clear.cls ≠ "java/lang/invoke/VarHandle" ∧ (parseMethodDescriptor yX0_clear.desc).map (fun d => d.parameters.length) = some 0 := by decide +kernel
theorem zyX0_again : yX0_again.cls = RX0 ∧ yX0_again.cls ≠ "java/lang/invoke/MethodHandle" ∧ yX0_again.cls ≠ "java/lang/invoke/VarHandle" ∧ (parseMethodDescriptor yX0_again.desc).map (fun d => d.parameters.length) = some 2 := by decide +kernel
theorem zyX0_isInstruction : yX0_isInstruction.cls = RX0 ∧ yX0_isInstruction.cls ≠ "java/lang/invoke/MethodHandle" ∧ yX0_isInstruction.cls ≠ "java/lang/invoke/VarHandle" ∧ (parseMethodDescriptor yX0_isInstruction.desc).map (fun d => d.parameters.length) = some 1 := by decide +kernel
theorem zyX0_time : yX0_time.cls = RX0 ∧ yX0_time.cls ≠ "java/lang/invoke/MethodHandle" ∧ yX0_time.cls ≠ "java/lang/invoke/VarHandle" ∧ (parseMethodDescriptor yX0_time.desc).map (fun d => d.parameters.length) = some 2 := by decide +kernel
theorem zyX0_groupSize : yX0_groupSize.cls = RX0 ∧ yX0_groupSize.cls ≠ "java/lang/invoke/MethodHandle" ∧ yX0_groupSize.cls ≠ "java/lang/invoke/VarHandle" ∧ (parseMethodDescriptor yX0_groupSize.desc).map (fun d => d.parameters.length) = some 1 := by decide +kernel
theorem zyX0_isIssuedAsSecond : yX0_isIssuedAsSecond.cls = RX0 ∧ yX0_isIssuedAsSecond.cls ≠ "java/lang/invoke/MethodHandle" ∧ yX0_isIssuedAsSecond.cls ≠ "java/lang/invoke/VarHandle" ∧ (parseMethodDescriptor yX0_isIssuedAsSecond.desc).map (fun d => d.parameters.length) = some 1 := by decide +kernel
theorem zyX0_oneIf : yX0_oneIf.cls = RX0 ∧ yX0_oneIf.cls ≠ "java/lang/invoke/MethodHandle" ∧ yX0_oneIf.cls ≠ "java/lang/invoke/VarHandle" ∧ (parseMethodDescriptor yX0_oneIf.desc).map (fun d => d.parameters.length) = some 1 := by decide +kernel
theorem zyX0_of : yX0_of.cls = RX0 ∧ yX0_of.cls ≠ "java/lang/invoke/MethodHandle" ∧ yX0_of.cls ≠ "java/lang/invoke/VarHandle" ∧ (parseMethodDescriptor yX0_of.desc).map (fun d => d.parameters.length) = some 2 := by decide +kernel
theorem zyX0_stage : yX0_stage.cls = RX0 ∧ yX0_stage.cls ≠ "java/lang/invoke/MethodHandle" ∧ yX0_stage.cls ≠ "java/lang/invoke/VarHandle" ∧ (parseMethodDescriptor yX0_stage.desc).map (fun d => d.parameters.length) = some 2 := by decide +kernel
theorem zyX0_stageAt : yX0_stageAt.cls = RX0 ∧ yX0_stageAt.cls ≠ "java/lang/invoke/MethodHandle" ∧ yX0_stageAt.cls ≠ "java/lang/invoke/VarHandle" ∧ (parseMethodDescriptor yX0_stageAt.desc).map (fun d => d.parameters.length) = some 2 := by decide +kernel
theorem zyX0_many : yX0_many.cls = RX0 ∧ yX0_many.cls ≠ "java/lang/invoke/MethodHandle" ∧ yX0_many.cls ≠ "java/lang/invoke/VarHandle" ∧ (parseMethodDescriptor yX0_many.desc).map (fun d => d.parameters.length) = some 2 := by decide +kernel
theorem zyX0_look : yX0_look.cls = RX0 ∧ yX0_look.cls ≠ "java/lang/invoke/MethodHandle" ∧ yX0_look.cls ≠ "java/lang/invoke/VarHandle" ∧ (parseMethodDescriptor yX0_look.desc).map (fun d => d.parameters.length) = some 1 := by decide +kernel
theorem zyX0_cyclesWithTwoDone : yX0_cyclesWithTwoDone.cls = RX0 ∧ yX0_cyclesWithTwoDone.cls ≠ "java/lang/invoke/MethodHandle" ∧ yX0_cyclesWithTwoDone.cls ≠ "java/lang/invoke/VarHandle" ∧ (parseMethodDescriptor yX0_cyclesWithTwoDone.desc).map (fun d => d.parameters.length) = some 0 := by decide +kernel
theorem zyX0_longestWayBetweenDone : yX0_longestWayBetweenDone.cls = RX0 ∧ yX0_longestWayBetweenDone.cls ≠ "java/lang/invoke/MethodHandle" ∧ yX0_longestWayBetweenDone.cls ≠ "java/lang/invoke/VarHandle" ∧ (parseMethodDescriptor yX0_longestWayBetweenDone.desc).map (fun d => d.parameters.length) = some 0 := by decide +kernel
theorem zyX0_groups : yX0_groups.cls = RX0 ∧ yX0_groups.cls ≠ "java/lang/invoke/MethodHandle" ∧ yX0_groups.cls ≠ "java/lang/invoke/VarHandle" ∧ (parseMethodDescriptor yX0_groups.desc).map (fun d => d.parameters.length) = some 0 := by decide +kernel
theorem zyX0_pairsIssuedAtOnce : yX0_pairsIssuedAtOnce.cls = RX0 ∧ yX0_pairsIssuedAtOnce.cls ≠ "java/lang/invoke/MethodHandle" ∧ yX0_pairsIssuedAtOnce.cls ≠ "java/lang/invoke/VarHandle" ∧ (parseMethodDescriptor yX0_pairsIssuedAtOnce.desc).map (fun d => d.parameters.length) = some 0 := by decide +kernel
theorem zyX0_mostAtWork : yX0_mostAtWork.cls = RX0 ∧ yX0_mostAtWork.cls ≠ "java/lang/invoke/MethodHandle" ∧ yX0_mostAtWork.cls ≠ "java/lang/invoke/VarHandle" ∧ (parseMethodDescriptor yX0_mostAtWork.desc).map (fun d => d.parameters.length) = some 0 := by decide +kernel
theorem zyX1_put : yX1_put.cls = RX1 ∧ yX1_put.cls ≠ "java/lang/invoke/MethodHandle" ∧ yX1_put.cls ≠ "java/lang/invoke/VarHandle" ∧ (parseMethodDescriptor yX1_put.desc).map (fun d => d.parameters.length) = some 4 := by decide +kernel
theorem zyX1_isRegister : yX1_isRegister.cls = RX1 ∧ yX1_isRegister.cls ≠ "java/lang/invoke/MethodHandle" ∧ yX1_isRegister.cls ≠ "java/lang/invoke/VarHandle" ∧ (parseMethodDescriptor yX1_isRegister.desc).map (fun d => d.parameters.length) = some 1 := by decide +kernel
theorem zyX1_come : yX1_come.cls = RX1 ∧ yX1_come.cls ≠ "java/lang/invoke/MethodHandle" ∧ yX1_come.cls ≠ "java/lang/invoke/VarHandle" ∧ (parseMethodDescriptor yX1_come.desc).map (fun d => d.parameters.length) = some 6 := by decide +kernel
theorem zyX1_branch : yX1_branch.cls = RX1 ∧ yX1_branch.cls ≠ "java/lang/invoke/MethodHandle" ∧ yX1_branch.cls ≠ "java/lang/invoke/VarHandle" ∧ (parseMethodDescriptor yX1_branch.desc).map (fun d => d.parameters.length) = some 4 := by decide +kernel
theorem zyX1_fail : yX1_fail.cls = RX1 ∧ yX1_fail.cls ≠ "java/lang/invoke/MethodHandle" ∧ yX1_fail.cls ≠ "java/lang/invoke/VarHandle" ∧ (parseMethodDescriptor yX1_fail.desc).map (fun d => d.parameters.length) = some 0 := by decide +kernel
theorem zyX1_drop : yX1_drop.cls = RX1 ∧ yX1_drop.cls ≠ "java/lang/invoke/MethodHandle" ∧ yX1_drop.cls ≠ "java/lang/invoke/VarHandle" ∧ (parseMethodDescriptor yX1_drop.desc).map (fun d => d.parameters.length) = some 1 := by decide +kernel
theorem zyX1_clear : yX1_clear.cls = RX1 ∧ yX1_clear.cls ≠ "java/lang/invoke/MethodHandle" ∧ yX1_clear.cls ≠ "java/lang/invoke/VarHandle" ∧ (parseMethodDescriptor yX1_clear.desc).map (fun d => d.parameters.length) = some 0 := by decide +kernel
theorem zyX1_again : yX1_again.cls = RX1 ∧ yX1_again.cls ≠ "java/lang/invoke/MethodHandle" ∧ yX1_again.cls ≠ "java/lang/invoke/VarHandle" ∧ (parseMethodDescriptor yX1_again.desc).map (fun d => d.parameters.length) = some 2 := by decide +kernel
theorem zyX1_time : yX1_time.cls = RX1 ∧ yX1_time.cls ≠ "java/lang/invoke/MethodHandle" ∧ yX1_time.cls ≠ "java/lang/invoke/VarHandle" ∧ (parseMethodDescriptor yX1_time.desc).map (fun d => d.parameters.length) = some 2 := by decide +kernel
theorem zyX1_reckon : yX1_reckon.cls = RX1 ∧ yX1_reckon.cls ≠ "java/lang/invoke/MethodHandle" ∧ yX1_reckon.cls ≠ "java/lang/invoke/VarHandle" ∧ (parseMethodDescriptor yX1_reckon.desc).map (fun d => d.parameters.length) = some 0 := by decide +kernel
theorem zyX1_stand : yX1_stand.cls = RX1 ∧ yX1_stand.cls ≠ "java/lang/invoke/MethodHandle" ∧ yX1_stand.cls ≠ "java/lang/invoke/VarHandle" ∧ (parseMethodDescriptor yX1_stand.desc).map (fun d => d.parameters.length) = some 1 := by decide +kernel
theorem zyX1_fetch : yX1_fetch.cls = RX1 ∧ yX1_fetch.cls ≠ "java/lang/invoke/MethodHandle" ∧ yX1_fetch.cls ≠ "java/lang/invoke/VarHandle" ∧ (parseMethodDescriptor yX1_fetch.desc).map (fun d => d.parameters.length) = some 1 := by decide +kernel
theorem zyX1_joins : yX1_joins.cls = RX1 ∧ yX1_joins.cls ≠ "java/lang/invoke/MethodHandle" ∧ yX1_joins.cls ≠ "java/lang/invoke/VarHandle" ∧ (parseMethodDescriptor yX1_joins.desc).map (fun d => d.parameters.length) = some 1 := by decide +kernel
theorem zyX1_later : yX1_later.cls = RX1 ∧ yX1_later.cls ≠ "java/lang/invoke/MethodHandle" ∧ yX1_later.cls ≠ "java/lang/invoke/VarHandle" ∧ (parseMethodDescriptor yX1_later.desc).map (fun d => d.parameters.length) = some 2 := by decide +kernel
theorem zyX1_ready : yX1_ready.cls = RX1 ∧ yX1_ready.cls ≠ "java/lang/invoke/MethodHandle" ∧ yX1_ready.cls ≠ "java/lang/invoke/VarHandle" ∧ (parseMethodDescriptor yX1_ready.desc).map (fun d => d.parameters.length) = some 1 := by decide +kernel
theorem zyX1_delay : yX1_delay.cls = RX1 ∧ yX1_delay.cls ≠ "java/lang/invoke/MethodHandle" ∧ yX1_delay.cls ≠ "java/lang/invoke/VarHandle" ∧ (parseMethodDescriptor yX1_delay.desc).map (fun d => d.parameters.length) = some 1 := by decide +kernel
theorem zyX1_pairs : yX1_pairs.cls = RX1 ∧ yX1_pairs.cls ≠ "java/lang/invoke/MethodHandle" ∧ yX1_pairs.cls ≠ "java/lang/invoke/VarHandle" ∧ (parseMethodDescriptor yX1_pairs.desc).map (fun d => d.parameters.length) = some 1 := by decide +kernel
theorem zyX1_isMemory : yX1_isMemory.cls = RX1 ∧ yX1_isMemory.cls ≠ "java/lang/invoke/MethodHandle" ∧ yX1_isMemory.cls ≠ "java/lang/invoke/VarHandle" ∧ (parseMethodDescriptor yX1_isMemory.desc).map (fun d => d.parameters.length) = some 1 := by decide +kernel
theorem zyX1_isSlow : yX1_isSlow.cls = RX1 ∧ yX1_isSlow.cls ≠ "java/lang/invoke/MethodHandle" ∧ yX1_isSlow.cls ≠ "java/lang/invoke/VarHandle" ∧ (parseMethodDescriptor yX1_isSlow.desc).map (fun d => d.parameters.length) = some 1 := by decide +kernel
theorem zyX1_of : yX1_of.cls = RX1 ∧ yX1_of.cls ≠ "java/lang/invoke/MethodHandle" ∧ yX1_of.cls ≠ "java/lang/invoke/VarHandle" ∧ (parseMethodDescriptor yX1_of.desc).map (fun d => d.parameters.length) = some 2 := by decide +kernel
theorem zyX1_stage : yX1_stage.cls = RX1 ∧ yX1_stage.cls ≠ "java/lang/invoke/MethodHandle" ∧ yX1_stage.cls ≠ "java/lang/invoke/VarHandle" ∧ (parseMethodDescriptor yX1_stage.desc).map (fun d => d.parameters.length) = some 2 := by decide +kernel
theorem zyX1_stageOf : yX1_stageOf.cls = RX1 ∧ yX1_stageOf.cls ≠ "java/lang/invoke/MethodHandle" ∧ yX1_stageOf.cls ≠ "java/lang/invoke/VarHandle" ∧ (parseMethodDescriptor yX1_stageOf.desc).map (fun d => d.parameters.length) = some 2 := by decide +kernel
theorem zyX1_many : yX1_many.cls = RX1 ∧ yX1_many.cls ≠ "java/lang/invoke/MethodHandle" ∧ yX1_many.cls ≠ "java/lang/invoke/VarHandle" ∧ (parseMethodDescriptor yX1_many.desc).map (fun d => d.parameters.length) = some 2 := by decide +kernel
theorem zyX1_inStage : yX1_inStage.cls = RX1 ∧ yX1_inStage.cls ≠ "java/lang/invoke/MethodHandle" ∧ yX1_inStage.cls ≠ "java/lang/invoke/VarHandle" ∧ (parseMethodDescriptor yX1_inStage.desc).map (fun d => d.parameters.length) = some 2 := by decide +kernel
theorem zyX1_look : yX1_look.cls = RX1 ∧ yX1_look.cls ≠ "java/lang/invoke/MethodHandle" ∧ yX1_look.cls ≠ "java/lang/invoke/VarHandle" ∧ (parseMethodDescriptor yX1_look.desc).map (fun d => d.parameters.length) = some 1 := by decide +kernel
theorem zyX1_counted : yX1_counted.cls = RX1 ∧ yX1_counted.cls ≠ "java/lang/invoke/MethodHandle" ∧ yX1_counted.cls ≠ "java/lang/invoke/VarHandle" ∧ (parseMethodDescriptor yX1_counted.desc).map (fun d => d.parameters.length) = some 1 := by decide +kernel
theorem zyX1_longest : yX1_longest.cls = RX1 ∧ yX1_longest.cls ≠ "java/lang/invoke/MethodHandle" ∧ yX1_longest.cls ≠ "java/lang/invoke/VarHandle" ∧ (parseMethodDescriptor yX1_longest.desc).map (fun d => d.parameters.length) = some 0 := by decide +kernel
theorem zyX1_busiest : yX1_busiest.cls = RX1 ∧ yX1_busiest.cls ≠ "java/lang/invoke/MethodHandle" ∧ yX1_busiest.cls ≠ "java/lang/invoke/VarHandle" ∧ (parseMethodDescriptor yX1_busiest.desc).map (fun d => d.parameters.length) = some 0 := by decide +kernel
