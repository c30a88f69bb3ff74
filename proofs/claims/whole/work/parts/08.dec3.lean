theorem dX0_reads_11 : decode cX0_reads 11 = .ok (.if_icmp .eq 13, 3) := by decide +kernel
theorem dX0_reads_14 : decode cX0_reads 14 = .ok (.aload_n 0, 1) := by decide +kernel
theorem dX0_reads_15 : decode cX0_reads 15 = .ok (.getfield 23, 3) := by decide +kernel
theorem dX0_reads_18 : decode cX0_reads 18 = .ok (.iload_n 1, 1) := by decide +kernel
theorem dX0_reads_19 : decode cX0_reads 19 = .ok (.iaload, 1) := by decide +kernel
theorem dX0_reads_20 : decode cX0_reads 20 = .ok (.iload_n 2, 1) := by decide +kernel
theorem dX0_reads_21 : decode cX0_reads 21 = .ok (.if_icmp .ne 7, 3) := by decide +kernel
theorem dX0_reads_24 : decode cX0_reads 24 = .ok (.iconst 1, 1) := by decide +kernel
theorem dX0_reads_25 : decode cX0_reads 25 = .ok (.goto 4, 3) := by decide +kernel
theorem dX0_reads_28 : decode cX0_reads 28 = .ok (.iconst 0, 1) := by decide +kernel
theorem dX0_reads_29 : decode cX0_reads 29 = .ok (.ireturn, 1) := by decide +kernel
theorem dX0_whenReadable_0 : decode cX0_whenReadable 0 = .ok (.iload_n 1, 1) := by decide +kernel
theorem dX0_whenReadable_1 : decode cX0_whenReadable 1 = .ok (.ifCond .ne 5, 3) := by decide +kernel
theorem dX0_whenReadable_4 : decode cX0_whenReadable 4 = .ok (.iconst 0, 1) := by decide +kernel
theorem dX0_whenReadable_5 : decode cX0_whenReadable 5 = .ok (.ireturn, 1) := by decide +kernel
theorem dX0_whenReadable_6 : decode cX0_whenReadable 6 = .ok (.iload_n 2, 1) := by decide +kernel
theorem dX0_whenReadable_7 : decode cX0_whenReadable 7 = .ok (.iconst 1, 1) := by decide +kernel
theorem dX0_whenReadable_8 : decode cX0_whenReadable 8 = .ok (.isub, 1) := by decide +kernel
theorem dX0_whenReadable_9 : decode cX0_whenReadable 9 = .ok (.istore_n 3, 1) := by decide +kernel
theorem dX0_whenReadable_10 : decode cX0_whenReadable 10 = .ok (.iload_n 3, 1) := by decide +kernel
theorem dX0_whenReadable_11 : decode cX0_whenReadable 11 = .ok (.ifCond .lt 45, 3) := by decide +kernel
theorem dX0_whenReadable_14 : decode cX0_whenReadable 14 = .ok (.aload_n 0, 1) := by decide +kernel
theorem dX0_whenReadable_15 : decode cX0_whenReadable 15 = .ok (.getfield 17, 3) := by decide +kernel
theorem dX0_whenReadable_18 : decode cX0_whenReadable 18 = .ok (.iload_n 3, 1) := by decide +kernel
theorem dX0_whenReadable_19 : decode cX0_whenReadable 19 = .ok (.iaload, 1) := by decide +kernel
theorem dX0_whenReadable_20 : decode cX0_whenReadable 20 = .ok (.iload_n 1, 1) := by decide +kernel
theorem dX0_whenReadable_21 : decode cX0_whenReadable 21 = .ok (.if_icmp .ne 29, 3) := by decide +kernel
theorem dX0_whenReadable_24 : decode cX0_whenReadable 24 = .ok (.aload_n 0, 1) := by decide +kernel
theorem dX0_whenReadable_25 : decode cX0_whenReadable 25 = .ok (.getfield 39, 3) := by decide +kernel
theorem dX0_whenReadable_28 : decode cX0_whenReadable 28 = .ok (.iload_n 3, 1) := by decide +kernel
theorem dX0_whenReadable_29 : decode cX0_whenReadable 29 = .ok (.baload, 1) := by decide +kernel
theorem dX0_whenReadable_30 : decode cX0_whenReadable 30 = .ok (.ifCond .ne 20, 3) := by decide +kernel
theorem dX0_whenReadable_33 : decode cX0_whenReadable 33 = .ok (.aload_n 0, 1) := by decide +kernel
theorem dX0_whenReadable_34 : decode cX0_whenReadable 34 = .ok (.getfield 48, 3) := by decide +kernel
theorem dX0_whenReadable_37 : decode cX0_whenReadable 37 = .ok (.iload_n 3, 1) := by decide +kernel
theorem dX0_whenReadable_38 : decode cX0_whenReadable 38 = .ok (.iaload, 1) := by decide +kernel
theorem dX0_whenReadable_39 : decode cX0_whenReadable 39 = .ok (.aload_n 0, 1) := by decide +kernel
theorem dX0_whenReadable_40 : decode cX0_whenReadable 40 = .ok (.getfield 13, 3) := by decide +kernel
theorem dX0_whenReadable_43 : decode cX0_whenReadable 43 = .ok (.iload_n 3, 1) := by decide +kernel
theorem dX0_whenReadable_44 : decode cX0_whenReadable 44 = .ok (.iaload, 1) := by decide +kernel
theorem dX0_whenReadable_45 : decode cX0_whenReadable 45 = .ok (.invokestatic 163, 3) := by decide +kernel
theorem dX0_whenReadable_48 : decode cX0_whenReadable 48 = .ok (.iadd, 1) := by decide +kernel
theorem dX0_whenReadable_49 : decode cX0_whenReadable 49 = .ok (.ireturn, 1) := by decide +kernel
theorem dX0_whenReadable_50 : decode cX0_whenReadable 50 = .ok (.iinc 3 (-1), 3) := by decide +kernel
theorem dX0_whenReadable_53 : decode cX0_whenReadable 53 = .ok (.goto (-43), 3) := by decide +kernel
theorem dX0_whenReadable_56 : decode cX0_whenReadable 56 = .ok (.iconst 0, 1) := by decide +kernel
theorem dX0_whenReadable_57 : decode cX0_whenReadable 57 = .ok (.ireturn, 1) := by decide +kernel
theorem dX0_delayOf_0 : decode cX0_delayOf 0 = .ok (.iload_n 0, 1) := by decide +kernel
theorem dX0_delayOf_1 : decode cX0_delayOf 1 = .ok (.tableswitch 38 1 4 #[31, 38, 33, 35], 31) := by decide +kernel
theorem dX0_delayOf_32 : decode cX0_delayOf 32 = .ok (.iconst 2, 1) := by decide +kernel
theorem dX0_delayOf_33 : decode cX0_delayOf 33 = .ok (.ireturn, 1) := by decide +kernel
theorem dX0_delayOf_34 : decode cX0_delayOf 34 = .ok (.iconst 3, 1) := by decide +kernel
theorem dX0_delayOf_35 : decode cX0_delayOf 35 = .ok (.ireturn, 1) := by decide +kernel
theorem dX0_delayOf_36 : decode cX0_delayOf 36 = .ok (.bipush 18, 2) := by decide +kernel
theorem dX0_delayOf_38 : decode cX0_delayOf 38 = .ok (.ireturn, 1) := by decide +kernel
theorem dX0_delayOf_39 : decode cX0_delayOf 39 = .ok (.iconst 1, 1) := by decide +kernel
theorem dX0_delayOf_40 : decode cX0_delayOf 40 = .ok (.ireturn, 1) := by decide +kernel
theorem dX0_whenDividerIsFree_0 : decode cX0_whenDividerIsFree 0 = .ok (.iload_n 1, 1) := by decide +kernel
theorem dX0_whenDividerIsFree_1 : decode cX0_whenDividerIsFree 1 = .ok (.iconst 1, 1) := by decide +kernel
theorem dX0_whenDividerIsFree_2 : decode cX0_whenDividerIsFree 2 = .ok (.isub, 1) := by decide +kernel
theorem dX0_whenDividerIsFree_3 : decode cX0_whenDividerIsFree 3 = .ok (.istore_n 2, 1) := by decide +kernel
theorem dX0_whenDividerIsFree_4 : decode cX0_whenDividerIsFree 4 = .ok (.iload_n 2, 1) := by decide +kernel
theorem dX0_whenDividerIsFree_5 : decode cX0_whenDividerIsFree 5 = .ok (.ifCond .lt 29, 3) := by decide +kernel
theorem dX0_whenDividerIsFree_8 : decode cX0_whenDividerIsFree 8 = .ok (.aload_n 0, 1) := by decide +kernel
theorem dX0_whenDividerIsFree_9 : decode cX0_whenDividerIsFree 9 = .ok (.getfield 13, 3) := by decide +kernel
theorem dX0_whenDividerIsFree_12 : decode cX0_whenDividerIsFree 12 = .ok (.iload_n 2, 1) := by decide +kernel
theorem dX0_whenDividerIsFree_13 : decode cX0_whenDividerIsFree 13 = .ok (.iaload, 1) := by decide +kernel
theorem dX0_whenDividerIsFree_14 : decode cX0_whenDividerIsFree 14 = .ok (.iconst 4, 1) := by decide +kernel
theorem dX0_whenDividerIsFree_15 : decode cX0_whenDividerIsFree 15 = .ok (.if_icmp .ne 13, 3) := by decide +kernel
theorem dX0_whenDividerIsFree_18 : decode cX0_whenDividerIsFree 18 = .ok (.aload_n 0, 1) := by decide +kernel
theorem dX0_whenDividerIsFree_19 : decode cX0_whenDividerIsFree 19 = .ok (.getfield 48, 3) := by decide +kernel
theorem dX0_whenDividerIsFree_22 : decode cX0_whenDividerIsFree 22 = .ok (.iload_n 2, 1) := by decide +kernel
theorem dX0_whenDividerIsFree_23 : decode cX0_whenDividerIsFree 23 = .ok (.iaload, 1) := by decide +kernel
theorem dX0_whenDividerIsFree_24 : decode cX0_whenDividerIsFree 24 = .ok (.bipush 18, 2) := by decide +kernel
theorem dX0_whenDividerIsFree_26 : decode cX0_whenDividerIsFree 26 = .ok (.iadd, 1) := by decide +kernel
theorem dX0_whenDividerIsFree_27 : decode cX0_whenDividerIsFree 27 = .ok (.ireturn, 1) := by decide +kernel
theorem dX0_whenDividerIsFree_28 : decode cX0_whenDividerIsFree 28 = .ok (.iinc 2 (-1), 3) := by decide +kernel
theorem dX0_whenDividerIsFree_31 : decode cX0_whenDividerIsFree 31 = .ok (.goto (-27), 3) := by decide +kernel
theorem dX0_whenDividerIsFree_34 : decode cX0_whenDividerIsFree 34 = .ok (.iconst 0, 1) := by decide +kernel
theorem dX0_whenDividerIsFree_35 : decode cX0_whenDividerIsFree 35 = .ok (.ireturn, 1) := by decide +kernel
theorem dX0_isIssuedAsSecond_0 : decode cX0_isIssuedAsSecond 0 = .ok (.iload_n 1, 1) := by decide +kernel
theorem dX0_isIssuedAsSecond_1 : decode cX0_isIssuedAsSecond 1 = .ok (.ifCond .le 24, 3) := by decide +kernel
theorem dX0_isIssuedAsSecond_4 : decode cX0_isIssuedAsSecond 4 = .ok (.aload_n 0, 1) := by decide +kernel
theorem dX0_isIssuedAsSecond_5 : decode cX0_isIssuedAsSecond 5 = .ok (.getfield 48, 3) := by decide +kernel
theorem dX0_isIssuedAsSecond_8 : decode cX0_isIssuedAsSecond 8 = .ok (.iload_n 1, 1) := by decide +kernel
theorem dX0_isIssuedAsSecond_9 : decode cX0_isIssuedAsSecond 9 = .ok (.iconst 1, 1) := by decide +kernel
theorem dX0_isIssuedAsSecond_10 : decode cX0_isIssuedAsSecond 10 = .ok (.isub, 1) := by decide +kernel
theorem dX0_isIssuedAsSecond_11 : decode cX0_isIssuedAsSecond 11 = .ok (.iaload, 1) := by decide +kernel
theorem dX0_isIssuedAsSecond_12 : decode cX0_isIssuedAsSecond 12 = .ok (.aload_n 0, 1) := by decide +kernel
theorem dX0_isIssuedAsSecond_13 : decode cX0_isIssuedAsSecond 13 = .ok (.getfield 48, 3) := by decide +kernel
theorem dX0_isIssuedAsSecond_16 : decode cX0_isIssuedAsSecond 16 = .ok (.iload_n 1, 1) := by decide +kernel
theorem dX0_isIssuedAsSecond_17 : decode cX0_isIssuedAsSecond 17 = .ok (.iaload, 1) := by decide +kernel
theorem dX0_isIssuedAsSecond_18 : decode cX0_isIssuedAsSecond 18 = .ok (.if_icmp .ne 7, 3) := by decide +kernel
theorem dX0_isIssuedAsSecond_21 : decode cX0_isIssuedAsSecond 21 = .ok (.iconst 1, 1) := by decide +kernel
theorem dX0_isIssuedAsSecond_22 : decode cX0_isIssuedAsSecond 22 = .ok (.goto 4, 3) := by decide +kernel
theorem dX0_isIssuedAsSecond_25 : decode cX0_isIssuedAsSecond 25 = .ok (.iconst 0, 1) := by decide +kernel
theorem dX0_isIssuedAsSecond_26 : decode cX0_isIssuedAsSecond 26 = .ok (.ireturn, 1) := by decide +kernel
theorem dX0_leastDoneTime_0 : decode cX0_leastDoneTime 0 = .ok (.aload_n 0, 1) := by decide +kernel
theorem dX0_leastDoneTime_1 : decode cX0_leastDoneTime 1 = .ok (.getfield 48, 3) := by decide +kernel
theorem dX0_leastDoneTime_4 : decode cX0_leastDoneTime 4 = .ok (.iload_n 1, 1) := by decide +kernel
theorem dX0_leastDoneTime_5 : decode cX0_leastDoneTime 5 = .ok (.iaload, 1) := by decide +kernel
theorem dX0_leastDoneTime_6 : decode cX0_leastDoneTime 6 = .ok (.aload_n 0, 1) := by decide +kernel
theorem dX0_leastDoneTime_7 : decode cX0_leastDoneTime 7 = .ok (.getfield 13, 3) := by decide +kernel
theorem dX0_leastDoneTime_10 : decode cX0_leastDoneTime 10 = .ok (.iload_n 1, 1) := by decide +kernel
theorem dX0_leastDoneTime_11 : decode cX0_leastDoneTime 11 = .ok (.iaload, 1) := by decide +kernel
theorem dX0_leastDoneTime_12 : decode cX0_leastDoneTime 12 = .ok (.invokestatic 166, 3) := by decide +kernel
theorem dX0_leastDoneTime_15 : decode cX0_leastDoneTime 15 = .ok (.iadd, 1) := by decide +kernel
theorem dX0_leastDoneTime_16 : decode cX0_leastDoneTime 16 = .ok (.aload_n 0, 1) := by decide +kernel
theorem dX0_leastDoneTime_17 : decode cX0_leastDoneTime 17 = .ok (.iload_n 1, 1) := by decide +kernel
theorem dX0_leastDoneTime_18 : decode cX0_leastDoneTime 18 = .ok (.invokevirtual 89, 3) := by decide +kernel
theorem dX0_leastDoneTime_21 : decode cX0_leastDoneTime 21 = .ok (.invokestatic 136, 3) := by decide +kernel
theorem dX0_leastDoneTime_24 : decode cX0_leastDoneTime 24 = .ok (.istore_n 2, 1) := by decide +kernel
theorem dX0_leastDoneTime_25 : decode cX0_leastDoneTime 25 = .ok (.iload_n 1, 1) := by decide +kernel
theorem dX0_leastDoneTime_26 : decode cX0_leastDoneTime 26 = .ok (.iconst 1, 1) := by decide +kernel
theorem dX0_leastDoneTime_27 : decode cX0_leastDoneTime 27 = .ok (.if_icmp .le 18, 3) := by decide +kernel
theorem dX0_leastDoneTime_30 : decode cX0_leastDoneTime 30 = .ok (.iload_n 2, 1) := by decide +kernel
theorem dX0_leastDoneTime_31 : decode cX0_leastDoneTime 31 = .ok (.aload_n 0, 1) := by decide +kernel
theorem dX0_leastDoneTime_32 : decode cX0_leastDoneTime 32 = .ok (.getfield 51, 3) := by decide +kernel
theorem dX0_leastDoneTime_35 : decode cX0_leastDoneTime 35 = .ok (.iload_n 1, 1) := by decide +kernel
theorem dX0_leastDoneTime_36 : decode cX0_leastDoneTime 36 = .ok (.iconst 2, 1) := by decide +kernel
theorem dX0_leastDoneTime_37 : decode cX0_leastDoneTime 37 = .ok (.isub, 1) := by decide +kernel
theorem dX0_leastDoneTime_38 : decode cX0_leastDoneTime 38 = .ok (.iaload, 1) := by decide +kernel
theorem dX0_leastDoneTime_39 : decode cX0_leastDoneTime 39 = .ok (.iconst 1, 1) := by decide +kernel
theorem dX0_leastDoneTime_40 : decode cX0_leastDoneTime 40 = .ok (.iadd, 1) := by decide +kernel
theorem dX0_leastDoneTime_41 : decode cX0_leastDoneTime 41 = .ok (.invokestatic 136, 3) := by decide +kernel
theorem dX0_leastDoneTime_44 : decode cX0_leastDoneTime 44 = .ok (.istore_n 2, 1) := by decide +kernel
theorem dX0_leastDoneTime_45 : decode cX0_leastDoneTime 45 = .ok (.aload_n 0, 1) := by decide +kernel
theorem dX0_leastDoneTime_46 : decode cX0_leastDoneTime 46 = .ok (.getfield 39, 3) := by decide +kernel
theorem dX0_leastDoneTime_49 : decode cX0_leastDoneTime 49 = .ok (.iload_n 1, 1) := by decide +kernel
theorem dX0_leastDoneTime_50 : decode cX0_leastDoneTime 50 = .ok (.baload, 1) := by decide +kernel
theorem dX0_leastDoneTime_51 : decode cX0_leastDoneTime 51 = .ok (.ifCond .eq 15, 3) := by decide +kernel
theorem dX0_leastDoneTime_54 : decode cX0_leastDoneTime 54 = .ok (.iload_n 2, 1) := by decide +kernel
theorem dX0_leastDoneTime_55 : decode cX0_leastDoneTime 55 = .ok (.aload_n 0, 1) := by decide +kernel
theorem dX0_leastDoneTime_56 : decode cX0_leastDoneTime 56 = .ok (.iload_n 1, 1) := by decide +kernel
theorem dX0_leastDoneTime_57 : decode cX0_leastDoneTime 57 = .ok (.invokevirtual 89, 3) := by decide +kernel
theorem dX0_leastDoneTime_60 : decode cX0_leastDoneTime 60 = .ok (.iconst 1, 1) := by decide +kernel
theorem dX0_leastDoneTime_61 : decode cX0_leastDoneTime 61 = .ok (.iadd, 1) := by decide +kernel
theorem dX0_leastDoneTime_62 : decode cX0_leastDoneTime 62 = .ok (.invokestatic 136, 3) := by decide +kernel
theorem dX0_leastDoneTime_65 : decode cX0_leastDoneTime 65 = .ok (.istore_n 2, 1) := by decide +kernel
theorem dX0_leastDoneTime_66 : decode cX0_leastDoneTime 66 = .ok (.iload_n 2, 1) := by decide +kernel
theorem dX0_leastDoneTime_67 : decode cX0_leastDoneTime 67 = .ok (.ireturn, 1) := by decide +kernel
theorem dX0_workOf_0 : decode cX0_workOf 0 = .ok (.iload_n 0, 1) := by decide +kernel
theorem dX0_workOf_1 : decode cX0_workOf 1 = .ok (.lookupswitch 32 #[(3, 27), (4, 29)], 27) := by decide +kernel
theorem dX0_workOf_28 : decode cX0_workOf 28 = .ok (.iconst 5, 1) := by decide +kernel
theorem dX0_workOf_29 : decode cX0_workOf 29 = .ok (.ireturn, 1) := by decide +kernel
theorem dX0_workOf_30 : decode cX0_workOf 30 = .ok (.bipush 20, 2) := by decide +kernel
theorem dX0_workOf_32 : decode cX0_workOf 32 = .ok (.ireturn, 1) := by decide +kernel
theorem dX0_workOf_33 : decode cX0_workOf 33 = .ok (.iconst 3, 1) := by decide +kernel
theorem dX0_workOf_34 : decode cX0_workOf 34 = .ok (.ireturn, 1) := by decide +kernel
theorem dX0_doneBefore_0 : decode cX0_doneBefore 0 = .ok (.iload_n 1, 1) := by decide +kernel
theorem dX0_doneBefore_1 : decode cX0_doneBefore 1 = .ok (.ifCond .le 14, 3) := by decide +kernel
theorem dX0_doneBefore_4 : decode cX0_doneBefore 4 = .ok (.aload_n 0, 1) := by decide +kernel
theorem dX0_doneBefore_5 : decode cX0_doneBefore 5 = .ok (.getfield 51, 3) := by decide +kernel
theorem dX0_doneBefore_8 : decode cX0_doneBefore 8 = .ok (.iload_n 1, 1) := by decide +kernel
theorem dX0_doneBefore_9 : decode cX0_doneBefore 9 = .ok (.iconst 1, 1) := by decide +kernel
theorem dX0_doneBefore_10 : decode cX0_doneBefore 10 = .ok (.isub, 1) := by decide +kernel
theorem dX0_doneBefore_11 : decode cX0_doneBefore 11 = .ok (.iaload, 1) := by decide +kernel
theorem dX0_doneBefore_12 : decode cX0_doneBefore 12 = .ok (.goto 4, 3) := by decide +kernel
theorem dX0_doneBefore_15 : decode cX0_doneBefore 15 = .ok (.iconst 0, 1) := by decide +kernel
theorem dX0_doneBefore_16 : decode cX0_doneBefore 16 = .ok (.ireturn, 1) := by decide +kernel
theorem dX0_stageAt_0 : decode cX0_stageAt 0 = .ok (.iload_n 2, 1) := by decide +kernel
theorem dX0_stageAt_1 : decode cX0_stageAt 1 = .ok (.aload_n 0, 1) := by decide +kernel
theorem dX0_stageAt_2 : decode cX0_stageAt 2 = .ok (.getfield 45, 3) := by decide +kernel
theorem dX0_stageAt_5 : decode cX0_stageAt 5 = .ok (.iload_n 1, 1) := by decide +kernel
theorem dX0_stageAt_6 : decode cX0_stageAt 6 = .ok (.iaload, 1) := by decide +kernel
theorem dX0_stageAt_7 : decode cX0_stageAt 7 = .ok (.if_icmp .ge 5, 3) := by decide +kernel
theorem dX0_stageAt_10 : decode cX0_stageAt 10 = .ok (.iconst 0, 1) := by decide +kernel
theorem dX0_stageAt_11 : decode cX0_stageAt 11 = .ok (.ireturn, 1) := by decide +kernel
theorem dX0_stageAt_12 : decode cX0_stageAt 12 = .ok (.iload_n 2, 1) := by decide +kernel
theorem dX0_stageAt_13 : decode cX0_stageAt 13 = .ok (.aload_n 0, 1) := by decide +kernel
theorem dX0_stageAt_14 : decode cX0_stageAt 14 = .ok (.getfield 48, 3) := by decide +kernel
theorem dX0_stageAt_17 : decode cX0_stageAt 17 = .ok (.iload_n 1, 1) := by decide +kernel
theorem dX0_stageAt_18 : decode cX0_stageAt 18 = .ok (.iaload, 1) := by decide +kernel
theorem dX0_stageAt_19 : decode cX0_stageAt 19 = .ok (.if_icmp .ge 5, 3) := by decide +kernel
theorem dX0_stageAt_22 : decode cX0_stageAt 22 = .ok (.iconst 1, 1) := by decide +kernel
theorem dX0_stageAt_23 : decode cX0_stageAt 23 = .ok (.ireturn, 1) := by decide +kernel
theorem dX0_stageAt_24 : decode cX0_stageAt 24 = .ok (.iload_n 2, 1) := by decide +kernel
theorem dX0_stageAt_25 : decode cX0_stageAt 25 = .ok (.aload_n 0, 1) := by decide +kernel
theorem dX0_stageAt_26 : decode cX0_stageAt 26 = .ok (.getfield 51, 3) := by decide +kernel
theorem dX0_stageAt_29 : decode cX0_stageAt 29 = .ok (.iload_n 1, 1) := by decide +kernel
theorem dX0_stageAt_30 : decode cX0_stageAt 30 = .ok (.iaload, 1) := by decide +kernel
theorem dX0_stageAt_31 : decode cX0_stageAt 31 = .ok (.if_icmp .ge 7, 3) := by decide +kernel
theorem dX0_stageAt_34 : decode cX0_stageAt 34 = .ok (.iconst 2, 1) := by decide +kernel
theorem dX0_stageAt_35 : decode cX0_stageAt 35 = .ok (.goto 4, 3) := by decide +kernel
theorem dX0_stageAt_38 : decode cX0_stageAt 38 = .ok (.iconst 3, 1) := by decide +kernel
theorem dX0_stageAt_39 : decode cX0_stageAt 39 = .ok (.ireturn, 1) := by decide +kernel
theorem dX0_cyclesWithTwoDone_0 : decode cX0_cyclesWithTwoDone 0 = .ok (.iconst 0, 1) := by decide +kernel
theorem dX0_cyclesWithTwoDone_1 : decode cX0_cyclesWithTwoDone 1 = .ok (.istore_n 1, 1) := by decide +kernel
theorem dX0_cyclesWithTwoDone_2 : decode cX0_cyclesWithTwoDone 2 = .ok (.iconst 1, 1) := by decide +kernel
theorem dX0_cyclesWithTwoDone_3 : decode cX0_cyclesWithTwoDone 3 = .ok (.istore_n 2, 1) := by decide +kernel
theorem dX0_cyclesWithTwoDone_4 : decode cX0_cyclesWithTwoDone 4 = .ok (.iload_n 2, 1) := by decide +kernel
theorem dX0_cyclesWithTwoDone_5 : decode cX0_cyclesWithTwoDone 5 = .ok (.aload_n 0, 1) := by decide +kernel
theorem dX0_cyclesWithTwoDone_6 : decode cX0_cyclesWithTwoDone 6 = .ok (.getfield 7, 3) := by decide +kernel
theorem dX0_cyclesWithTwoDone_9 : decode cX0_cyclesWithTwoDone 9 = .ok (.if_icmp .ge 29, 3) := by decide +kernel
theorem dX0_cyclesWithTwoDone_12 : decode cX0_cyclesWithTwoDone 12 = .ok (.aload_n 0, 1) := by decide +kernel
theorem dX0_cyclesWithTwoDone_13 : decode cX0_cyclesWithTwoDone 13 = .ok (.getfield 51, 3) := by decide +kernel
theorem dX0_cyclesWithTwoDone_16 : decode cX0_cyclesWithTwoDone 16 = .ok (.iload_n 2, 1) := by decide +kernel
theorem dX0_cyclesWithTwoDone_17 : decode cX0_cyclesWithTwoDone 17 = .ok (.iaload, 1) := by decide +kernel
theorem dX0_cyclesWithTwoDone_18 : decode cX0_cyclesWithTwoDone 18 = .ok (.aload_n 0, 1) := by decide +kernel
theorem dX0_cyclesWithTwoDone_19 : decode cX0_cyclesWithTwoDone 19 = .ok (.getfield 51, 3) := by decide +kernel
theorem dX0_cyclesWithTwoDone_22 : decode cX0_cyclesWithTwoDone 22 = .ok (.iload_n 2, 1) := by decide +kernel
theorem dX0_cyclesWithTwoDone_23 : decode cX0_cyclesWithTwoDone 23 = .ok (.iconst 1, 1) := by decide +kernel
theorem dX0_cyclesWithTwoDone_24 : decode cX0_cyclesWithTwoDone 24 = .ok (.isub, 1) := by decide +kernel
theorem dX0_cyclesWithTwoDone_25 : decode cX0_cyclesWithTwoDone 25 = .ok (.iaload, 1) := by decide +kernel
theorem dX0_cyclesWithTwoDone_26 : decode cX0_cyclesWithTwoDone 26 = .ok (.if_icmp .ne 6, 3) := by decide +kernel
theorem dX0_cyclesWithTwoDone_29 : decode cX0_cyclesWithTwoDone 29 = .ok (.iinc 1 1, 3) := by decide +kernel
theorem dX0_cyclesWithTwoDone_32 : decode cX0_cyclesWithTwoDone 32 = .ok (.iinc 2 1, 3) := by decide +kernel
theorem dX0_cyclesWithTwoDone_35 : decode cX0_cyclesWithTwoDone 35 = .ok (.goto (-31), 3) := by decide +kernel
theorem dX0_cyclesWithTwoDone_38 : decode cX0_cyclesWithTwoDone 38 = .ok (.iload_n 1, 1) := by decide +kernel
theorem dX0_cyclesWithTwoDone_39 : decode cX0_cyclesWithTwoDone 39 = .ok (.ireturn, 1) := by decide +kernel
theorem dX0_longestWayBetweenDone_0 : decode cX0_longestWayBetweenDone 0 = .ok (.iconst 0, 1) := by decide +kernel
theorem dX0_longestWayBetweenDone_1 : decode cX0_longestWayBetweenDone 1 = .ok (.istore_n 1, 1) := by decide +kernel
theorem dX0_longestWayBetweenDone_2 : decode cX0_longestWayBetweenDone 2 = .ok (.iconst 0, 1) := by decide +kernel
theorem dX0_longestWayBetweenDone_3 : decode cX0_longestWayBetweenDone 3 = .ok (.istore_n 2, 1) := by decide +kernel
theorem dX0_longestWayBetweenDone_4 : decode cX0_longestWayBetweenDone 4 = .ok (.iload_n 2, 1) := by decide +kernel
theorem dX0_longestWayBetweenDone_5 : decode cX0_longestWayBetweenDone 5 = .ok (.aload_n 0, 1) := by decide +kernel
theorem dX0_longestWayBetweenDone_6 : decode cX0_longestWayBetweenDone 6 = .ok (.getfield 7, 3) := by decide +kernel
theorem dX0_longestWayBetweenDone_9 : decode cX0_longestWayBetweenDone 9 = .ok (.if_icmp .ge 26, 3) := by decide +kernel
theorem dX0_longestWayBetweenDone_12 : decode cX0_longestWayBetweenDone 12 = .ok (.iload_n 1, 1) := by decide +kernel
theorem dX0_longestWayBetweenDone_13 : decode cX0_longestWayBetweenDone 13 = .ok (.aload_n 0, 1) := by decide +kernel
theorem dX0_longestWayBetweenDone_14 : decode cX0_longestWayBetweenDone 14 = .ok (.getfield 51, 3) := by decide +kernel
theorem dX0_longestWayBetweenDone_17 : decode cX0_longestWayBetweenDone 17 = .ok (.iload_n 2, 1) := by decide +kernel
theorem dX0_longestWayBetweenDone_18 : decode cX0_longestWayBetweenDone 18 = .ok (.iaload, 1) := by decide +kernel
theorem dX0_longestWayBetweenDone_19 : decode cX0_longestWayBetweenDone 19 = .ok (.aload_n 0, 1) := by decide +kernel
theorem dX0_longestWayBetweenDone_20 : decode cX0_longestWayBetweenDone 20 = .ok (.iload_n 2, 1) := by decide +kernel
theorem dX0_longestWayBetweenDone_21 : decode cX0_longestWayBetweenDone 21 = .ok (.invokevirtual 89, 3) := by decide +kernel
theorem dX0_longestWayBetweenDone_24 : decode cX0_longestWayBetweenDone 24 = .ok (.isub, 1) := by decide +kernel
theorem dX0_longestWayBetweenDone_25 : decode cX0_longestWayBetweenDone 25 = .ok (.invokestatic 136, 3) := by decide +kernel
theorem dX0_longestWayBetweenDone_28 : decode cX0_longestWayBetweenDone 28 = .ok (.istore_n 1, 1) := by decide +kernel
theorem dX0_longestWayBetweenDone_29 : decode cX0_longestWayBetweenDone 29 = .ok (.iinc 2 1, 3) := by decide +kernel
theorem dX0_longestWayBetweenDone_32 : decode cX0_longestWayBetweenDone 32 = .ok (.goto (-28), 3) := by decide +kernel
theorem dX0_longestWayBetweenDone_35 : decode cX0_longestWayBetweenDone 35 = .ok (.iload_n 1, 1) := by decide +kernel
theorem dX0_longestWayBetweenDone_36 : decode cX0_longestWayBetweenDone 36 = .ok (.ireturn, 1) := by decide +kernel
theorem dX0_groups_0 : decode cX0_groups 0 = .ok (.iconst 0, 1) := by decide +kernel
theorem dX0_groups_1 : decode cX0_groups 1 = .ok (.istore_n 1, 1) := by decide +kernel
theorem dX0_groups_2 : decode cX0_groups 2 = .ok (.iconst 0, 1) := by decide +kernel
theorem dX0_groups_3 : decode cX0_groups 3 = .ok (.istore_n 2, 1) := by decide +kernel
theorem dX0_groups_4 : decode cX0_groups 4 = .ok (.iload_n 2, 1) := by decide +kernel
theorem dX0_groups_5 : decode cX0_groups 5 = .ok (.aload_n 0, 1) := by decide +kernel
theorem dX0_groups_6 : decode cX0_groups 6 = .ok (.getfield 7, 3) := by decide +kernel
theorem dX0_groups_9 : decode cX0_groups 9 = .ok (.if_icmp .ge 21, 3) := by decide +kernel
theorem dX0_groups_12 : decode cX0_groups 12 = .ok (.aload_n 0, 1) := by decide +kernel
theorem dX0_groups_13 : decode cX0_groups 13 = .ok (.getfield 42, 3) := by decide +kernel
theorem dX0_groups_16 : decode cX0_groups 16 = .ok (.iload_n 2, 1) := by decide +kernel
theorem dX0_groups_17 : decode cX0_groups 17 = .ok (.baload, 1) := by decide +kernel
theorem dX0_groups_18 : decode cX0_groups 18 = .ok (.ifCond .eq 6, 3) := by decide +kernel
theorem dX0_groups_21 : decode cX0_groups 21 = .ok (.iinc 1 1, 3) := by decide +kernel
theorem dX0_groups_24 : decode cX0_groups 24 = .ok (.iinc 2 1, 3) := by decide +kernel
theorem dX0_groups_27 : decode cX0_groups 27 = .ok (.goto (-23), 3) := by decide +kernel
theorem dX0_groups_30 : decode cX0_groups 30 = .ok (.iload_n 1, 1) := by decide +kernel
theorem dX0_groups_31 : decode cX0_groups 31 = .ok (.ireturn, 1) := by decide +kernel
theorem dX0_pairsIssuedAtOnce_0 : decode cX0_pairsIssuedAtOnce 0 = .ok (.iconst 0, 1) := by decide +kernel
theorem dX0_pairsIssuedAtOnce_1 : decode cX0_pairsIssuedAtOnce 1 = .ok (.istore_n 1, 1) := by decide +kernel
theorem dX0_pairsIssuedAtOnce_2 : decode cX0_pairsIssuedAtOnce 2 = .ok (.iconst 1, 1) := by decide +kernel
theorem dX0_pairsIssuedAtOnce_3 : decode cX0_pairsIssuedAtOnce 3 = .ok (.istore_n 2, 1) := by decide +kernel
theorem dX0_pairsIssuedAtOnce_4 : decode cX0_pairsIssuedAtOnce 4 = .ok (.iload_n 2, 1) := by decide +kernel
theorem dX0_pairsIssuedAtOnce_5 : decode cX0_pairsIssuedAtOnce 5 = .ok (.aload_n 0, 1) := by decide +kernel
theorem dX0_pairsIssuedAtOnce_6 : decode cX0_pairsIssuedAtOnce 6 = .ok (.getfield 7, 3) := by decide +kernel
theorem dX0_pairsIssuedAtOnce_9 : decode cX0_pairsIssuedAtOnce 9 = .ok (.if_icmp .ge 20, 3) := by decide +kernel
theorem dX0_pairsIssuedAtOnce_12 : decode cX0_pairsIssuedAtOnce 12 = .ok (.aload_n 0, 1) := by decide +kernel
theorem dX0_pairsIssuedAtOnce_13 : decode cX0_pairsIssuedAtOnce 13 = .ok (.iload_n 2, 1) := by decide +kernel
theorem dX0_pairsIssuedAtOnce_14 : decode cX0_pairsIssuedAtOnce 14 = .ok (.invokevirtual 72, 3) := by decide +kernel
theorem dX0_pairsIssuedAtOnce_17 : decode cX0_pairsIssuedAtOnce 17 = .ok (.ifCond .eq 6, 3) := by decide +kernel
theorem dX0_pairsIssuedAtOnce_20 : decode cX0_pairsIssuedAtOnce 20 = .ok (.iinc 1 1, 3) := by decide +kernel
theorem dX0_pairsIssuedAtOnce_23 : decode cX0_pairsIssuedAtOnce 23 = .ok (.iinc 2 1, 3) := by decide +kernel
theorem dX0_pairsIssuedAtOnce_26 : decode cX0_pairsIssuedAtOnce 26 = .ok (.goto (-22), 3) := by decide +kernel
theorem dX0_pairsIssuedAtOnce_29 : decode cX0_pairsIssuedAtOnce 29 = .ok (.iload_n 1, 1) := by decide +kernel
theorem dX0_pairsIssuedAtOnce_30 : decode cX0_pairsIssuedAtOnce 30 = .ok (.ireturn, 1) := by decide +kernel
theorem dX0_mostAtWork_0 : decode cX0_mostAtWork 0 = .ok (.iconst 0, 1) := by decide +kernel
theorem dX0_mostAtWork_1 : decode cX0_mostAtWork 1 = .ok (.istore_n 1, 1) := by decide +kernel
theorem dX0_mostAtWork_2 : decode cX0_mostAtWork 2 = .ok (.iconst 0, 1) := by decide +kernel
theorem dX0_mostAtWork_3 : decode cX0_mostAtWork 3 = .ok (.istore_n 2, 1) := by decide +kernel
theorem dX0_mostAtWork_4 : decode cX0_mostAtWork 4 = .ok (.iconst 0, 1) := by decide +kernel
theorem dX0_mostAtWork_5 : decode cX0_mostAtWork 5 = .ok (.istore_n 3, 1) := by decide +kernel
theorem dX0_mostAtWork_6 : decode cX0_mostAtWork 6 = .ok (.iload_n 3, 1) := by decide +kernel
theorem dX0_mostAtWork_7 : decode cX0_mostAtWork 7 = .ok (.aload_n 0, 1) := by decide +kernel
theorem dX0_mostAtWork_8 : decode cX0_mostAtWork 8 = .ok (.getfield 7, 3) := by decide +kernel
theorem dX0_mostAtWork_11 : decode cX0_mostAtWork 11 = .ok (.if_icmp .ge 45, 3) := by decide +kernel
theorem dX0_mostAtWork_14 : decode cX0_mostAtWork 14 = .ok (.iload_n 2, 1) := by decide +kernel
theorem dX0_mostAtWork_15 : decode cX0_mostAtWork 15 = .ok (.iload_n 3, 1) := by decide +kernel
theorem dX0_mostAtWork_16 : decode cX0_mostAtWork 16 = .ok (.if_icmp .ge 24, 3) := by decide +kernel
theorem dX0_mostAtWork_19 : decode cX0_mostAtWork 19 = .ok (.aload_n 0, 1) := by decide +kernel
theorem dX0_mostAtWork_20 : decode cX0_mostAtWork 20 = .ok (.getfield 51, 3) := by decide +kernel
theorem dX0_mostAtWork_23 : decode cX0_mostAtWork 23 = .ok (.iload_n 2, 1) := by decide +kernel
theorem dX0_mostAtWork_24 : decode cX0_mostAtWork 24 = .ok (.iaload, 1) := by decide +kernel
theorem dX0_mostAtWork_25 : decode cX0_mostAtWork 25 = .ok (.aload_n 0, 1) := by decide +kernel
theorem dX0_mostAtWork_26 : decode cX0_mostAtWork 26 = .ok (.getfield 48, 3) := by decide +kernel
theorem dX0_mostAtWork_29 : decode cX0_mostAtWork 29 = .ok (.iload_n 3, 1) := by decide +kernel
theorem dX0_mostAtWork_30 : decode cX0_mostAtWork 30 = .ok (.iaload, 1) := by decide +kernel
theorem dX0_mostAtWork_31 : decode cX0_mostAtWork 31 = .ok (.if_icmp .gt 9, 3) := by decide +kernel
theorem dX0_mostAtWork_34 : decode cX0_mostAtWork 34 = .ok (.iinc 2 1, 3) := by decide +kernel
theorem dX0_mostAtWork_37 : decode cX0_mostAtWork 37 = .ok (.goto (-23), 3) := by decide +kernel
theorem dX0_mostAtWork_40 : decode cX0_mostAtWork 40 = .ok (.iload_n 1, 1) := by decide +kernel
theorem dX0_mostAtWork_41 : decode cX0_mostAtWork 41 = .ok (.iload_n 3, 1) := by decide +kernel
theorem dX0_mostAtWork_42 : decode cX0_mostAtWork 42 = .ok (.iload_n 2, 1) := by decide +kernel
theorem dX0_mostAtWork_43 : decode cX0_mostAtWork 43 = .ok (.isub, 1) := by decide +kernel
theorem dX0_mostAtWork_44 : decode cX0_mostAtWork 44 = .ok (.iconst 1, 1) := by decide +kernel
theorem dX0_mostAtWork_45 : decode cX0_mostAtWork 45 = .ok (.iadd, 1) := by decide +kernel
theorem dX0_mostAtWork_46 : decode cX0_mostAtWork 46 = .ok (.invokestatic 136, 3) := by decide +kernel
theorem dX0_mostAtWork_49 : decode cX0_mostAtWork 49 = .ok (.istore_n 1, 1) := by decide +kernel
theorem dX0_mostAtWork_50 : decode cX0_mostAtWork 50 = .ok (.iinc 3 1, 3) := by decide +kernel
theorem dX0_mostAtWork_53 : decode cX0_mostAtWork 53 = .ok (.goto (-47), 3) := by decide +kernel
theorem dX0_mostAtWork_56 : decode cX0_mostAtWork 56 = .ok (.iload_n 1, 1) := by decide +kernel
theorem dX0_mostAtWork_57 : decode cX0_mostAtWork 57 = .ok (.ireturn, 1) := by decide +kernel
