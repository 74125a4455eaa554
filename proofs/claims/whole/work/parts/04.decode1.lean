theorem d_U_isBlock_0 : decode b_U_isBlock 0 = .ok (.iload_n 0, 1) := by decide +kernel
theorem d_U_isBlock_1 : decode b_U_isBlock 1 = .ok (.ifCond .lt 13, 3) := by decide +kernel
theorem d_U_isBlock_4 : decode b_U_isBlock 4 = .ok (.iload_n 0, 1) := by decide +kernel
theorem d_U_isBlock_5 : decode b_U_isBlock 5 = .ok (.bipush 16, 2) := by decide +kernel
theorem d_U_isBlock_7 : decode b_U_isBlock 7 = .ok (.if_icmp .ge 7, 3) := by decide +kernel
theorem d_U_isBlock_10 : decode b_U_isBlock 10 = .ok (.iconst 1, 1) := by decide +kernel
theorem d_U_isBlock_11 : decode b_U_isBlock 11 = .ok (.goto 4, 3) := by decide +kernel
theorem d_U_isBlock_14 : decode b_U_isBlock 14 = .ok (.iconst 0, 1) := by decide +kernel
theorem d_U_isBlock_15 : decode b_U_isBlock 15 = .ok (.ireturn, 1) := by decide +kernel
theorem d_U_isSegment_0 : decode b_U_isSegment 0 = .ok (.iload_n 1, 1) := by decide +kernel
theorem d_U_isSegment_1 : decode b_U_isSegment 1 = .ok (.ifCond .lt 16, 3) := by decide +kernel
theorem d_U_isSegment_4 : decode b_U_isSegment 4 = .ok (.iload_n 1, 1) := by decide +kernel
theorem d_U_isSegment_5 : decode b_U_isSegment 5 = .ok (.aload_n 0, 1) := by decide +kernel
theorem d_U_isSegment_6 : decode b_U_isSegment 6 = .ok (.getfield 48, 3) := by decide +kernel
theorem d_U_isSegment_9 : decode b_U_isSegment 9 = .ok (.arraylength, 1) := by decide +kernel
theorem d_U_isSegment_10 : decode b_U_isSegment 10 = .ok (.if_icmp .ge 7, 3) := by decide +kernel
theorem d_U_isSegment_13 : decode b_U_isSegment 13 = .ok (.iconst 1, 1) := by decide +kernel
theorem d_U_isSegment_14 : decode b_U_isSegment 14 = .ok (.goto 4, 3) := by decide +kernel
theorem d_U_isSegment_17 : decode b_U_isSegment 17 = .ok (.iconst 0, 1) := by decide +kernel
theorem d_U_isSegment_18 : decode b_U_isSegment 18 = .ok (.ireturn, 1) := by decide +kernel
theorem d_U_freeSegments_0 : decode b_U_freeSegments 0 = .ok (.iconst 0, 1) := by decide +kernel
theorem d_U_freeSegments_1 : decode b_U_freeSegments 1 = .ok (.istore_n 1, 1) := by decide +kernel
theorem d_U_freeSegments_2 : decode b_U_freeSegments 2 = .ok (.iconst 0, 1) := by decide +kernel
theorem d_U_freeSegments_3 : decode b_U_freeSegments 3 = .ok (.istore_n 2, 1) := by decide +kernel
theorem d_U_freeSegments_4 : decode b_U_freeSegments 4 = .ok (.iload_n 2, 1) := by decide +kernel
theorem d_U_freeSegments_5 : decode b_U_freeSegments 5 = .ok (.aload_n 0, 1) := by decide +kernel
theorem d_U_freeSegments_6 : decode b_U_freeSegments 6 = .ok (.getfield 48, 3) := by decide +kernel
theorem d_U_freeSegments_9 : decode b_U_freeSegments 9 = .ok (.arraylength, 1) := by decide +kernel
theorem d_U_freeSegments_10 : decode b_U_freeSegments 10 = .ok (.if_icmp .ge 21, 3) := by decide +kernel
theorem d_U_freeSegments_13 : decode b_U_freeSegments 13 = .ok (.aload_n 0, 1) := by decide +kernel
theorem d_U_freeSegments_14 : decode b_U_freeSegments 14 = .ok (.getfield 48, 3) := by decide +kernel
theorem d_U_freeSegments_17 : decode b_U_freeSegments 17 = .ok (.iload_n 2, 1) := by decide +kernel
theorem d_U_freeSegments_18 : decode b_U_freeSegments 18 = .ok (.iaload, 1) := by decide +kernel
theorem d_U_freeSegments_19 : decode b_U_freeSegments 19 = .ok (.ifCond .ne 6, 3) := by decide +kernel
theorem d_U_freeSegments_22 : decode b_U_freeSegments 22 = .ok (.iinc 1 1, 3) := by decide +kernel
theorem d_U_freeSegments_25 : decode b_U_freeSegments 25 = .ok (.iinc 2 1, 3) := by decide +kernel
theorem d_U_freeSegments_28 : decode b_U_freeSegments 28 = .ok (.goto (-24), 3) := by decide +kernel
theorem d_U_freeSegments_31 : decode b_U_freeSegments 31 = .ok (.iload_n 1, 1) := by decide +kernel
theorem d_U_freeSegments_32 : decode b_U_freeSegments 32 = .ok (.ireturn, 1) := by decide +kernel
theorem d_U_lowestFree_0 : decode b_U_lowestFree 0 = .ok (.iconst 0, 1) := by decide +kernel
theorem d_U_lowestFree_1 : decode b_U_lowestFree 1 = .ok (.istore_n 1, 1) := by decide +kernel
theorem d_U_lowestFree_2 : decode b_U_lowestFree 2 = .ok (.iload_n 1, 1) := by decide +kernel
theorem d_U_lowestFree_3 : decode b_U_lowestFree 3 = .ok (.aload_n 0, 1) := by decide +kernel
theorem d_U_lowestFree_4 : decode b_U_lowestFree 4 = .ok (.getfield 48, 3) := by decide +kernel
theorem d_U_lowestFree_7 : decode b_U_lowestFree 7 = .ok (.arraylength, 1) := by decide +kernel
theorem d_U_lowestFree_8 : decode b_U_lowestFree 8 = .ok (.if_icmp .ge 20, 3) := by decide +kernel
theorem d_U_lowestFree_11 : decode b_U_lowestFree 11 = .ok (.aload_n 0, 1) := by decide +kernel
theorem d_U_lowestFree_12 : decode b_U_lowestFree 12 = .ok (.getfield 48, 3) := by decide +kernel
theorem d_U_lowestFree_15 : decode b_U_lowestFree 15 = .ok (.iload_n 1, 1) := by decide +kernel
theorem d_U_lowestFree_16 : decode b_U_lowestFree 16 = .ok (.iaload, 1) := by decide +kernel
theorem d_U_lowestFree_17 : decode b_U_lowestFree 17 = .ok (.ifCond .ne 5, 3) := by decide +kernel
theorem d_U_lowestFree_20 : decode b_U_lowestFree 20 = .ok (.iload_n 1, 1) := by decide +kernel
theorem d_U_lowestFree_21 : decode b_U_lowestFree 21 = .ok (.ireturn, 1) := by decide +kernel
theorem d_U_lowestFree_22 : decode b_U_lowestFree 22 = .ok (.iinc 1 1, 3) := by decide +kernel
theorem d_U_lowestFree_25 : decode b_U_lowestFree 25 = .ok (.goto (-23), 3) := by decide +kernel
theorem d_U_lowestFree_28 : decode b_U_lowestFree 28 = .ok (.iconst (-1), 1) := by decide +kernel
theorem d_U_lowestFree_29 : decode b_U_lowestFree 29 = .ok (.ireturn, 1) := by decide +kernel
theorem d_U_mayAppend_0 : decode b_U_mayAppend 0 = .ok (.iload_n 1, 1) := by decide +kernel
theorem d_U_mayAppend_1 : decode b_U_mayAppend 1 = .ok (.bipush 16, 2) := by decide +kernel
theorem d_U_mayAppend_3 : decode b_U_mayAppend 3 = .ok (.aload_n 0, 1) := by decide +kernel
theorem d_U_mayAppend_4 : decode b_U_mayAppend 4 = .ok (.getfield 101, 3) := by decide +kernel
theorem d_U_mayAppend_7 : decode b_U_mayAppend 7 = .ok (.isub, 1) := by decide +kernel
theorem d_U_mayAppend_8 : decode b_U_mayAppend 8 = .ok (.if_icmp .le 11, 3) := by decide +kernel
theorem d_U_mayAppend_11 : decode b_U_mayAppend 11 = .ok (.aload_n 0, 1) := by decide +kernel
theorem d_U_mayAppend_12 : decode b_U_mayAppend 12 = .ok (.invokevirtual 150, 3) := by decide +kernel
theorem d_U_mayAppend_15 : decode b_U_mayAppend 15 = .ok (.iconst 1, 1) := by decide +kernel
theorem d_U_mayAppend_16 : decode b_U_mayAppend 16 = .ok (.if_icmp .le 7, 3) := by decide +kernel
theorem d_U_mayAppend_19 : decode b_U_mayAppend 19 = .ok (.iconst 1, 1) := by decide +kernel
theorem d_U_mayAppend_20 : decode b_U_mayAppend 20 = .ok (.goto 4, 3) := by decide +kernel
theorem d_U_mayAppend_23 : decode b_U_mayAppend 23 = .ok (.iconst 0, 1) := by decide +kernel
theorem d_U_mayAppend_24 : decode b_U_mayAppend 24 = .ok (.ireturn, 1) := by decide +kernel
theorem d_D_writeUnit_0 : decode b_D_writeUnit 0 = .ok (.aload_n 0, 1) := by decide +kernel
theorem d_D_writeUnit_1 : decode b_D_writeUnit 1 = .ok (.getfield 9, 3) := by decide +kernel
theorem d_D_writeUnit_4 : decode b_D_writeUnit 4 = .ok (.ifCond .ne 5, 3) := by decide +kernel
theorem d_D_writeUnit_7 : decode b_D_writeUnit 7 = .ok (.iconst 0, 1) := by decide +kernel
theorem d_D_writeUnit_8 : decode b_D_writeUnit 8 = .ok (.ireturn, 1) := by decide +kernel
theorem d_D_writeUnit_9 : decode b_D_writeUnit 9 = .ok (.aload_n 0, 1) := by decide +kernel
theorem d_D_writeUnit_10 : decode b_D_writeUnit 10 = .ok (.getfield 9, 3) := by decide +kernel
theorem d_D_writeUnit_13 : decode b_D_writeUnit 13 = .ok (.ifCond .le 13, 3) := by decide +kernel
theorem d_D_writeUnit_16 : decode b_D_writeUnit 16 = .ok (.aload_n 0, 1) := by decide +kernel
theorem d_D_writeUnit_17 : decode b_D_writeUnit 17 = .ok (.dup, 1) := by decide +kernel
theorem d_D_writeUnit_18 : decode b_D_writeUnit 18 = .ok (.getfield 9, 3) := by decide +kernel
theorem d_D_writeUnit_21 : decode b_D_writeUnit 21 = .ok (.iconst 1, 1) := by decide +kernel
theorem d_D_writeUnit_22 : decode b_D_writeUnit 22 = .ok (.isub, 1) := by decide +kernel
theorem d_D_writeUnit_23 : decode b_D_writeUnit 23 = .ok (.putfield 9, 3) := by decide +kernel
theorem d_D_writeUnit_26 : decode b_D_writeUnit 26 = .ok (.aload_n 0, 1) := by decide +kernel
theorem d_D_writeUnit_27 : decode b_D_writeUnit 27 = .ok (.dup, 1) := by decide +kernel
theorem d_D_writeUnit_28 : decode b_D_writeUnit 28 = .ok (.getfield 15, 3) := by decide +kernel
theorem d_D_writeUnit_31 : decode b_D_writeUnit 31 = .ok (.iconst 1, 1) := by decide +kernel
theorem d_D_writeUnit_32 : decode b_D_writeUnit 32 = .ok (.iadd, 1) := by decide +kernel
theorem d_D_writeUnit_33 : decode b_D_writeUnit 33 = .ok (.putfield 15, 3) := by decide +kernel
theorem d_D_writeUnit_36 : decode b_D_writeUnit 36 = .ok (.iconst 1, 1) := by decide +kernel
theorem d_D_writeUnit_37 : decode b_D_writeUnit 37 = .ok (.ireturn, 1) := by decide +kernel
theorem d_U_saveUnits_0 : decode b_U_saveUnits 0 = .ok (.aload_n 0, 1) := by decide +kernel
theorem d_U_saveUnits_1 : decode b_U_saveUnits 1 = .ok (.getfield 103, 3) := by decide +kernel
theorem d_U_saveUnits_4 : decode b_U_saveUnits 4 = .ok (.istore_n 1, 1) := by decide +kernel
theorem d_U_saveUnits_5 : decode b_U_saveUnits 5 = .ok (.iload_n 1, 1) := by decide +kernel
theorem d_U_saveUnits_6 : decode b_U_saveUnits 6 = .ok (.aload_n 0, 1) := by decide +kernel
theorem d_U_saveUnits_7 : decode b_U_saveUnits 7 = .ok (.getfield 101, 3) := by decide +kernel
theorem d_U_saveUnits_10 : decode b_U_saveUnits 10 = .ok (.if_icmp .ge 28, 3) := by decide +kernel
theorem d_U_saveUnits_13 : decode b_U_saveUnits 13 = .ok (.aload_n 0, 1) := by decide +kernel
theorem d_U_saveUnits_14 : decode b_U_saveUnits 14 = .ok (.getfield 21, 3) := by decide +kernel
theorem d_U_saveUnits_17 : decode b_U_saveUnits 17 = .ok (.invokevirtual 175, 3) := by decide +kernel
theorem d_U_saveUnits_20 : decode b_U_saveUnits 20 = .ok (.ifCond .ne 5, 3) := by decide +kernel
theorem d_U_saveUnits_23 : decode b_U_saveUnits 23 = .ok (.iconst 0, 1) := by decide +kernel
theorem d_U_saveUnits_24 : decode b_U_saveUnits 24 = .ok (.ireturn, 1) := by decide +kernel
theorem d_U_saveUnits_25 : decode b_U_saveUnits 25 = .ok (.aload_n 0, 1) := by decide +kernel
theorem d_U_saveUnits_26 : decode b_U_saveUnits 26 = .ok (.iload_n 1, 1) := by decide +kernel
theorem d_U_saveUnits_27 : decode b_U_saveUnits 27 = .ok (.iconst 1, 1) := by decide +kernel
theorem d_U_saveUnits_28 : decode b_U_saveUnits 28 = .ok (.iadd, 1) := by decide +kernel
theorem d_U_saveUnits_29 : decode b_U_saveUnits 29 = .ok (.putfield 103, 3) := by decide +kernel
theorem d_U_saveUnits_32 : decode b_U_saveUnits 32 = .ok (.iinc 1 1, 3) := by decide +kernel
theorem d_U_saveUnits_35 : decode b_U_saveUnits 35 = .ok (.goto (-30), 3) := by decide +kernel
theorem d_U_saveUnits_38 : decode b_U_saveUnits 38 = .ok (.iconst 1, 1) := by decide +kernel
theorem d_U_saveUnits_39 : decode b_U_saveUnits 39 = .ok (.ireturn, 1) := by decide +kernel
theorem d_U_makeCheckpoint_0 : decode b_U_makeCheckpoint 0 = .ok (.aload_n 0, 1) := by decide +kernel
theorem d_U_makeCheckpoint_1 : decode b_U_makeCheckpoint 1 = .ok (.invokevirtual 106, 3) := by decide +kernel
theorem d_U_makeCheckpoint_4 : decode b_U_makeCheckpoint 4 = .ok (.ifCond .ne 5, 3) := by decide +kernel
theorem d_U_makeCheckpoint_7 : decode b_U_makeCheckpoint 7 = .ok (.iconst 0, 1) := by decide +kernel
theorem d_U_makeCheckpoint_8 : decode b_U_makeCheckpoint 8 = .ok (.ireturn, 1) := by decide +kernel
theorem d_U_makeCheckpoint_9 : decode b_U_makeCheckpoint 9 = .ok (.iconst 0, 1) := by decide +kernel
theorem d_U_makeCheckpoint_10 : decode b_U_makeCheckpoint 10 = .ok (.istore_n 1, 1) := by decide +kernel
theorem d_U_makeCheckpoint_11 : decode b_U_makeCheckpoint 11 = .ok (.iload_n 1, 1) := by decide +kernel
theorem d_U_makeCheckpoint_12 : decode b_U_makeCheckpoint 12 = .ok (.bipush 20, 2) := by decide +kernel
theorem d_U_makeCheckpoint_14 : decode b_U_makeCheckpoint 14 = .ok (.if_icmp .ge 21, 3) := by decide +kernel
theorem d_U_makeCheckpoint_17 : decode b_U_makeCheckpoint 17 = .ok (.aload_n 0, 1) := by decide +kernel
theorem d_U_makeCheckpoint_18 : decode b_U_makeCheckpoint 18 = .ok (.getfield 21, 3) := by decide +kernel
theorem d_U_makeCheckpoint_21 : decode b_U_makeCheckpoint 21 = .ok (.invokevirtual 175, 3) := by decide +kernel
theorem d_U_makeCheckpoint_24 : decode b_U_makeCheckpoint 24 = .ok (.ifCond .ne 5, 3) := by decide +kernel
theorem d_U_makeCheckpoint_27 : decode b_U_makeCheckpoint 27 = .ok (.iconst 0, 1) := by decide +kernel
theorem d_U_makeCheckpoint_28 : decode b_U_makeCheckpoint 28 = .ok (.ireturn, 1) := by decide +kernel
theorem d_U_makeCheckpoint_29 : decode b_U_makeCheckpoint 29 = .ok (.iinc 1 1, 3) := by decide +kernel
theorem d_U_makeCheckpoint_32 : decode b_U_makeCheckpoint 32 = .ok (.goto (-21), 3) := by decide +kernel
theorem d_U_makeCheckpoint_35 : decode b_U_makeCheckpoint 35 = .ok (.aload_n 0, 1) := by decide +kernel
theorem d_U_makeCheckpoint_36 : decode b_U_makeCheckpoint 36 = .ok (.getfield 44, 3) := by decide +kernel
theorem d_U_makeCheckpoint_39 : decode b_U_makeCheckpoint 39 = .ok (.dup, 1) := by decide +kernel
theorem d_U_makeCheckpoint_40 : decode b_U_makeCheckpoint 40 = .ok (.getfield 113, 3) := by decide +kernel
theorem d_U_makeCheckpoint_43 : decode b_U_makeCheckpoint 43 = .ok (.iconst 1, 1) := by decide +kernel
theorem d_U_makeCheckpoint_44 : decode b_U_makeCheckpoint 44 = .ok (.iadd, 1) := by decide +kernel
theorem d_U_makeCheckpoint_45 : decode b_U_makeCheckpoint 45 = .ok (.putfield 113, 3) := by decide +kernel
theorem d_U_makeCheckpoint_48 : decode b_U_makeCheckpoint 48 = .ok (.aload_n 0, 1) := by decide +kernel
theorem d_U_makeCheckpoint_49 : decode b_U_makeCheckpoint 49 = .ok (.getfield 44, 3) := by decide +kernel
theorem d_U_makeCheckpoint_52 : decode b_U_makeCheckpoint 52 = .ok (.aload_n 0, 1) := by decide +kernel
theorem d_U_makeCheckpoint_53 : decode b_U_makeCheckpoint 53 = .ok (.getfield 144, 3) := by decide +kernel
theorem d_U_makeCheckpoint_56 : decode b_U_makeCheckpoint 56 = .ok (.putfield 178, 3) := by decide +kernel
theorem d_U_makeCheckpoint_59 : decode b_U_makeCheckpoint 59 = .ok (.aload_n 0, 1) := by decide +kernel
theorem d_U_makeCheckpoint_60 : decode b_U_makeCheckpoint 60 = .ok (.getfield 44, 3) := by decide +kernel
theorem d_U_makeCheckpoint_63 : decode b_U_makeCheckpoint 63 = .ok (.aload_n 0, 1) := by decide +kernel
theorem d_U_makeCheckpoint_64 : decode b_U_makeCheckpoint 64 = .ok (.getfield 156, 3) := by decide +kernel
theorem d_U_makeCheckpoint_67 : decode b_U_makeCheckpoint 67 = .ok (.putfield 179, 3) := by decide +kernel
theorem d_U_makeCheckpoint_70 : decode b_U_makeCheckpoint 70 = .ok (.aload_n 0, 1) := by decide +kernel
theorem d_U_makeCheckpoint_71 : decode b_U_makeCheckpoint 71 = .ok (.getfield 44, 3) := by decide +kernel
theorem d_U_makeCheckpoint_74 : decode b_U_makeCheckpoint 74 = .ok (.aload_n 0, 1) := by decide +kernel
theorem d_U_makeCheckpoint_75 : decode b_U_makeCheckpoint 75 = .ok (.getfield 101, 3) := by decide +kernel
theorem d_U_makeCheckpoint_78 : decode b_U_makeCheckpoint 78 = .ok (.putfield 180, 3) := by decide +kernel
theorem d_U_makeCheckpoint_81 : decode b_U_makeCheckpoint 81 = .ok (.aload_n 0, 1) := by decide +kernel
theorem d_U_makeCheckpoint_82 : decode b_U_makeCheckpoint 82 = .ok (.getfield 52, 3) := by decide +kernel
theorem d_U_makeCheckpoint_85 : decode b_U_makeCheckpoint 85 = .ok (.iconst 0, 1) := by decide +kernel
theorem d_U_makeCheckpoint_86 : decode b_U_makeCheckpoint 86 = .ok (.aload_n 0, 1) := by decide +kernel
theorem d_U_makeCheckpoint_87 : decode b_U_makeCheckpoint 87 = .ok (.getfield 44, 3) := by decide +kernel
theorem d_U_makeCheckpoint_90 : decode b_U_makeCheckpoint 90 = .ok (.getfield 181, 3) := by decide +kernel
theorem d_U_makeCheckpoint_93 : decode b_U_makeCheckpoint 93 = .ok (.iconst 0, 1) := by decide +kernel
theorem d_U_makeCheckpoint_94 : decode b_U_makeCheckpoint 94 = .ok (.bipush 16, 2) := by decide +kernel
theorem d_U_makeCheckpoint_96 : decode b_U_makeCheckpoint 96 = .ok (.invokestatic 182, 3) := by decide +kernel
theorem d_U_makeCheckpoint_99 : decode b_U_makeCheckpoint 99 = .ok (.iconst 1, 1) := by decide +kernel
theorem d_U_makeCheckpoint_100 : decode b_U_makeCheckpoint 100 = .ok (.ireturn, 1) := by decide +kernel
theorem d_U_openNext_0 : decode b_U_openNext 0 = .ok (.aload_n 0, 1) := by decide +kernel
theorem d_U_openNext_1 : decode b_U_openNext 1 = .ok (.invokevirtual 172, 3) := by decide +kernel
theorem d_U_openNext_4 : decode b_U_openNext 4 = .ok (.istore_n 1, 1) := by decide +kernel
theorem d_U_openNext_5 : decode b_U_openNext 5 = .ok (.iload_n 1, 1) := by decide +kernel
theorem d_U_openNext_6 : decode b_U_openNext 6 = .ok (.iconst (-1), 1) := by decide +kernel
theorem d_U_openNext_7 : decode b_U_openNext 7 = .ok (.if_icmp .eq 10, 3) := by decide +kernel
theorem d_U_openNext_10 : decode b_U_openNext 10 = .ok (.aload_n 0, 1) := by decide +kernel
theorem d_U_openNext_11 : decode b_U_openNext 11 = .ok (.invokevirtual 106, 3) := by decide +kernel
theorem d_U_openNext_14 : decode b_U_openNext 14 = .ok (.ifCond .ne 5, 3) := by decide +kernel
theorem d_U_openNext_17 : decode b_U_openNext 17 = .ok (.iconst 0, 1) := by decide +kernel
theorem d_U_openNext_18 : decode b_U_openNext 18 = .ok (.ireturn, 1) := by decide +kernel
theorem d_U_openNext_19 : decode b_U_openNext 19 = .ok (.aload_n 0, 1) := by decide +kernel
theorem d_U_openNext_20 : decode b_U_openNext 20 = .ok (.getfield 48, 3) := by decide +kernel
theorem d_U_openNext_23 : decode b_U_openNext 23 = .ok (.aload_n 0, 1) := by decide +kernel
theorem d_U_openNext_24 : decode b_U_openNext 24 = .ok (.getfield 156, 3) := by decide +kernel
theorem d_U_openNext_27 : decode b_U_openNext 27 = .ok (.iconst 2, 1) := by decide +kernel
theorem d_U_openNext_28 : decode b_U_openNext 28 = .ok (.iastore, 1) := by decide +kernel
theorem d_U_openNext_29 : decode b_U_openNext 29 = .ok (.aload_n 0, 1) := by decide +kernel
theorem d_U_openNext_30 : decode b_U_openNext 30 = .ok (.getfield 48, 3) := by decide +kernel
theorem d_U_openNext_33 : decode b_U_openNext 33 = .ok (.iload_n 1, 1) := by decide +kernel
theorem d_U_openNext_34 : decode b_U_openNext 34 = .ok (.iconst 1, 1) := by decide +kernel
theorem d_U_openNext_35 : decode b_U_openNext 35 = .ok (.iastore, 1) := by decide +kernel
theorem d_U_openNext_36 : decode b_U_openNext 36 = .ok (.aload_n 0, 1) := by decide +kernel
theorem d_U_openNext_37 : decode b_U_openNext 37 = .ok (.iload_n 1, 1) := by decide +kernel
theorem d_U_openNext_38 : decode b_U_openNext 38 = .ok (.putfield 156, 3) := by decide +kernel
theorem d_U_openNext_41 : decode b_U_openNext 41 = .ok (.aload_n 0, 1) := by decide +kernel
theorem d_U_openNext_42 : decode b_U_openNext 42 = .ok (.iconst 0, 1) := by decide +kernel
theorem d_U_openNext_43 : decode b_U_openNext 43 = .ok (.putfield 101, 3) := by decide +kernel
theorem d_U_openNext_46 : decode b_U_openNext 46 = .ok (.aload_n 0, 1) := by decide +kernel
theorem d_U_openNext_47 : decode b_U_openNext 47 = .ok (.iconst 0, 1) := by decide +kernel
theorem d_U_openNext_48 : decode b_U_openNext 48 = .ok (.putfield 103, 3) := by decide +kernel
theorem d_U_openNext_51 : decode b_U_openNext 51 = .ok (.iconst 1, 1) := by decide +kernel
theorem d_U_openNext_52 : decode b_U_openNext 52 = .ok (.ireturn, 1) := by decide +kernel
theorem d_U_append_0 : decode b_U_append 0 = .ok (.iload_n 2, 1) := by decide +kernel
theorem d_U_append_1 : decode b_U_append 1 = .ok (.bipush 16, 2) := by decide +kernel
theorem d_U_append_3 : decode b_U_append 3 = .ok (.aload_n 0, 1) := by decide +kernel
theorem d_U_append_4 : decode b_U_append 4 = .ok (.getfield 101, 3) := by decide +kernel
theorem d_U_append_7 : decode b_U_append 7 = .ok (.isub, 1) := by decide +kernel
theorem d_U_append_8 : decode b_U_append 8 = .ok (.if_icmp .le 12, 3) := by decide +kernel
theorem d_U_append_11 : decode b_U_append 11 = .ok (.aload_n 0, 1) := by decide +kernel
theorem d_U_append_12 : decode b_U_append 12 = .ok (.invokevirtual 153, 3) := by decide +kernel
theorem d_U_append_15 : decode b_U_append 15 = .ok (.ifCond .ne 5, 3) := by decide +kernel
theorem d_U_append_18 : decode b_U_append 18 = .ok (.iconst 0, 1) := by decide +kernel
theorem d_U_append_19 : decode b_U_append 19 = .ok (.ireturn, 1) := by decide +kernel
theorem d_U_append_20 : decode b_U_append 20 = .ok (.aload_n 0, 1) := by decide +kernel
theorem d_U_append_21 : decode b_U_append 21 = .ok (.getfield 156, 3) := by decide +kernel
theorem d_U_append_24 : decode b_U_append 24 = .ok (.bipush 16, 2) := by decide +kernel
theorem d_U_append_26 : decode b_U_append 26 = .ok (.imul, 1) := by decide +kernel
theorem d_U_append_27 : decode b_U_append 27 = .ok (.aload_n 0, 1) := by decide +kernel
theorem d_U_append_28 : decode b_U_append 28 = .ok (.getfield 101, 3) := by decide +kernel
theorem d_U_append_31 : decode b_U_append 31 = .ok (.iadd, 1) := by decide +kernel
theorem d_U_append_32 : decode b_U_append 32 = .ok (.istore 8, 2) := by decide +kernel
theorem d_U_append_34 : decode b_U_append 34 = .ok (.aload_n 0, 1) := by decide +kernel
theorem d_U_append_35 : decode b_U_append 35 = .ok (.dup, 1) := by decide +kernel
theorem d_U_append_36 : decode b_U_append 36 = .ok (.getfield 144, 3) := by decide +kernel
theorem d_U_append_39 : decode b_U_append 39 = .ok (.iconst 1, 1) := by decide +kernel
theorem d_U_append_40 : decode b_U_append 40 = .ok (.iadd, 1) := by decide +kernel
theorem d_U_append_41 : decode b_U_append 41 = .ok (.putfield 144, 3) := by decide +kernel
theorem d_U_append_44 : decode b_U_append 44 = .ok (.aload_n 0, 1) := by decide +kernel
theorem d_U_append_45 : decode b_U_append 45 = .ok (.getfield 37, 3) := by decide +kernel
theorem d_U_append_48 : decode b_U_append 48 = .ok (.getfield 159, 3) := by decide +kernel
theorem d_U_append_51 : decode b_U_append 51 = .ok (.iload 8, 2) := by decide +kernel
theorem d_U_append_53 : decode b_U_append 53 = .ok (.aload_n 0, 1) := by decide +kernel
theorem d_U_append_54 : decode b_U_append 54 = .ok (.getfield 144, 3) := by decide +kernel
theorem d_U_append_57 : decode b_U_append 57 = .ok (.iastore, 1) := by decide +kernel
theorem d_U_append_58 : decode b_U_append 58 = .ok (.aload_n 0, 1) := by decide +kernel
theorem d_U_append_59 : decode b_U_append 59 = .ok (.getfield 37, 3) := by decide +kernel
theorem d_U_append_62 : decode b_U_append 62 = .ok (.getfield 162, 3) := by decide +kernel
theorem d_U_append_65 : decode b_U_append 65 = .ok (.iload 8, 2) := by decide +kernel
theorem d_U_append_67 : decode b_U_append 67 = .ok (.iload_n 1, 1) := by decide +kernel
theorem d_U_append_68 : decode b_U_append 68 = .ok (.iastore, 1) := by decide +kernel
theorem d_U_append_69 : decode b_U_append 69 = .ok (.aload_n 0, 1) := by decide +kernel
theorem d_U_append_70 : decode b_U_append 70 = .ok (.getfield 37, 3) := by decide +kernel
theorem d_U_append_73 : decode b_U_append 73 = .ok (.getfield 165, 3) := by decide +kernel
theorem d_U_append_76 : decode b_U_append 76 = .ok (.iload 8, 2) := by decide +kernel
theorem d_U_append_78 : decode b_U_append 78 = .ok (.iload_n 2, 1) := by decide +kernel
theorem d_U_append_79 : decode b_U_append 79 = .ok (.iastore, 1) := by decide +kernel
theorem d_U_append_80 : decode b_U_append 80 = .ok (.aload_n 0, 1) := by decide +kernel
theorem d_U_append_81 : decode b_U_append 81 = .ok (.getfield 37, 3) := by decide +kernel
theorem d_U_append_84 : decode b_U_append 84 = .ok (.getfield 168, 3) := by decide +kernel
theorem d_U_append_87 : decode b_U_append 87 = .ok (.iload 8, 2) := by decide +kernel
theorem d_U_append_89 : decode b_U_append 89 = .ok (.iload_n 3, 1) := by decide +kernel
theorem d_U_append_90 : decode b_U_append 90 = .ok (.bastore, 1) := by decide +kernel
theorem d_U_append_91 : decode b_U_append 91 = .ok (.aload_n 0, 1) := by decide +kernel
theorem d_U_append_92 : decode b_U_append 92 = .ok (.getfield 37, 3) := by decide +kernel
theorem d_U_append_95 : decode b_U_append 95 = .ok (.getfield 87, 3) := by decide +kernel
theorem d_U_append_98 : decode b_U_append 98 = .ok (.iload 8, 2) := by decide +kernel
theorem d_U_append_100 : decode b_U_append 100 = .ok (.lload 4, 2) := by decide +kernel
theorem d_U_append_102 : decode b_U_append 102 = .ok (.lastore, 1) := by decide +kernel
theorem d_U_append_103 : decode b_U_append 103 = .ok (.aload_n 0, 1) := by decide +kernel
theorem d_U_append_104 : decode b_U_append 104 = .ok (.getfield 37, 3) := by decide +kernel
theorem d_U_append_107 : decode b_U_append 107 = .ok (.getfield 91, 3) := by decide +kernel
theorem d_U_append_110 : decode b_U_append 110 = .ok (.iload 8, 2) := by decide +kernel
theorem d_U_append_112 : decode b_U_append 112 = .ok (.lload 6, 2) := by decide +kernel
theorem d_U_append_114 : decode b_U_append 114 = .ok (.lastore, 1) := by decide +kernel
theorem d_U_append_115 : decode b_U_append 115 = .ok (.aload_n 0, 1) := by decide +kernel
theorem d_U_append_116 : decode b_U_append 116 = .ok (.getfield 52, 3) := by decide +kernel
theorem d_U_append_119 : decode b_U_append 119 = .ok (.iload_n 1, 1) := by decide +kernel
theorem d_U_append_120 : decode b_U_append 120 = .ok (.iload_n 3, 1) := by decide +kernel
theorem d_U_append_121 : decode b_U_append 121 = .ok (.ifCond .eq 8, 3) := by decide +kernel
theorem d_U_append_124 : decode b_U_append 124 = .ok (.iload 8, 2) := by decide +kernel
theorem d_U_append_126 : decode b_U_append 126 = .ok (.goto 4, 3) := by decide +kernel
theorem d_U_append_129 : decode b_U_append 129 = .ok (.iconst (-1), 1) := by decide +kernel
theorem d_U_append_130 : decode b_U_append 130 = .ok (.iastore, 1) := by decide +kernel
theorem d_U_append_131 : decode b_U_append 131 = .ok (.aload_n 0, 1) := by decide +kernel
theorem d_U_append_132 : decode b_U_append 132 = .ok (.dup, 1) := by decide +kernel
theorem d_U_append_133 : decode b_U_append 133 = .ok (.getfield 101, 3) := by decide +kernel
theorem d_U_append_136 : decode b_U_append 136 = .ok (.iload_n 2, 1) := by decide +kernel
theorem d_U_append_137 : decode b_U_append 137 = .ok (.iadd, 1) := by decide +kernel
theorem d_U_append_138 : decode b_U_append 138 = .ok (.putfield 101, 3) := by decide +kernel
theorem d_U_append_141 : decode b_U_append 141 = .ok (.iconst 1, 1) := by decide +kernel
theorem d_U_append_142 : decode b_U_append 142 = .ok (.ireturn, 1) := by decide +kernel
theorem d_R_find_0 : decode b_R_find 0 = .ok (.iconst 0, 1) := by decide +kernel
theorem d_R_find_1 : decode b_R_find 1 = .ok (.istore_n 2, 1) := by decide +kernel
theorem d_R_find_2 : decode b_R_find 2 = .ok (.iload_n 2, 1) := by decide +kernel
theorem d_R_find_3 : decode b_R_find 3 = .ok (.aload_n 0, 1) := by decide +kernel
theorem d_R_find_4 : decode b_R_find 4 = .ok (.getfield 9, 3) := by decide +kernel
theorem d_R_find_7 : decode b_R_find 7 = .ok (.arraylength, 1) := by decide +kernel
theorem d_R_find_8 : decode b_R_find 8 = .ok (.if_icmp .ge 21, 3) := by decide +kernel
theorem d_R_find_11 : decode b_R_find 11 = .ok (.aload_n 0, 1) := by decide +kernel
theorem d_R_find_12 : decode b_R_find 12 = .ok (.getfield 9, 3) := by decide +kernel
theorem d_R_find_15 : decode b_R_find 15 = .ok (.iload_n 2, 1) := by decide +kernel
theorem d_R_find_16 : decode b_R_find 16 = .ok (.iaload, 1) := by decide +kernel
theorem d_R_find_17 : decode b_R_find 17 = .ok (.iload_n 1, 1) := by decide +kernel
theorem d_R_find_18 : decode b_R_find 18 = .ok (.if_icmp .ne 5, 3) := by decide +kernel
theorem d_R_find_21 : decode b_R_find 21 = .ok (.iload_n 2, 1) := by decide +kernel
theorem d_R_find_22 : decode b_R_find 22 = .ok (.ireturn, 1) := by decide +kernel
theorem d_R_find_23 : decode b_R_find 23 = .ok (.iinc 2 1, 3) := by decide +kernel
theorem d_R_find_26 : decode b_R_find 26 = .ok (.goto (-24), 3) := by decide +kernel
theorem d_R_find_29 : decode b_R_find 29 = .ok (.iconst (-1), 1) := by decide +kernel
theorem d_R_find_30 : decode b_R_find 30 = .ok (.ireturn, 1) := by decide +kernel
theorem d_R_forgetUnsaved_0 : decode b_R_forgetUnsaved 0 = .ok (.iload_n 1, 1) := by decide +kernel
theorem d_R_forgetUnsaved_1 : decode b_R_forgetUnsaved 1 = .ok (.bipush 16, 2) := by decide +kernel
theorem d_R_forgetUnsaved_3 : decode b_R_forgetUnsaved 3 = .ok (.imul, 1) := by decide +kernel
theorem d_R_forgetUnsaved_4 : decode b_R_forgetUnsaved 4 = .ok (.istore_n 3, 1) := by decide +kernel
theorem d_R_forgetUnsaved_5 : decode b_R_forgetUnsaved 5 = .ok (.iconst 0, 1) := by decide +kernel
theorem d_R_forgetUnsaved_6 : decode b_R_forgetUnsaved 6 = .ok (.istore 4, 2) := by decide +kernel
theorem d_R_forgetUnsaved_8 : decode b_R_forgetUnsaved 8 = .ok (.iload 4, 2) := by decide +kernel
theorem d_R_forgetUnsaved_10 : decode b_R_forgetUnsaved 10 = .ok (.bipush 16, 2) := by decide +kernel
theorem d_R_forgetUnsaved_12 : decode b_R_forgetUnsaved 12 = .ok (.if_icmp .ge 35, 3) := by decide +kernel
theorem d_R_forgetUnsaved_15 : decode b_R_forgetUnsaved 15 = .ok (.iload 4, 2) := by decide +kernel
theorem d_R_forgetUnsaved_17 : decode b_R_forgetUnsaved 17 = .ok (.aload_n 0, 1) := by decide +kernel
theorem d_R_forgetUnsaved_18 : decode b_R_forgetUnsaved 18 = .ok (.getfield 18, 3) := by decide +kernel
theorem d_R_forgetUnsaved_21 : decode b_R_forgetUnsaved 21 = .ok (.iload_n 3, 1) := by decide +kernel
theorem d_R_forgetUnsaved_22 : decode b_R_forgetUnsaved 22 = .ok (.iload 4, 2) := by decide +kernel
theorem d_R_forgetUnsaved_24 : decode b_R_forgetUnsaved 24 = .ok (.iadd, 1) := by decide +kernel
theorem d_R_forgetUnsaved_25 : decode b_R_forgetUnsaved 25 = .ok (.iaload, 1) := by decide +kernel
theorem d_R_forgetUnsaved_26 : decode b_R_forgetUnsaved 26 = .ok (.iadd, 1) := by decide +kernel
theorem d_R_forgetUnsaved_27 : decode b_R_forgetUnsaved 27 = .ok (.iload_n 2, 1) := by decide +kernel
theorem d_R_forgetUnsaved_28 : decode b_R_forgetUnsaved 28 = .ok (.if_icmp .le 13, 3) := by decide +kernel
theorem d_R_forgetUnsaved_31 : decode b_R_forgetUnsaved 31 = .ok (.aload_n 0, 1) := by decide +kernel
theorem d_R_forgetUnsaved_32 : decode b_R_forgetUnsaved 32 = .ok (.getfield 9, 3) := by decide +kernel
theorem d_R_forgetUnsaved_35 : decode b_R_forgetUnsaved 35 = .ok (.iload_n 3, 1) := by decide +kernel
theorem d_R_forgetUnsaved_36 : decode b_R_forgetUnsaved 36 = .ok (.iload 4, 2) := by decide +kernel
theorem d_R_forgetUnsaved_38 : decode b_R_forgetUnsaved 38 = .ok (.iadd, 1) := by decide +kernel
theorem d_R_forgetUnsaved_39 : decode b_R_forgetUnsaved 39 = .ok (.iconst 0, 1) := by decide +kernel
theorem d_R_forgetUnsaved_40 : decode b_R_forgetUnsaved 40 = .ok (.iastore, 1) := by decide +kernel
theorem d_R_forgetUnsaved_41 : decode b_R_forgetUnsaved 41 = .ok (.iinc 4 1, 3) := by decide +kernel
theorem d_R_forgetUnsaved_44 : decode b_R_forgetUnsaved 44 = .ok (.goto (-36), 3) := by decide +kernel
theorem d_R_forgetUnsaved_47 : decode b_R_forgetUnsaved 47 = .ok (.return_, 1) := by decide +kernel
theorem d_U_goDown_0 : decode b_U_goDown 0 = .ok (.aload_n 0, 1) := by decide +kernel
theorem d_U_goDown_1 : decode b_U_goDown 1 = .ok (.iconst 1, 1) := by decide +kernel
theorem d_U_goDown_2 : decode b_U_goDown 2 = .ok (.putfield 61, 3) := by decide +kernel
theorem d_U_goDown_5 : decode b_U_goDown 5 = .ok (.aload_n 0, 1) := by decide +kernel
theorem d_U_goDown_6 : decode b_U_goDown 6 = .ok (.getfield 37, 3) := by decide +kernel
theorem d_U_goDown_9 : decode b_U_goDown 9 = .ok (.aload_n 0, 1) := by decide +kernel
theorem d_U_goDown_10 : decode b_U_goDown 10 = .ok (.getfield 156, 3) := by decide +kernel
theorem d_U_goDown_13 : decode b_U_goDown 13 = .ok (.aload_n 0, 1) := by decide +kernel
theorem d_U_goDown_14 : decode b_U_goDown 14 = .ok (.getfield 103, 3) := by decide +kernel
theorem d_U_goDown_17 : decode b_U_goDown 17 = .ok (.invokevirtual 188, 3) := by decide +kernel
theorem d_U_goDown_20 : decode b_U_goDown 20 = .ok (.bipush (-4), 2) := by decide +kernel
theorem d_U_goDown_22 : decode b_U_goDown 22 = .ok (.ireturn, 1) := by decide +kernel
theorem d_U_returnToCheckpoint_0 : decode b_U_returnToCheckpoint 0 = .ok (.aload_n 0, 1) := by decide +kernel
theorem d_U_returnToCheckpoint_1 : decode b_U_returnToCheckpoint 1 = .ok (.aload_n 0, 1) := by decide +kernel
theorem d_U_returnToCheckpoint_2 : decode b_U_returnToCheckpoint 2 = .ok (.getfield 44, 3) := by decide +kernel
theorem d_U_returnToCheckpoint_5 : decode b_U_returnToCheckpoint 5 = .ok (.getfield 178, 3) := by decide +kernel
theorem d_U_returnToCheckpoint_8 : decode b_U_returnToCheckpoint 8 = .ok (.putfield 144, 3) := by decide +kernel
theorem d_U_returnToCheckpoint_11 : decode b_U_returnToCheckpoint 11 = .ok (.aload_n 0, 1) := by decide +kernel
theorem d_U_returnToCheckpoint_12 : decode b_U_returnToCheckpoint 12 = .ok (.aload_n 0, 1) := by decide +kernel
theorem d_U_returnToCheckpoint_13 : decode b_U_returnToCheckpoint 13 = .ok (.getfield 44, 3) := by decide +kernel
theorem d_U_returnToCheckpoint_16 : decode b_U_returnToCheckpoint 16 = .ok (.getfield 179, 3) := by decide +kernel
theorem d_U_returnToCheckpoint_19 : decode b_U_returnToCheckpoint 19 = .ok (.putfield 156, 3) := by decide +kernel
theorem d_U_returnToCheckpoint_22 : decode b_U_returnToCheckpoint 22 = .ok (.aload_n 0, 1) := by decide +kernel
theorem d_U_returnToCheckpoint_23 : decode b_U_returnToCheckpoint 23 = .ok (.aload_n 0, 1) := by decide +kernel
theorem d_U_returnToCheckpoint_24 : decode b_U_returnToCheckpoint 24 = .ok (.getfield 44, 3) := by decide +kernel
theorem d_U_returnToCheckpoint_27 : decode b_U_returnToCheckpoint 27 = .ok (.getfield 180, 3) := by decide +kernel
theorem d_U_returnToCheckpoint_30 : decode b_U_returnToCheckpoint 30 = .ok (.putfield 101, 3) := by decide +kernel
theorem d_U_returnToCheckpoint_33 : decode b_U_returnToCheckpoint 33 = .ok (.aload_n 0, 1) := by decide +kernel
theorem d_U_returnToCheckpoint_34 : decode b_U_returnToCheckpoint 34 = .ok (.getfield 44, 3) := by decide +kernel
theorem d_U_returnToCheckpoint_37 : decode b_U_returnToCheckpoint 37 = .ok (.getfield 181, 3) := by decide +kernel
theorem d_U_returnToCheckpoint_40 : decode b_U_returnToCheckpoint 40 = .ok (.iconst 0, 1) := by decide +kernel
theorem d_U_returnToCheckpoint_41 : decode b_U_returnToCheckpoint 41 = .ok (.aload_n 0, 1) := by decide +kernel
theorem d_U_returnToCheckpoint_42 : decode b_U_returnToCheckpoint 42 = .ok (.getfield 52, 3) := by decide +kernel
theorem d_U_returnToCheckpoint_45 : decode b_U_returnToCheckpoint 45 = .ok (.iconst 0, 1) := by decide +kernel
theorem d_U_returnToCheckpoint_46 : decode b_U_returnToCheckpoint 46 = .ok (.bipush 16, 2) := by decide +kernel
theorem d_U_returnToCheckpoint_48 : decode b_U_returnToCheckpoint 48 = .ok (.invokestatic 182, 3) := by decide +kernel
theorem d_U_returnToCheckpoint_51 : decode b_U_returnToCheckpoint 51 = .ok (.return_, 1) := by decide +kernel
theorem d_U_rollForward_0 : decode b_U_rollForward 0 = .ok (.iconst 0, 1) := by decide +kernel
theorem d_U_rollForward_1 : decode b_U_rollForward 1 = .ok (.istore_n 1, 1) := by decide +kernel
theorem d_U_rollForward_2 : decode b_U_rollForward 2 = .ok (.iconst 0, 1) := by decide +kernel
theorem d_U_rollForward_3 : decode b_U_rollForward 3 = .ok (.istore_n 2, 1) := by decide +kernel
theorem d_U_rollForward_4 : decode b_U_rollForward 4 = .ok (.iload_n 2, 1) := by decide +kernel
theorem d_U_rollForward_5 : decode b_U_rollForward 5 = .ok (.aload_n 0, 1) := by decide +kernel
theorem d_U_rollForward_6 : decode b_U_rollForward 6 = .ok (.getfield 37, 3) := by decide +kernel
theorem d_U_rollForward_9 : decode b_U_rollForward 9 = .ok (.getfield 159, 3) := by decide +kernel
theorem d_U_rollForward_12 : decode b_U_rollForward 12 = .ok (.arraylength, 1) := by decide +kernel
theorem d_U_rollForward_13 : decode b_U_rollForward 13 = .ok (.if_icmp .ge 101, 3) := by decide +kernel
theorem d_U_rollForward_16 : decode b_U_rollForward 16 = .ok (.aload_n 0, 1) := by decide +kernel
theorem d_U_rollForward_17 : decode b_U_rollForward 17 = .ok (.getfield 37, 3) := by decide +kernel
theorem d_U_rollForward_20 : decode b_U_rollForward 20 = .ok (.aload_n 0, 1) := by decide +kernel
theorem d_U_rollForward_21 : decode b_U_rollForward 21 = .ok (.getfield 144, 3) := by decide +kernel
theorem d_U_rollForward_24 : decode b_U_rollForward 24 = .ok (.iconst 1, 1) := by decide +kernel
theorem d_U_rollForward_25 : decode b_U_rollForward 25 = .ok (.iadd, 1) := by decide +kernel
theorem d_U_rollForward_26 : decode b_U_rollForward 26 = .ok (.invokevirtual 192, 3) := by decide +kernel
theorem d_U_rollForward_29 : decode b_U_rollForward 29 = .ok (.istore_n 3, 1) := by decide +kernel
theorem d_U_rollForward_30 : decode b_U_rollForward 30 = .ok (.iload_n 3, 1) := by decide +kernel
theorem d_U_rollForward_31 : decode b_U_rollForward 31 = .ok (.iconst (-1), 1) := by decide +kernel
theorem d_U_rollForward_32 : decode b_U_rollForward 32 = .ok (.if_icmp .ne 6, 3) := by decide +kernel
theorem d_U_rollForward_35 : decode b_U_rollForward 35 = .ok (.goto 79, 3) := by decide +kernel
theorem d_U_rollForward_38 : decode b_U_rollForward 38 = .ok (.aload_n 0, 1) := by decide +kernel
theorem d_U_rollForward_39 : decode b_U_rollForward 39 = .ok (.dup, 1) := by decide +kernel
theorem d_U_rollForward_40 : decode b_U_rollForward 40 = .ok (.getfield 144, 3) := by decide +kernel
theorem d_U_rollForward_43 : decode b_U_rollForward 43 = .ok (.iconst 1, 1) := by decide +kernel
theorem d_U_rollForward_44 : decode b_U_rollForward 44 = .ok (.iadd, 1) := by decide +kernel
theorem d_U_rollForward_45 : decode b_U_rollForward 45 = .ok (.putfield 144, 3) := by decide +kernel
theorem d_U_rollForward_48 : decode b_U_rollForward 48 = .ok (.aload_n 0, 1) := by decide +kernel
theorem d_U_rollForward_49 : decode b_U_rollForward 49 = .ok (.getfield 52, 3) := by decide +kernel
theorem d_U_rollForward_52 : decode b_U_rollForward 52 = .ok (.aload_n 0, 1) := by decide +kernel
theorem d_U_rollForward_53 : decode b_U_rollForward 53 = .ok (.getfield 37, 3) := by decide +kernel
theorem d_U_rollForward_56 : decode b_U_rollForward 56 = .ok (.getfield 162, 3) := by decide +kernel
theorem d_U_rollForward_59 : decode b_U_rollForward 59 = .ok (.iload_n 3, 1) := by decide +kernel
theorem d_U_rollForward_60 : decode b_U_rollForward 60 = .ok (.iaload, 1) := by decide +kernel
theorem d_U_rollForward_61 : decode b_U_rollForward 61 = .ok (.aload_n 0, 1) := by decide +kernel
theorem d_U_rollForward_62 : decode b_U_rollForward 62 = .ok (.getfield 37, 3) := by decide +kernel
theorem d_U_rollForward_65 : decode b_U_rollForward 65 = .ok (.getfield 168, 3) := by decide +kernel
theorem d_U_rollForward_68 : decode b_U_rollForward 68 = .ok (.iload_n 3, 1) := by decide +kernel
theorem d_U_rollForward_69 : decode b_U_rollForward 69 = .ok (.baload, 1) := by decide +kernel
theorem d_U_rollForward_70 : decode b_U_rollForward 70 = .ok (.ifCond .eq 7, 3) := by decide +kernel
theorem d_U_rollForward_73 : decode b_U_rollForward 73 = .ok (.iload_n 3, 1) := by decide +kernel
theorem d_U_rollForward_74 : decode b_U_rollForward 74 = .ok (.goto 4, 3) := by decide +kernel
theorem d_U_rollForward_77 : decode b_U_rollForward 77 = .ok (.iconst (-1), 1) := by decide +kernel
theorem d_U_rollForward_78 : decode b_U_rollForward 78 = .ok (.iastore, 1) := by decide +kernel
theorem d_U_rollForward_79 : decode b_U_rollForward 79 = .ok (.aload_n 0, 1) := by decide +kernel
theorem d_U_rollForward_80 : decode b_U_rollForward 80 = .ok (.iload_n 3, 1) := by decide +kernel
theorem d_U_rollForward_81 : decode b_U_rollForward 81 = .ok (.bipush 16, 2) := by decide +kernel
theorem d_U_rollForward_83 : decode b_U_rollForward 83 = .ok (.idiv, 1) := by decide +kernel
theorem d_U_rollForward_84 : decode b_U_rollForward 84 = .ok (.putfield 156, 3) := by decide +kernel
theorem d_U_rollForward_87 : decode b_U_rollForward 87 = .ok (.aload_n 0, 1) := by decide +kernel
theorem d_U_rollForward_88 : decode b_U_rollForward 88 = .ok (.iload_n 3, 1) := by decide +kernel
theorem d_U_rollForward_89 : decode b_U_rollForward 89 = .ok (.bipush 16, 2) := by decide +kernel
theorem d_U_rollForward_91 : decode b_U_rollForward 91 = .ok (.irem, 1) := by decide +kernel
theorem d_U_rollForward_92 : decode b_U_rollForward 92 = .ok (.aload_n 0, 1) := by decide +kernel
theorem d_U_rollForward_93 : decode b_U_rollForward 93 = .ok (.getfield 37, 3) := by decide +kernel
theorem d_U_rollForward_96 : decode b_U_rollForward 96 = .ok (.getfield 165, 3) := by decide +kernel
theorem d_U_rollForward_99 : decode b_U_rollForward 99 = .ok (.iload_n 3, 1) := by decide +kernel
theorem d_U_rollForward_100 : decode b_U_rollForward 100 = .ok (.iaload, 1) := by decide +kernel
theorem d_U_rollForward_101 : decode b_U_rollForward 101 = .ok (.iadd, 1) := by decide +kernel
theorem d_U_rollForward_102 : decode b_U_rollForward 102 = .ok (.putfield 101, 3) := by decide +kernel
theorem d_U_rollForward_105 : decode b_U_rollForward 105 = .ok (.iinc 1 1, 3) := by decide +kernel
theorem d_U_rollForward_108 : decode b_U_rollForward 108 = .ok (.iinc 2 1, 3) := by decide +kernel
theorem d_U_rollForward_111 : decode b_U_rollForward 111 = .ok (.goto (-107), 3) := by decide +kernel
theorem d_U_rollForward_114 : decode b_U_rollForward 114 = .ok (.iload_n 1, 1) := by decide +kernel
theorem d_U_rollForward_115 : decode b_U_rollForward 115 = .ok (.ireturn, 1) := by decide +kernel
theorem d_U_isLive_0 : decode b_U_isLive 0 = .ok (.aload_n 0, 1) := by decide +kernel
theorem d_U_isLive_1 : decode b_U_isLive 1 = .ok (.getfield 52, 3) := by decide +kernel
theorem d_U_isLive_4 : decode b_U_isLive 4 = .ok (.aload_n 0, 1) := by decide +kernel
theorem d_U_isLive_5 : decode b_U_isLive 5 = .ok (.getfield 37, 3) := by decide +kernel
theorem d_U_isLive_8 : decode b_U_isLive 8 = .ok (.getfield 162, 3) := by decide +kernel
theorem d_U_isLive_11 : decode b_U_isLive 11 = .ok (.iload_n 1, 1) := by decide +kernel
theorem d_U_isLive_12 : decode b_U_isLive 12 = .ok (.iaload, 1) := by decide +kernel
theorem d_U_isLive_13 : decode b_U_isLive 13 = .ok (.iaload, 1) := by decide +kernel
theorem d_U_isLive_14 : decode b_U_isLive 14 = .ok (.iload_n 1, 1) := by decide +kernel
theorem d_U_isLive_15 : decode b_U_isLive 15 = .ok (.if_icmp .ne 7, 3) := by decide +kernel
theorem d_U_isLive_18 : decode b_U_isLive 18 = .ok (.iconst 1, 1) := by decide +kernel
theorem d_U_isLive_19 : decode b_U_isLive 19 = .ok (.goto 4, 3) := by decide +kernel
theorem d_U_isLive_22 : decode b_U_isLive 22 = .ok (.iconst 0, 1) := by decide +kernel
theorem d_U_isLive_23 : decode b_U_isLive 23 = .ok (.ireturn, 1) := by decide +kernel
theorem d_U_liveUnits_0 : decode b_U_liveUnits 0 = .ok (.iload_n 1, 1) := by decide +kernel
theorem d_U_liveUnits_1 : decode b_U_liveUnits 1 = .ok (.bipush 16, 2) := by decide +kernel
theorem d_U_liveUnits_3 : decode b_U_liveUnits 3 = .ok (.imul, 1) := by decide +kernel
theorem d_U_liveUnits_4 : decode b_U_liveUnits 4 = .ok (.istore_n 2, 1) := by decide +kernel
theorem d_U_liveUnits_5 : decode b_U_liveUnits 5 = .ok (.iconst 0, 1) := by decide +kernel
theorem d_U_liveUnits_6 : decode b_U_liveUnits 6 = .ok (.istore_n 3, 1) := by decide +kernel
theorem d_U_liveUnits_7 : decode b_U_liveUnits 7 = .ok (.iload_n 2, 1) := by decide +kernel
theorem d_U_liveUnits_8 : decode b_U_liveUnits 8 = .ok (.istore 4, 2) := by decide +kernel
theorem d_U_liveUnits_10 : decode b_U_liveUnits 10 = .ok (.iload 4, 2) := by decide +kernel
theorem d_U_liveUnits_12 : decode b_U_liveUnits 12 = .ok (.iload_n 2, 1) := by decide +kernel
theorem d_U_liveUnits_13 : decode b_U_liveUnits 13 = .ok (.bipush 16, 2) := by decide +kernel
theorem d_U_liveUnits_15 : decode b_U_liveUnits 15 = .ok (.iadd, 1) := by decide +kernel
theorem d_U_liveUnits_16 : decode b_U_liveUnits 16 = .ok (.if_icmp .ge 31, 3) := by decide +kernel
theorem d_U_liveUnits_19 : decode b_U_liveUnits 19 = .ok (.aload_n 0, 1) := by decide +kernel
theorem d_U_liveUnits_20 : decode b_U_liveUnits 20 = .ok (.iload 4, 2) := by decide +kernel
theorem d_U_liveUnits_22 : decode b_U_liveUnits 22 = .ok (.invokevirtual 195, 3) := by decide +kernel
theorem d_U_liveUnits_25 : decode b_U_liveUnits 25 = .ok (.ifCond .eq 16, 3) := by decide +kernel
theorem d_U_liveUnits_28 : decode b_U_liveUnits 28 = .ok (.iload_n 3, 1) := by decide +kernel
theorem d_U_liveUnits_29 : decode b_U_liveUnits 29 = .ok (.aload_n 0, 1) := by decide +kernel
theorem d_U_liveUnits_30 : decode b_U_liveUnits 30 = .ok (.getfield 37, 3) := by decide +kernel
theorem d_U_liveUnits_33 : decode b_U_liveUnits 33 = .ok (.getfield 165, 3) := by decide +kernel
theorem d_U_liveUnits_36 : decode b_U_liveUnits 36 = .ok (.iload 4, 2) := by decide +kernel
theorem d_U_liveUnits_38 : decode b_U_liveUnits 38 = .ok (.iaload, 1) := by decide +kernel
theorem d_U_liveUnits_39 : decode b_U_liveUnits 39 = .ok (.iadd, 1) := by decide +kernel
theorem d_U_liveUnits_40 : decode b_U_liveUnits 40 = .ok (.istore_n 3, 1) := by decide +kernel
theorem d_U_liveUnits_41 : decode b_U_liveUnits 41 = .ok (.iinc 4 1, 3) := by decide +kernel
theorem d_U_liveUnits_44 : decode b_U_liveUnits 44 = .ok (.goto (-34), 3) := by decide +kernel
theorem d_U_liveUnits_47 : decode b_U_liveUnits 47 = .ok (.iload_n 3, 1) := by decide +kernel
theorem d_U_liveUnits_48 : decode b_U_liveUnits 48 = .ok (.ireturn, 1) := by decide +kernel
theorem d_U_sortSegments_0 : decode b_U_sortSegments 0 = .ok (.iconst 0, 1) := by decide +kernel
theorem d_U_sortSegments_1 : decode b_U_sortSegments 1 = .ok (.istore_n 1, 1) := by decide +kernel
theorem d_U_sortSegments_2 : decode b_U_sortSegments 2 = .ok (.iload_n 1, 1) := by decide +kernel
theorem d_U_sortSegments_3 : decode b_U_sortSegments 3 = .ok (.aload_n 0, 1) := by decide +kernel
theorem d_U_sortSegments_4 : decode b_U_sortSegments 4 = .ok (.getfield 48, 3) := by decide +kernel
theorem d_U_sortSegments_7 : decode b_U_sortSegments 7 = .ok (.arraylength, 1) := by decide +kernel
theorem d_U_sortSegments_8 : decode b_U_sortSegments 8 = .ok (.if_icmp .ge 28, 3) := by decide +kernel
theorem d_U_sortSegments_11 : decode b_U_sortSegments 11 = .ok (.aload_n 0, 1) := by decide +kernel
theorem d_U_sortSegments_12 : decode b_U_sortSegments 12 = .ok (.getfield 48, 3) := by decide +kernel
theorem d_U_sortSegments_15 : decode b_U_sortSegments 15 = .ok (.iload_n 1, 1) := by decide +kernel
theorem d_U_sortSegments_16 : decode b_U_sortSegments 16 = .ok (.aload_n 0, 1) := by decide +kernel
theorem d_U_sortSegments_17 : decode b_U_sortSegments 17 = .ok (.iload_n 1, 1) := by decide +kernel
theorem d_U_sortSegments_18 : decode b_U_sortSegments 18 = .ok (.invokevirtual 141, 3) := by decide +kernel
theorem d_U_sortSegments_21 : decode b_U_sortSegments 21 = .ok (.ifCond .le 7, 3) := by decide +kernel
theorem d_U_sortSegments_24 : decode b_U_sortSegments 24 = .ok (.iconst 2, 1) := by decide +kernel
theorem d_U_sortSegments_25 : decode b_U_sortSegments 25 = .ok (.goto 4, 3) := by decide +kernel
theorem d_U_sortSegments_28 : decode b_U_sortSegments 28 = .ok (.iconst 0, 1) := by decide +kernel
theorem d_U_sortSegments_29 : decode b_U_sortSegments 29 = .ok (.iastore, 1) := by decide +kernel
theorem d_U_sortSegments_30 : decode b_U_sortSegments 30 = .ok (.iinc 1 1, 3) := by decide +kernel
theorem d_U_sortSegments_33 : decode b_U_sortSegments 33 = .ok (.goto (-31), 3) := by decide +kernel
theorem d_U_sortSegments_36 : decode b_U_sortSegments 36 = .ok (.aload_n 0, 1) := by decide +kernel
theorem d_U_sortSegments_37 : decode b_U_sortSegments 37 = .ok (.getfield 48, 3) := by decide +kernel
theorem d_U_sortSegments_40 : decode b_U_sortSegments 40 = .ok (.aload_n 0, 1) := by decide +kernel
theorem d_U_sortSegments_41 : decode b_U_sortSegments 41 = .ok (.getfield 156, 3) := by decide +kernel
theorem d_U_sortSegments_44 : decode b_U_sortSegments 44 = .ok (.iconst 1, 1) := by decide +kernel
theorem d_U_sortSegments_45 : decode b_U_sortSegments 45 = .ok (.iastore, 1) := by decide +kernel
theorem d_U_sortSegments_46 : decode b_U_sortSegments 46 = .ok (.return_, 1) := by decide +kernel
theorem d_U_closedWithFewestLive_0 : decode b_U_closedWithFewestLive 0 = .ok (.iconst (-1), 1) := by decide +kernel
theorem d_U_closedWithFewestLive_1 : decode b_U_closedWithFewestLive 1 = .ok (.istore_n 1, 1) := by decide +kernel
theorem d_U_closedWithFewestLive_2 : decode b_U_closedWithFewestLive 2 = .ok (.bipush 17, 2) := by decide +kernel
theorem d_U_closedWithFewestLive_4 : decode b_U_closedWithFewestLive 4 = .ok (.istore_n 2, 1) := by decide +kernel
theorem d_U_closedWithFewestLive_5 : decode b_U_closedWithFewestLive 5 = .ok (.iconst 0, 1) := by decide +kernel
theorem d_U_closedWithFewestLive_6 : decode b_U_closedWithFewestLive 6 = .ok (.istore_n 3, 1) := by decide +kernel
theorem d_U_closedWithFewestLive_7 : decode b_U_closedWithFewestLive 7 = .ok (.iload_n 3, 1) := by decide +kernel
theorem d_U_closedWithFewestLive_8 : decode b_U_closedWithFewestLive 8 = .ok (.aload_n 0, 1) := by decide +kernel
theorem d_U_closedWithFewestLive_9 : decode b_U_closedWithFewestLive 9 = .ok (.getfield 48, 3) := by decide +kernel
theorem d_U_closedWithFewestLive_12 : decode b_U_closedWithFewestLive 12 = .ok (.arraylength, 1) := by decide +kernel
theorem d_U_closedWithFewestLive_13 : decode b_U_closedWithFewestLive 13 = .ok (.if_icmp .ge 36, 3) := by decide +kernel
theorem d_U_closedWithFewestLive_16 : decode b_U_closedWithFewestLive 16 = .ok (.aload_n 0, 1) := by decide +kernel
theorem d_U_closedWithFewestLive_17 : decode b_U_closedWithFewestLive 17 = .ok (.getfield 48, 3) := by decide +kernel
theorem d_U_closedWithFewestLive_20 : decode b_U_closedWithFewestLive 20 = .ok (.iload_n 3, 1) := by decide +kernel
theorem d_U_closedWithFewestLive_21 : decode b_U_closedWithFewestLive 21 = .ok (.iaload, 1) := by decide +kernel
theorem d_U_closedWithFewestLive_22 : decode b_U_closedWithFewestLive 22 = .ok (.iconst 2, 1) := by decide +kernel
theorem d_U_closedWithFewestLive_23 : decode b_U_closedWithFewestLive 23 = .ok (.if_icmp .ne 20, 3) := by decide +kernel
theorem d_U_closedWithFewestLive_26 : decode b_U_closedWithFewestLive 26 = .ok (.aload_n 0, 1) := by decide +kernel
theorem d_U_closedWithFewestLive_27 : decode b_U_closedWithFewestLive 27 = .ok (.iload_n 3, 1) := by decide +kernel
theorem d_U_closedWithFewestLive_28 : decode b_U_closedWithFewestLive 28 = .ok (.invokevirtual 141, 3) := by decide +kernel
theorem d_U_closedWithFewestLive_31 : decode b_U_closedWithFewestLive 31 = .ok (.iload_n 2, 1) := by decide +kernel
theorem d_U_closedWithFewestLive_32 : decode b_U_closedWithFewestLive 32 = .ok (.if_icmp .ge 11, 3) := by decide +kernel
theorem d_U_closedWithFewestLive_35 : decode b_U_closedWithFewestLive 35 = .ok (.iload_n 3, 1) := by decide +kernel
theorem d_U_closedWithFewestLive_36 : decode b_U_closedWithFewestLive 36 = .ok (.istore_n 1, 1) := by decide +kernel
theorem d_U_closedWithFewestLive_37 : decode b_U_closedWithFewestLive 37 = .ok (.aload_n 0, 1) := by decide +kernel
theorem d_U_closedWithFewestLive_38 : decode b_U_closedWithFewestLive 38 = .ok (.iload_n 3, 1) := by decide +kernel
theorem d_U_closedWithFewestLive_39 : decode b_U_closedWithFewestLive 39 = .ok (.invokevirtual 141, 3) := by decide +kernel
theorem d_U_closedWithFewestLive_42 : decode b_U_closedWithFewestLive 42 = .ok (.istore_n 2, 1) := by decide +kernel
theorem d_U_closedWithFewestLive_43 : decode b_U_closedWithFewestLive 43 = .ok (.iinc 3 1, 3) := by decide +kernel
theorem d_U_closedWithFewestLive_46 : decode b_U_closedWithFewestLive 46 = .ok (.goto (-39), 3) := by decide +kernel
theorem d_U_closedWithFewestLive_49 : decode b_U_closedWithFewestLive 49 = .ok (.iload_n 1, 1) := by decide +kernel
theorem d_U_closedWithFewestLive_50 : decode b_U_closedWithFewestLive 50 = .ok (.ireturn, 1) := by decide +kernel
theorem d_U_liveRecordsHaveRoom_0 : decode b_U_liveRecordsHaveRoom 0 = .ok (.iload_n 1, 1) := by decide +kernel
theorem d_U_liveRecordsHaveRoom_1 : decode b_U_liveRecordsHaveRoom 1 = .ok (.bipush 16, 2) := by decide +kernel
theorem d_U_liveRecordsHaveRoom_3 : decode b_U_liveRecordsHaveRoom 3 = .ok (.imul, 1) := by decide +kernel
theorem d_U_liveRecordsHaveRoom_4 : decode b_U_liveRecordsHaveRoom 4 = .ok (.istore_n 2, 1) := by decide +kernel
theorem d_U_liveRecordsHaveRoom_5 : decode b_U_liveRecordsHaveRoom 5 = .ok (.aload_n 0, 1) := by decide +kernel
theorem d_U_liveRecordsHaveRoom_6 : decode b_U_liveRecordsHaveRoom 6 = .ok (.invokevirtual 150, 3) := by decide +kernel
theorem d_U_liveRecordsHaveRoom_9 : decode b_U_liveRecordsHaveRoom 9 = .ok (.istore_n 3, 1) := by decide +kernel
theorem d_U_liveRecordsHaveRoom_10 : decode b_U_liveRecordsHaveRoom 10 = .ok (.aload_n 0, 1) := by decide +kernel
theorem d_U_liveRecordsHaveRoom_11 : decode b_U_liveRecordsHaveRoom 11 = .ok (.getfield 101, 3) := by decide +kernel
theorem d_U_liveRecordsHaveRoom_14 : decode b_U_liveRecordsHaveRoom 14 = .ok (.istore 4, 2) := by decide +kernel
theorem d_U_liveRecordsHaveRoom_16 : decode b_U_liveRecordsHaveRoom 16 = .ok (.iload_n 2, 1) := by decide +kernel
theorem d_U_liveRecordsHaveRoom_17 : decode b_U_liveRecordsHaveRoom 17 = .ok (.istore 5, 2) := by decide +kernel
theorem d_U_liveRecordsHaveRoom_19 : decode b_U_liveRecordsHaveRoom 19 = .ok (.iload 5, 2) := by decide +kernel
theorem d_U_liveRecordsHaveRoom_21 : decode b_U_liveRecordsHaveRoom 21 = .ok (.iload_n 2, 1) := by decide +kernel
theorem d_U_liveRecordsHaveRoom_22 : decode b_U_liveRecordsHaveRoom 22 = .ok (.bipush 16, 2) := by decide +kernel
theorem d_U_liveRecordsHaveRoom_24 : decode b_U_liveRecordsHaveRoom 24 = .ok (.iadd, 1) := by decide +kernel
theorem d_U_liveRecordsHaveRoom_25 : decode b_U_liveRecordsHaveRoom 25 = .ok (.if_icmp .ge 60, 3) := by decide +kernel
theorem d_U_liveRecordsHaveRoom_28 : decode b_U_liveRecordsHaveRoom 28 = .ok (.aload_n 0, 1) := by decide +kernel
theorem d_U_liveRecordsHaveRoom_29 : decode b_U_liveRecordsHaveRoom 29 = .ok (.iload 5, 2) := by decide +kernel
theorem d_U_liveRecordsHaveRoom_31 : decode b_U_liveRecordsHaveRoom 31 = .ok (.invokevirtual 195, 3) := by decide +kernel
theorem d_U_liveRecordsHaveRoom_34 : decode b_U_liveRecordsHaveRoom 34 = .ok (.ifCond .ne 6, 3) := by decide +kernel
theorem d_U_liveRecordsHaveRoom_37 : decode b_U_liveRecordsHaveRoom 37 = .ok (.goto 42, 3) := by decide +kernel
theorem d_U_liveRecordsHaveRoom_40 : decode b_U_liveRecordsHaveRoom 40 = .ok (.aload_n 0, 1) := by decide +kernel
theorem d_U_liveRecordsHaveRoom_41 : decode b_U_liveRecordsHaveRoom 41 = .ok (.getfield 37, 3) := by decide +kernel
theorem d_U_liveRecordsHaveRoom_44 : decode b_U_liveRecordsHaveRoom 44 = .ok (.getfield 165, 3) := by decide +kernel
theorem d_U_liveRecordsHaveRoom_47 : decode b_U_liveRecordsHaveRoom 47 = .ok (.iload 5, 2) := by decide +kernel
theorem d_U_liveRecordsHaveRoom_49 : decode b_U_liveRecordsHaveRoom 49 = .ok (.iaload, 1) := by decide +kernel
theorem d_U_liveRecordsHaveRoom_50 : decode b_U_liveRecordsHaveRoom 50 = .ok (.bipush 16, 2) := by decide +kernel
theorem d_U_liveRecordsHaveRoom_52 : decode b_U_liveRecordsHaveRoom 52 = .ok (.iload 4, 2) := by decide +kernel
theorem d_U_liveRecordsHaveRoom_54 : decode b_U_liveRecordsHaveRoom 54 = .ok (.isub, 1) := by decide +kernel
theorem d_U_liveRecordsHaveRoom_55 : decode b_U_liveRecordsHaveRoom 55 = .ok (.if_icmp .le 9, 3) := by decide +kernel
theorem d_U_liveRecordsHaveRoom_58 : decode b_U_liveRecordsHaveRoom 58 = .ok (.iinc 3 (-1), 3) := by decide +kernel
theorem d_U_liveRecordsHaveRoom_61 : decode b_U_liveRecordsHaveRoom 61 = .ok (.iconst 0, 1) := by decide +kernel
theorem d_U_liveRecordsHaveRoom_62 : decode b_U_liveRecordsHaveRoom 62 = .ok (.istore 4, 2) := by decide +kernel
theorem d_U_liveRecordsHaveRoom_64 : decode b_U_liveRecordsHaveRoom 64 = .ok (.iload 4, 2) := by decide +kernel
theorem d_U_liveRecordsHaveRoom_66 : decode b_U_liveRecordsHaveRoom 66 = .ok (.aload_n 0, 1) := by decide +kernel
theorem d_U_liveRecordsHaveRoom_67 : decode b_U_liveRecordsHaveRoom 67 = .ok (.getfield 37, 3) := by decide +kernel
theorem d_U_liveRecordsHaveRoom_70 : decode b_U_liveRecordsHaveRoom 70 = .ok (.getfield 165, 3) := by decide +kernel
theorem d_U_liveRecordsHaveRoom_73 : decode b_U_liveRecordsHaveRoom 73 = .ok (.iload 5, 2) := by decide +kernel
theorem d_U_liveRecordsHaveRoom_75 : decode b_U_liveRecordsHaveRoom 75 = .ok (.iaload, 1) := by decide +kernel
theorem d_U_liveRecordsHaveRoom_76 : decode b_U_liveRecordsHaveRoom 76 = .ok (.iadd, 1) := by decide +kernel
theorem d_U_liveRecordsHaveRoom_77 : decode b_U_liveRecordsHaveRoom 77 = .ok (.istore 4, 2) := by decide +kernel
theorem d_U_liveRecordsHaveRoom_79 : decode b_U_liveRecordsHaveRoom 79 = .ok (.iinc 5 1, 3) := by decide +kernel
theorem d_U_liveRecordsHaveRoom_82 : decode b_U_liveRecordsHaveRoom 82 = .ok (.goto (-63), 3) := by decide +kernel
theorem d_U_liveRecordsHaveRoom_85 : decode b_U_liveRecordsHaveRoom 85 = .ok (.iload_n 3, 1) := by decide +kernel
theorem d_U_liveRecordsHaveRoom_86 : decode b_U_liveRecordsHaveRoom 86 = .ok (.ifCond .lt 7, 3) := by decide +kernel
theorem d_U_liveRecordsHaveRoom_89 : decode b_U_liveRecordsHaveRoom 89 = .ok (.iconst 1, 1) := by decide +kernel
theorem d_U_liveRecordsHaveRoom_90 : decode b_U_liveRecordsHaveRoom 90 = .ok (.goto 4, 3) := by decide +kernel
theorem d_U_liveRecordsHaveRoom_93 : decode b_U_liveRecordsHaveRoom 93 = .ok (.iconst 0, 1) := by decide +kernel
theorem d_U_liveRecordsHaveRoom_94 : decode b_U_liveRecordsHaveRoom 94 = .ok (.ireturn, 1) := by decide +kernel
theorem d_U_appendLiveRecords_0 : decode b_U_appendLiveRecords 0 = .ok (.iload_n 1, 1) := by decide +kernel
theorem d_U_appendLiveRecords_1 : decode b_U_appendLiveRecords 1 = .ok (.bipush 16, 2) := by decide +kernel
theorem d_U_appendLiveRecords_3 : decode b_U_appendLiveRecords 3 = .ok (.imul, 1) := by decide +kernel
theorem d_U_appendLiveRecords_4 : decode b_U_appendLiveRecords 4 = .ok (.istore_n 2, 1) := by decide +kernel
theorem d_U_appendLiveRecords_5 : decode b_U_appendLiveRecords 5 = .ok (.iconst 0, 1) := by decide +kernel
theorem d_U_appendLiveRecords_6 : decode b_U_appendLiveRecords 6 = .ok (.istore_n 3, 1) := by decide +kernel
theorem d_U_appendLiveRecords_7 : decode b_U_appendLiveRecords 7 = .ok (.iload_n 2, 1) := by decide +kernel
theorem d_U_appendLiveRecords_8 : decode b_U_appendLiveRecords 8 = .ok (.istore 4, 2) := by decide +kernel
theorem d_U_appendLiveRecords_10 : decode b_U_appendLiveRecords 10 = .ok (.iload 4, 2) := by decide +kernel
theorem d_U_appendLiveRecords_12 : decode b_U_appendLiveRecords 12 = .ok (.iload_n 2, 1) := by decide +kernel
theorem d_U_appendLiveRecords_13 : decode b_U_appendLiveRecords 13 = .ok (.bipush 16, 2) := by decide +kernel
theorem d_U_appendLiveRecords_15 : decode b_U_appendLiveRecords 15 = .ok (.iadd, 1) := by decide +kernel
theorem d_U_appendLiveRecords_16 : decode b_U_appendLiveRecords 16 = .ok (.if_icmp .ge 75, 3) := by decide +kernel
theorem d_U_appendLiveRecords_19 : decode b_U_appendLiveRecords 19 = .ok (.aload_n 0, 1) := by decide +kernel
theorem d_U_appendLiveRecords_20 : decode b_U_appendLiveRecords 20 = .ok (.iload 4, 2) := by decide +kernel
theorem d_U_appendLiveRecords_22 : decode b_U_appendLiveRecords 22 = .ok (.invokevirtual 195, 3) := by decide +kernel
theorem d_U_appendLiveRecords_25 : decode b_U_appendLiveRecords 25 = .ok (.ifCond .ne 6, 3) := by decide +kernel
theorem d_U_appendLiveRecords_28 : decode b_U_appendLiveRecords 28 = .ok (.goto 57, 3) := by decide +kernel
theorem d_U_appendLiveRecords_31 : decode b_U_appendLiveRecords 31 = .ok (.aload_n 0, 1) := by decide +kernel
theorem d_U_appendLiveRecords_32 : decode b_U_appendLiveRecords 32 = .ok (.aload_n 0, 1) := by decide +kernel
theorem d_U_appendLiveRecords_33 : decode b_U_appendLiveRecords 33 = .ok (.getfield 37, 3) := by decide +kernel
theorem d_U_appendLiveRecords_36 : decode b_U_appendLiveRecords 36 = .ok (.getfield 162, 3) := by decide +kernel
theorem d_U_appendLiveRecords_39 : decode b_U_appendLiveRecords 39 = .ok (.iload 4, 2) := by decide +kernel
theorem d_U_appendLiveRecords_41 : decode b_U_appendLiveRecords 41 = .ok (.iaload, 1) := by decide +kernel
theorem d_U_appendLiveRecords_42 : decode b_U_appendLiveRecords 42 = .ok (.aload_n 0, 1) := by decide +kernel
theorem d_U_appendLiveRecords_43 : decode b_U_appendLiveRecords 43 = .ok (.getfield 37, 3) := by decide +kernel
theorem d_U_appendLiveRecords_46 : decode b_U_appendLiveRecords 46 = .ok (.getfield 165, 3) := by decide +kernel
theorem d_U_appendLiveRecords_49 : decode b_U_appendLiveRecords 49 = .ok (.iload 4, 2) := by decide +kernel
theorem d_U_appendLiveRecords_51 : decode b_U_appendLiveRecords 51 = .ok (.iaload, 1) := by decide +kernel
theorem d_U_appendLiveRecords_52 : decode b_U_appendLiveRecords 52 = .ok (.iconst 1, 1) := by decide +kernel
theorem d_U_appendLiveRecords_53 : decode b_U_appendLiveRecords 53 = .ok (.aload_n 0, 1) := by decide +kernel
theorem d_U_appendLiveRecords_54 : decode b_U_appendLiveRecords 54 = .ok (.getfield 37, 3) := by decide +kernel
theorem d_U_appendLiveRecords_57 : decode b_U_appendLiveRecords 57 = .ok (.getfield 87, 3) := by decide +kernel
theorem d_U_appendLiveRecords_60 : decode b_U_appendLiveRecords 60 = .ok (.iload 4, 2) := by decide +kernel
theorem d_U_appendLiveRecords_62 : decode b_U_appendLiveRecords 62 = .ok (.laload, 1) := by decide +kernel
theorem d_U_appendLiveRecords_63 : decode b_U_appendLiveRecords 63 = .ok (.aload_n 0, 1) := by decide +kernel
theorem d_U_appendLiveRecords_64 : decode b_U_appendLiveRecords 64 = .ok (.getfield 37, 3) := by decide +kernel
theorem d_U_appendLiveRecords_67 : decode b_U_appendLiveRecords 67 = .ok (.getfield 91, 3) := by decide +kernel
theorem d_U_appendLiveRecords_70 : decode b_U_appendLiveRecords 70 = .ok (.iload 4, 2) := by decide +kernel
theorem d_U_appendLiveRecords_72 : decode b_U_appendLiveRecords 72 = .ok (.laload, 1) := by decide +kernel
theorem d_U_appendLiveRecords_73 : decode b_U_appendLiveRecords 73 = .ok (.invokevirtual 80, 3) := by decide +kernel
theorem d_U_appendLiveRecords_76 : decode b_U_appendLiveRecords 76 = .ok (.ifCond .ne 6, 3) := by decide +kernel
theorem d_U_appendLiveRecords_79 : decode b_U_appendLiveRecords 79 = .ok (.bipush (-4), 2) := by decide +kernel
theorem d_U_appendLiveRecords_81 : decode b_U_appendLiveRecords 81 = .ok (.ireturn, 1) := by decide +kernel
theorem d_U_appendLiveRecords_82 : decode b_U_appendLiveRecords 82 = .ok (.iinc 3 1, 3) := by decide +kernel
theorem d_U_appendLiveRecords_85 : decode b_U_appendLiveRecords 85 = .ok (.iinc 4 1, 3) := by decide +kernel
theorem d_U_appendLiveRecords_88 : decode b_U_appendLiveRecords 88 = .ok (.goto (-78), 3) := by decide +kernel
theorem d_U_appendLiveRecords_91 : decode b_U_appendLiveRecords 91 = .ok (.iload_n 3, 1) := by decide +kernel
theorem d_U_appendLiveRecords_92 : decode b_U_appendLiveRecords 92 = .ok (.ireturn, 1) := by decide +kernel
