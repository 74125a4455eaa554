theorem d_U_isBlock_0 : decode b_U_isBlock 0 = .ok (.iload_n 0, 1) := by decide +kernel
theorem d_U_isBlock_1 : decode b_U_isBlock 1 = .ok (.ifCond .lt 13, 3) := by decide +kernel
theorem d_U_isBlock_4 : decode b_U_isBlock 4 = .ok (.iload_n 0, 1) := by decide +kernel
theorem d_U_isBlock_5 : decode b_U_isBlock 5 = .ok (.bipush 16, 2) := by decide +kernel
theorem d_U_isBlock_7 : decode b_U_isBlock 7 = .ok (.if_icmp .ge 7, 3) := by decide +kernel
theorem d_U_isBlock_10 : decode b_U_isBlock 10 = .ok (.iconst 1, 1) := by decide +kernel
theorem d_U_isBlock_11 : decode b_U_isBlock 11 = .ok (.goto 4, 3) := by decide +kernel
theorem d_U_isBlock_14 : decode b_U_isBlock 14 = .ok (.iconst 0, 1) := by decide +kernel
theorem d_U_isBlock_15 : decode b_U_isBlock 15 = .ok (.ireturn, 1) := by decide +kernel
theorem d_U_freeSegments_0 : decode b_U_freeSegments 0 = .ok (.iconst 0, 1) := by decide +kernel
theorem d_U_freeSegments_1 : decode b_U_freeSegments 1 = .ok (.istore_n 1, 1) := by decide +kernel
theorem d_U_freeSegments_2 : decode b_U_freeSegments 2 = .ok (.iconst 0, 1) := by decide +kernel
theorem d_U_freeSegments_3 : decode b_U_freeSegments 3 = .ok (.istore_n 2, 1) := by decide +kernel
theorem d_U_freeSegments_4 : decode b_U_freeSegments 4 = .ok (.iload_n 2, 1) := by decide +kernel
theorem d_U_freeSegments_5 : decode b_U_freeSegments 5 = .ok (.aload_n 0, 1) := by decide +kernel
theorem d_U_freeSegments_6 : decode b_U_freeSegments 6 = .ok (.getfield 48, 3) := by decide +kernel
theorem d_U_freeSegments_9 : decode b_U_freeSegments 9 = .ok (.arraylength, 1) := by decide +kernel
theorem d_U_freeSegments_10 : decode b_U_freeSegments 10 = .ok (.if_icmp .ge 21, 3) := by decide +kernel
theorem d_U_freeSegments_13 : decode b_U_freeSegments 13 = .ok (.aload_n 0, 1) := by decide +kernel
theorem d_U_freeSegments_14 : decode b_U_freeSegments 14 = .ok (.getfield 48, 3) := by decide +kernel
theorem d_U_freeSegments_17 : decode b_U_freeSegments 17 = .ok (.iload_n 2, 1) := by decide +kernel
theorem d_U_freeSegments_18 : decode b_U_freeSegments 18 = .ok (.iaload, 1) := by decide +kernel
theorem d_U_freeSegments_19 : decode b_U_freeSegments 19 = .ok (.ifCond .ne 6, 3) := by decide +kernel
theorem d_U_freeSegments_22 : decode b_U_freeSegments 22 = .ok (.iinc 1 1, 3) := by decide +kernel
theorem d_U_freeSegments_25 : decode b_U_freeSegments 25 = .ok (.iinc 2 1, 3) := by decide +kernel
theorem d_U_freeSegments_28 : decode b_U_freeSegments 28 = .ok (.goto (-24), 3) := by decide +kernel
theorem d_U_freeSegments_31 : decode b_U_freeSegments 31 = .ok (.iload_n 1, 1) := by decide +kernel
theorem d_U_freeSegments_32 : decode b_U_freeSegments 32 = .ok (.ireturn, 1) := by decide +kernel
theorem d_D_writeUnit_0 : decode b_D_writeUnit 0 = .ok (.aload_n 0, 1) := by decide +kernel
theorem d_D_writeUnit_1 : decode b_D_writeUnit 1 = .ok (.getfield 9, 3) := by decide +kernel
theorem d_D_writeUnit_4 : decode b_D_writeUnit 4 = .ok (.ifCond .ne 5, 3) := by decide +kernel
theorem d_D_writeUnit_7 : decode b_D_writeUnit 7 = .ok (.iconst 0, 1) := by decide +kernel
theorem d_D_writeUnit_8 : decode b_D_writeUnit 8 = .ok (.ireturn, 1) := by decide +kernel
theorem d_D_writeUnit_9 : decode b_D_writeUnit 9 = .ok (.aload_n 0, 1) := by decide +kernel
theorem d_D_writeUnit_10 : decode b_D_writeUnit 10 = .ok (.getfield 9, 3) := by decide +kernel
theorem d_D_writeUnit_13 : decode b_D_writeUnit 13 = .ok (.ifCond .le 13, 3) := by decide +kernel
theorem d_D_writeUnit_16 : decode b_D_writeUnit 16 = .ok (.aload_n 0, 1) := by decide +kernel
theorem d_D_writeUnit_17 : decode b_D_writeUnit 17 = .ok (.dup, 1) := by decide +kernel
theorem d_D_writeUnit_18 : decode b_D_writeUnit 18 = .ok (.getfield 9, 3) := by decide +kernel
theorem d_D_writeUnit_21 : decode b_D_writeUnit 21 = .ok (.iconst 1, 1) := by decide +kernel
theorem d_D_writeUnit_22 : decode b_D_writeUnit 22 = .ok (.isub, 1) := by decide +kernel
theorem d_D_writeUnit_23 : decode b_D_writeUnit 23 = .ok (.putfield 9, 3) := by decide +kernel
theorem d_D_writeUnit_26 : decode b_D_writeUnit 26 = .ok (.aload_n 0, 1) := by decide +kernel
theorem d_D_writeUnit_27 : decode b_D_writeUnit 27 = .ok (.dup, 1) := by decide +kernel
theorem d_D_writeUnit_28 : decode b_D_writeUnit 28 = .ok (.getfield 15, 3) := by decide +kernel
theorem d_D_writeUnit_31 : decode b_D_writeUnit 31 = .ok (.iconst 1, 1) := by decide +kernel
theorem d_D_writeUnit_32 : decode b_D_writeUnit 32 = .ok (.iadd, 1) := by decide +kernel
theorem d_D_writeUnit_33 : decode b_D_writeUnit 33 = .ok (.putfield 15, 3) := by decide +kernel
theorem d_D_writeUnit_36 : decode b_D_writeUnit 36 = .ok (.iconst 1, 1) := by decide +kernel
theorem d_D_writeUnit_37 : decode b_D_writeUnit 37 = .ok (.ireturn, 1) := by decide +kernel
theorem d_U_saveUnits_0 : decode b_U_saveUnits 0 = .ok (.aload_n 0, 1) := by decide +kernel
theorem d_U_saveUnits_1 : decode b_U_saveUnits 1 = .ok (.getfield 103, 3) := by decide +kernel
theorem d_U_saveUnits_4 : decode b_U_saveUnits 4 = .ok (.istore_n 1, 1) := by decide +kernel
theorem d_U_saveUnits_5 : decode b_U_saveUnits 5 = .ok (.iload_n 1, 1) := by decide +kernel
theorem d_U_saveUnits_6 : decode b_U_saveUnits 6 = .ok (.aload_n 0, 1) := by decide +kernel
theorem d_U_saveUnits_7 : decode b_U_saveUnits 7 = .ok (.getfield 101, 3) := by decide +kernel
theorem d_U_saveUnits_10 : decode b_U_saveUnits 10 = .ok (.if_icmp .ge 28, 3) := by decide +kernel
theorem d_U_saveUnits_13 : decode b_U_saveUnits 13 = .ok (.aload_n 0, 1) := by decide +kernel
theorem d_U_saveUnits_14 : decode b_U_saveUnits 14 = .ok (.getfield 21, 3) := by decide +kernel
theorem d_U_saveUnits_17 : decode b_U_saveUnits 17 = .ok (.invokevirtual 175, 3) := by decide +kernel
theorem d_U_saveUnits_20 : decode b_U_saveUnits 20 = .ok (.ifCond .ne 5, 3) := by decide +kernel
theorem d_U_saveUnits_23 : decode b_U_saveUnits 23 = .ok (.iconst 0, 1) := by decide +kernel
theorem d_U_saveUnits_24 : decode b_U_saveUnits 24 = .ok (.ireturn, 1) := by decide +kernel
theorem d_U_saveUnits_25 : decode b_U_saveUnits 25 = .ok (.aload_n 0, 1) := by decide +kernel
theorem d_U_saveUnits_26 : decode b_U_saveUnits 26 = .ok (.iload_n 1, 1) := by decide +kernel
theorem d_U_saveUnits_27 : decode b_U_saveUnits 27 = .ok (.iconst 1, 1) := by decide +kernel
theorem d_U_saveUnits_28 : decode b_U_saveUnits 28 = .ok (.iadd, 1) := by decide +kernel
theorem d_U_saveUnits_29 : decode b_U_saveUnits 29 = .ok (.putfield 103, 3) := by decide +kernel
theorem d_U_saveUnits_32 : decode b_U_saveUnits 32 = .ok (.iinc 1 1, 3) := by decide +kernel
theorem d_U_saveUnits_35 : decode b_U_saveUnits 35 = .ok (.goto (-30), 3) := by decide +kernel
theorem d_U_saveUnits_38 : decode b_U_saveUnits 38 = .ok (.iconst 1, 1) := by decide +kernel
theorem d_U_saveUnits_39 : decode b_U_saveUnits 39 = .ok (.ireturn, 1) := by decide +kernel
