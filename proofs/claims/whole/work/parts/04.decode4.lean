theorem d_M_refusal_0 : decode b_M_refusal 0 = .ok (.aload_n 0, 1) := by decide +kernel
theorem d_M_refusal_1 : decode b_M_refusal 1 = .ok (.getfield 77, 3) := by decide +kernel
theorem d_M_refusal_4 : decode b_M_refusal 4 = .ok (.ifCond .eq 8, 3) := by decide +kernel
theorem d_M_refusal_7 : decode b_M_refusal 7 = .ok (.bipush (-4), 2) := by decide +kernel
theorem d_M_refusal_9 : decode b_M_refusal 9 = .ok (.goto 29, 3) := by decide +kernel
theorem d_M_refusal_12 : decode b_M_refusal 12 = .ok (.iload_n 1, 1) := by decide +kernel
theorem d_M_refusal_13 : decode b_M_refusal 13 = .ok (.invokestatic 115, 3) := by decide +kernel
theorem d_M_refusal_16 : decode b_M_refusal 16 = .ok (.ifCond .ne 7, 3) := by decide +kernel
theorem d_M_refusal_19 : decode b_M_refusal 19 = .ok (.iconst (-1), 1) := by decide +kernel
theorem d_M_refusal_20 : decode b_M_refusal 20 = .ok (.goto 18, 3) := by decide +kernel
theorem d_M_refusal_23 : decode b_M_refusal 23 = .ok (.aload_n 0, 1) := by decide +kernel
theorem d_M_refusal_24 : decode b_M_refusal 24 = .ok (.getfield 45, 3) := by decide +kernel
theorem d_M_refusal_27 : decode b_M_refusal 27 = .ok (.iload_n 1, 1) := by decide +kernel
theorem d_M_refusal_28 : decode b_M_refusal 28 = .ok (.iaload, 1) := by decide +kernel
theorem d_M_refusal_29 : decode b_M_refusal 29 = .ok (.ifCond .ge 8, 3) := by decide +kernel
theorem d_M_refusal_32 : decode b_M_refusal 32 = .ok (.bipush (-2), 2) := by decide +kernel
theorem d_M_refusal_34 : decode b_M_refusal 34 = .ok (.goto 4, 3) := by decide +kernel
theorem d_M_refusal_37 : decode b_M_refusal 37 = .ok (.iconst 0, 1) := by decide +kernel
theorem d_M_refusal_38 : decode b_M_refusal 38 = .ok (.ireturn, 1) := by decide +kernel
theorem d_M_packed_0 : decode b_M_packed 0 = .ok (.aload_n 0, 1) := by decide +kernel
theorem d_M_packed_1 : decode b_M_packed 1 = .ok (.iload_n 1, 1) := by decide +kernel
theorem d_M_packed_2 : decode b_M_packed 2 = .ok (.invokevirtual 130, 3) := by decide +kernel
theorem d_M_packed_5 : decode b_M_packed 5 = .ok (.istore_n 3, 1) := by decide +kernel
theorem d_M_packed_6 : decode b_M_packed 6 = .ok (.iload_n 3, 1) := by decide +kernel
theorem d_M_packed_7 : decode b_M_packed 7 = .ok (.ifCond .eq 5, 3) := by decide +kernel
theorem d_M_packed_10 : decode b_M_packed 10 = .ok (.iload_n 3, 1) := by decide +kernel
theorem d_M_packed_11 : decode b_M_packed 11 = .ok (.ireturn, 1) := by decide +kernel
theorem d_M_packed_12 : decode b_M_packed 12 = .ok (.aload_n 0, 1) := by decide +kernel
theorem d_M_packed_13 : decode b_M_packed 13 = .ok (.aload_n 0, 1) := by decide +kernel
theorem d_M_packed_14 : decode b_M_packed 14 = .ok (.getfield 38, 3) := by decide +kernel
theorem d_M_packed_17 : decode b_M_packed 17 = .ok (.aload_n 0, 1) := by decide +kernel
theorem d_M_packed_18 : decode b_M_packed 18 = .ok (.getfield 45, 3) := by decide +kernel
theorem d_M_packed_21 : decode b_M_packed 21 = .ok (.iload_n 1, 1) := by decide +kernel
theorem d_M_packed_22 : decode b_M_packed 22 = .ok (.iaload, 1) := by decide +kernel
theorem d_M_packed_23 : decode b_M_packed 23 = .ok (.laload, 1) := by decide +kernel
theorem d_M_packed_24 : decode b_M_packed 24 = .ok (.aload_n 0, 1) := by decide +kernel
theorem d_M_packed_25 : decode b_M_packed 25 = .ok (.getfield 42, 3) := by decide +kernel
theorem d_M_packed_28 : decode b_M_packed 28 = .ok (.aload_n 0, 1) := by decide +kernel
theorem d_M_packed_29 : decode b_M_packed 29 = .ok (.getfield 45, 3) := by decide +kernel
theorem d_M_packed_32 : decode b_M_packed 32 = .ok (.iload_n 1, 1) := by decide +kernel
theorem d_M_packed_33 : decode b_M_packed 33 = .ok (.iaload, 1) := by decide +kernel
theorem d_M_packed_34 : decode b_M_packed 34 = .ok (.laload, 1) := by decide +kernel
theorem d_M_packed_35 : decode b_M_packed 35 = .ok (.invokevirtual 119, 3) := by decide +kernel
theorem d_M_packed_38 : decode b_M_packed 38 = .ok (.iload_n 2, 1) := by decide +kernel
theorem d_M_packed_39 : decode b_M_packed 39 = .ok (.iconst (-1), 1) := by decide +kernel
theorem d_M_packed_40 : decode b_M_packed 40 = .ok (.if_icmp .lt 11, 3) := by decide +kernel
theorem d_M_packed_43 : decode b_M_packed 43 = .ok (.iload_n 2, 1) := by decide +kernel
theorem d_M_packed_44 : decode b_M_packed 44 = .ok (.aload_n 0, 1) := by decide +kernel
theorem d_M_packed_45 : decode b_M_packed 45 = .ok (.getfield 67, 3) := by decide +kernel
theorem d_M_packed_48 : decode b_M_packed 48 = .ok (.if_icmp .lt 7, 3) := by decide +kernel
theorem d_M_packed_51 : decode b_M_packed 51 = .ok (.iconst (-1), 1) := by decide +kernel
theorem d_M_packed_52 : decode b_M_packed 52 = .ok (.goto 20, 3) := by decide +kernel
theorem d_M_packed_55 : decode b_M_packed 55 = .ok (.iload_n 2, 1) := by decide +kernel
theorem d_M_packed_56 : decode b_M_packed 56 = .ok (.ifCond .ge 10, 3) := by decide +kernel
theorem d_M_packed_59 : decode b_M_packed 59 = .ok (.aload_n 0, 1) := by decide +kernel
theorem d_M_packed_60 : decode b_M_packed 60 = .ok (.getfield 67, 3) := by decide +kernel
theorem d_M_packed_63 : decode b_M_packed 63 = .ok (.goto 9, 3) := by decide +kernel
theorem d_M_packed_66 : decode b_M_packed 66 = .ok (.aload_n 0, 1) := by decide +kernel
theorem d_M_packed_67 : decode b_M_packed 67 = .ok (.getfield 54, 3) := by decide +kernel
theorem d_M_packed_70 : decode b_M_packed 70 = .ok (.iload_n 2, 1) := by decide +kernel
theorem d_M_packed_71 : decode b_M_packed 71 = .ok (.iaload, 1) := by decide +kernel
theorem d_M_packed_72 : decode b_M_packed 72 = .ok (.ireturn, 1) := by decide +kernel
theorem d_M_place_0 : decode b_M_place 0 = .ok (.aload_n 0, 1) := by decide +kernel
theorem d_M_place_1 : decode b_M_place 1 = .ok (.iload_n 1, 1) := by decide +kernel
theorem d_M_place_2 : decode b_M_place 2 = .ok (.invokevirtual 130, 3) := by decide +kernel
theorem d_M_place_5 : decode b_M_place 5 = .ok (.istore_n 2, 1) := by decide +kernel
theorem d_M_place_6 : decode b_M_place 6 = .ok (.iload_n 2, 1) := by decide +kernel
theorem d_M_place_7 : decode b_M_place 7 = .ok (.ifCond .eq 7, 3) := by decide +kernel
theorem d_M_place_10 : decode b_M_place 10 = .ok (.iload_n 2, 1) := by decide +kernel
theorem d_M_place_11 : decode b_M_place 11 = .ok (.goto 27, 3) := by decide +kernel
theorem d_M_place_14 : decode b_M_place 14 = .ok (.bipush 16, 2) := by decide +kernel
theorem d_M_place_16 : decode b_M_place 16 = .ok (.aload_n 0, 1) := by decide +kernel
theorem d_M_place_17 : decode b_M_place 17 = .ok (.getfield 45, 3) := by decide +kernel
theorem d_M_place_20 : decode b_M_place 20 = .ok (.iload_n 1, 1) := by decide +kernel
theorem d_M_place_21 : decode b_M_place 21 = .ok (.iaload, 1) := by decide +kernel
theorem d_M_place_22 : decode b_M_place 22 = .ok (.bipush 8, 2) := by decide +kernel
theorem d_M_place_24 : decode b_M_place 24 = .ok (.idiv, 1) := by decide +kernel
theorem d_M_place_25 : decode b_M_place 25 = .ok (.imul, 1) := by decide +kernel
theorem d_M_place_26 : decode b_M_place 26 = .ok (.aload_n 0, 1) := by decide +kernel
theorem d_M_place_27 : decode b_M_place 27 = .ok (.getfield 29, 3) := by decide +kernel
theorem d_M_place_30 : decode b_M_place 30 = .ok (.aload_n 0, 1) := by decide +kernel
theorem d_M_place_31 : decode b_M_place 31 = .ok (.getfield 45, 3) := by decide +kernel
theorem d_M_place_34 : decode b_M_place 34 = .ok (.iload_n 1, 1) := by decide +kernel
theorem d_M_place_35 : decode b_M_place 35 = .ok (.iaload, 1) := by decide +kernel
theorem d_M_place_36 : decode b_M_place 36 = .ok (.iaload, 1) := by decide +kernel
theorem d_M_place_37 : decode b_M_place 37 = .ok (.iadd, 1) := by decide +kernel
theorem d_M_place_38 : decode b_M_place 38 = .ok (.ireturn, 1) := by decide +kernel
theorem d_M_flush_0 : decode b_M_flush 0 = .ok (.aload_n 0, 1) := by decide +kernel
theorem d_M_flush_1 : decode b_M_flush 1 = .ok (.getfield 77, 3) := by decide +kernel
theorem d_M_flush_4 : decode b_M_flush 4 = .ok (.ifCond .eq 8, 3) := by decide +kernel
theorem d_M_flush_7 : decode b_M_flush 7 = .ok (.bipush (-4), 2) := by decide +kernel
theorem d_M_flush_9 : decode b_M_flush 9 = .ok (.goto 7, 3) := by decide +kernel
theorem d_M_flush_12 : decode b_M_flush 12 = .ok (.aload_n 0, 1) := by decide +kernel
theorem d_M_flush_13 : decode b_M_flush 13 = .ok (.invokevirtual 90, 3) := by decide +kernel
theorem d_M_flush_16 : decode b_M_flush 16 = .ok (.ireturn, 1) := by decide +kernel
theorem d_M_checkpoint_0 : decode b_M_checkpoint 0 = .ok (.aload_n 0, 1) := by decide +kernel
theorem d_M_checkpoint_1 : decode b_M_checkpoint 1 = .ok (.getfield 77, 3) := by decide +kernel
theorem d_M_checkpoint_4 : decode b_M_checkpoint 4 = .ok (.ifCond .ne 10, 3) := by decide +kernel
theorem d_M_checkpoint_7 : decode b_M_checkpoint 7 = .ok (.aload_n 0, 1) := by decide +kernel
theorem d_M_checkpoint_8 : decode b_M_checkpoint 8 = .ok (.invokevirtual 134, 3) := by decide +kernel
theorem d_M_checkpoint_11 : decode b_M_checkpoint 11 = .ok (.ifCond .ne 8, 3) := by decide +kernel
theorem d_M_checkpoint_14 : decode b_M_checkpoint 14 = .ok (.bipush (-4), 2) := by decide +kernel
theorem d_M_checkpoint_16 : decode b_M_checkpoint 16 = .ok (.goto 7, 3) := by decide +kernel
theorem d_M_checkpoint_19 : decode b_M_checkpoint 19 = .ok (.aload_n 0, 1) := by decide +kernel
theorem d_M_checkpoint_20 : decode b_M_checkpoint 20 = .ok (.getfield 94, 3) := by decide +kernel
theorem d_M_checkpoint_23 : decode b_M_checkpoint 23 = .ok (.ireturn, 1) := by decide +kernel
theorem d_M_liveUnits_0 : decode b_M_liveUnits 0 = .ok (.iconst 0, 1) := by decide +kernel
theorem d_M_liveUnits_1 : decode b_M_liveUnits 1 = .ok (.istore_n 2, 1) := by decide +kernel
theorem d_M_liveUnits_2 : decode b_M_liveUnits 2 = .ok (.iconst 0, 1) := by decide +kernel
theorem d_M_liveUnits_3 : decode b_M_liveUnits 3 = .ok (.istore_n 3, 1) := by decide +kernel
theorem d_M_liveUnits_4 : decode b_M_liveUnits 4 = .ok (.iload_n 3, 1) := by decide +kernel
theorem d_M_liveUnits_5 : decode b_M_liveUnits 5 = .ok (.bipush 16, 2) := by decide +kernel
theorem d_M_liveUnits_7 : decode b_M_liveUnits 7 = .ok (.if_icmp .ge 45, 3) := by decide +kernel
theorem d_M_liveUnits_10 : decode b_M_liveUnits 10 = .ok (.aload_n 0, 1) := by decide +kernel
theorem d_M_liveUnits_11 : decode b_M_liveUnits 11 = .ok (.getfield 45, 3) := by decide +kernel
theorem d_M_liveUnits_14 : decode b_M_liveUnits 14 = .ok (.iload_n 3, 1) := by decide +kernel
theorem d_M_liveUnits_15 : decode b_M_liveUnits 15 = .ok (.iaload, 1) := by decide +kernel
theorem d_M_liveUnits_16 : decode b_M_liveUnits 16 = .ok (.ifCond .lt 30, 3) := by decide +kernel
theorem d_M_liveUnits_19 : decode b_M_liveUnits 19 = .ok (.aload_n 0, 1) := by decide +kernel
theorem d_M_liveUnits_20 : decode b_M_liveUnits 20 = .ok (.getfield 45, 3) := by decide +kernel
theorem d_M_liveUnits_23 : decode b_M_liveUnits 23 = .ok (.iload_n 3, 1) := by decide +kernel
theorem d_M_liveUnits_24 : decode b_M_liveUnits 24 = .ok (.iaload, 1) := by decide +kernel
theorem d_M_liveUnits_25 : decode b_M_liveUnits 25 = .ok (.bipush 8, 2) := by decide +kernel
theorem d_M_liveUnits_27 : decode b_M_liveUnits 27 = .ok (.idiv, 1) := by decide +kernel
theorem d_M_liveUnits_28 : decode b_M_liveUnits 28 = .ok (.iload_n 1, 1) := by decide +kernel
theorem d_M_liveUnits_29 : decode b_M_liveUnits 29 = .ok (.if_icmp .ne 17, 3) := by decide +kernel
theorem d_M_liveUnits_32 : decode b_M_liveUnits 32 = .ok (.iload_n 2, 1) := by decide +kernel
theorem d_M_liveUnits_33 : decode b_M_liveUnits 33 = .ok (.aload_n 0, 1) := by decide +kernel
theorem d_M_liveUnits_34 : decode b_M_liveUnits 34 = .ok (.getfield 32, 3) := by decide +kernel
theorem d_M_liveUnits_37 : decode b_M_liveUnits 37 = .ok (.aload_n 0, 1) := by decide +kernel
theorem d_M_liveUnits_38 : decode b_M_liveUnits 38 = .ok (.getfield 45, 3) := by decide +kernel
theorem d_M_liveUnits_41 : decode b_M_liveUnits 41 = .ok (.iload_n 3, 1) := by decide +kernel
theorem d_M_liveUnits_42 : decode b_M_liveUnits 42 = .ok (.iaload, 1) := by decide +kernel
theorem d_M_liveUnits_43 : decode b_M_liveUnits 43 = .ok (.iaload, 1) := by decide +kernel
theorem d_M_liveUnits_44 : decode b_M_liveUnits 44 = .ok (.iadd, 1) := by decide +kernel
theorem d_M_liveUnits_45 : decode b_M_liveUnits 45 = .ok (.istore_n 2, 1) := by decide +kernel
theorem d_M_liveUnits_46 : decode b_M_liveUnits 46 = .ok (.iinc 3 1, 3) := by decide +kernel
theorem d_M_liveUnits_49 : decode b_M_liveUnits 49 = .ok (.goto (-45), 3) := by decide +kernel
theorem d_M_liveUnits_52 : decode b_M_liveUnits 52 = .ok (.iload_n 2, 1) := by decide +kernel
theorem d_M_liveUnits_53 : decode b_M_liveUnits 53 = .ok (.ireturn, 1) := by decide +kernel
theorem d_M_victim_0 : decode b_M_victim 0 = .ok (.iconst (-1), 1) := by decide +kernel
theorem d_M_victim_1 : decode b_M_victim 1 = .ok (.istore_n 1, 1) := by decide +kernel
theorem d_M_victim_2 : decode b_M_victim 2 = .ok (.iconst 0, 1) := by decide +kernel
theorem d_M_victim_3 : decode b_M_victim 3 = .ok (.istore_n 2, 1) := by decide +kernel
theorem d_M_victim_4 : decode b_M_victim 4 = .ok (.iload_n 2, 1) := by decide +kernel
theorem d_M_victim_5 : decode b_M_victim 5 = .ok (.aload_n 0, 1) := by decide +kernel
theorem d_M_victim_6 : decode b_M_victim 6 = .ok (.getfield 57, 3) := by decide +kernel
theorem d_M_victim_9 : decode b_M_victim 9 = .ok (.if_icmp .ge 38, 3) := by decide +kernel
theorem d_M_victim_12 : decode b_M_victim 12 = .ok (.aload_n 0, 1) := by decide +kernel
theorem d_M_victim_13 : decode b_M_victim 13 = .ok (.getfield 7, 3) := by decide +kernel
theorem d_M_victim_16 : decode b_M_victim 16 = .ok (.iload_n 2, 1) := by decide +kernel
theorem d_M_victim_17 : decode b_M_victim 17 = .ok (.iaload, 1) := by decide +kernel
theorem d_M_victim_18 : decode b_M_victim 18 = .ok (.iconst 2, 1) := by decide +kernel
theorem d_M_victim_19 : decode b_M_victim 19 = .ok (.if_icmp .ne 22, 3) := by decide +kernel
theorem d_M_victim_22 : decode b_M_victim 22 = .ok (.iload_n 1, 1) := by decide +kernel
theorem d_M_victim_23 : decode b_M_victim 23 = .ok (.ifCond .lt 16, 3) := by decide +kernel
theorem d_M_victim_26 : decode b_M_victim 26 = .ok (.aload_n 0, 1) := by decide +kernel
theorem d_M_victim_27 : decode b_M_victim 27 = .ok (.iload_n 2, 1) := by decide +kernel
theorem d_M_victim_28 : decode b_M_victim 28 = .ok (.invokevirtual 137, 3) := by decide +kernel
theorem d_M_victim_31 : decode b_M_victim 31 = .ok (.aload_n 0, 1) := by decide +kernel
theorem d_M_victim_32 : decode b_M_victim 32 = .ok (.iload_n 1, 1) := by decide +kernel
theorem d_M_victim_33 : decode b_M_victim 33 = .ok (.invokevirtual 137, 3) := by decide +kernel
theorem d_M_victim_36 : decode b_M_victim 36 = .ok (.if_icmp .ge 5, 3) := by decide +kernel
theorem d_M_victim_39 : decode b_M_victim 39 = .ok (.iload_n 2, 1) := by decide +kernel
theorem d_M_victim_40 : decode b_M_victim 40 = .ok (.istore_n 1, 1) := by decide +kernel
theorem d_M_victim_41 : decode b_M_victim 41 = .ok (.iinc 2 1, 3) := by decide +kernel
theorem d_M_victim_44 : decode b_M_victim 44 = .ok (.goto (-40), 3) := by decide +kernel
theorem d_M_victim_47 : decode b_M_victim 47 = .ok (.iload_n 1, 1) := by decide +kernel
theorem d_M_victim_48 : decode b_M_victim 48 = .ok (.ireturn, 1) := by decide +kernel
theorem d_M_isLatest_0 : decode b_M_isLatest 0 = .ok (.aload_n 0, 1) := by decide +kernel
theorem d_M_isLatest_1 : decode b_M_isLatest 1 = .ok (.getfield 25, 3) := by decide +kernel
theorem d_M_isLatest_4 : decode b_M_isLatest 4 = .ok (.iload_n 1, 1) := by decide +kernel
theorem d_M_isLatest_5 : decode b_M_isLatest 5 = .ok (.baload, 1) := by decide +kernel
theorem d_M_isLatest_6 : decode b_M_isLatest 6 = .ok (.ifCond .eq 22, 3) := by decide +kernel
theorem d_M_isLatest_9 : decode b_M_isLatest 9 = .ok (.aload_n 0, 1) := by decide +kernel
theorem d_M_isLatest_10 : decode b_M_isLatest 10 = .ok (.getfield 45, 3) := by decide +kernel
theorem d_M_isLatest_13 : decode b_M_isLatest 13 = .ok (.aload_n 0, 1) := by decide +kernel
theorem d_M_isLatest_14 : decode b_M_isLatest 14 = .ok (.getfield 22, 3) := by decide +kernel
theorem d_M_isLatest_17 : decode b_M_isLatest 17 = .ok (.iload_n 1, 1) := by decide +kernel
theorem d_M_isLatest_18 : decode b_M_isLatest 18 = .ok (.iaload, 1) := by decide +kernel
theorem d_M_isLatest_19 : decode b_M_isLatest 19 = .ok (.iaload, 1) := by decide +kernel
theorem d_M_isLatest_20 : decode b_M_isLatest 20 = .ok (.iload_n 1, 1) := by decide +kernel
theorem d_M_isLatest_21 : decode b_M_isLatest 21 = .ok (.if_icmp .ne 7, 3) := by decide +kernel
theorem d_M_isLatest_24 : decode b_M_isLatest 24 = .ok (.iconst 1, 1) := by decide +kernel
theorem d_M_isLatest_25 : decode b_M_isLatest 25 = .ok (.goto 4, 3) := by decide +kernel
theorem d_M_isLatest_28 : decode b_M_isLatest 28 = .ok (.iconst 0, 1) := by decide +kernel
theorem d_M_isLatest_29 : decode b_M_isLatest 29 = .ok (.ireturn, 1) := by decide +kernel
theorem d_M_fits_0 : decode b_M_fits 0 = .ok (.bipush 16, 2) := by decide +kernel
theorem d_M_fits_2 : decode b_M_fits 2 = .ok (.aload_n 0, 1) := by decide +kernel
theorem d_M_fits_3 : decode b_M_fits 3 = .ok (.getfield 13, 3) := by decide +kernel
theorem d_M_fits_6 : decode b_M_fits 6 = .ok (.aload_n 0, 1) := by decide +kernel
theorem d_M_fits_7 : decode b_M_fits 7 = .ok (.getfield 83, 3) := by decide +kernel
theorem d_M_fits_10 : decode b_M_fits 10 = .ok (.iaload, 1) := by decide +kernel
theorem d_M_fits_11 : decode b_M_fits 11 = .ok (.isub, 1) := by decide +kernel
theorem d_M_fits_12 : decode b_M_fits 12 = .ok (.istore_n 2, 1) := by decide +kernel
theorem d_M_fits_13 : decode b_M_fits 13 = .ok (.aload_n 0, 1) := by decide +kernel
theorem d_M_fits_14 : decode b_M_fits 14 = .ok (.invokevirtual 112, 3) := by decide +kernel
theorem d_M_fits_17 : decode b_M_fits 17 = .ok (.istore_n 3, 1) := by decide +kernel
theorem d_M_fits_18 : decode b_M_fits 18 = .ok (.bipush 8, 2) := by decide +kernel
theorem d_M_fits_20 : decode b_M_fits 20 = .ok (.iload_n 1, 1) := by decide +kernel
theorem d_M_fits_21 : decode b_M_fits 21 = .ok (.imul, 1) := by decide +kernel
theorem d_M_fits_22 : decode b_M_fits 22 = .ok (.istore 4, 2) := by decide +kernel
theorem d_M_fits_24 : decode b_M_fits 24 = .ok (.iload 4, 2) := by decide +kernel
theorem d_M_fits_26 : decode b_M_fits 26 = .ok (.bipush 8, 2) := by decide +kernel
theorem d_M_fits_28 : decode b_M_fits 28 = .ok (.iload_n 1, 1) := by decide +kernel
theorem d_M_fits_29 : decode b_M_fits 29 = .ok (.imul, 1) := by decide +kernel
theorem d_M_fits_30 : decode b_M_fits 30 = .ok (.aload_n 0, 1) := by decide +kernel
theorem d_M_fits_31 : decode b_M_fits 31 = .ok (.getfield 19, 3) := by decide +kernel
theorem d_M_fits_34 : decode b_M_fits 34 = .ok (.iload_n 1, 1) := by decide +kernel
theorem d_M_fits_35 : decode b_M_fits 35 = .ok (.iaload, 1) := by decide +kernel
theorem d_M_fits_36 : decode b_M_fits 36 = .ok (.iadd, 1) := by decide +kernel
theorem d_M_fits_37 : decode b_M_fits 37 = .ok (.if_icmp .ge 48, 3) := by decide +kernel
theorem d_M_fits_40 : decode b_M_fits 40 = .ok (.aload_n 0, 1) := by decide +kernel
theorem d_M_fits_41 : decode b_M_fits 41 = .ok (.iload 4, 2) := by decide +kernel
theorem d_M_fits_43 : decode b_M_fits 43 = .ok (.invokevirtual 140, 3) := by decide +kernel
theorem d_M_fits_46 : decode b_M_fits 46 = .ok (.ifCond .ne 6, 3) := by decide +kernel
theorem d_M_fits_49 : decode b_M_fits 49 = .ok (.goto 30, 3) := by decide +kernel
theorem d_M_fits_52 : decode b_M_fits 52 = .ok (.aload_n 0, 1) := by decide +kernel
theorem d_M_fits_53 : decode b_M_fits 53 = .ok (.getfield 32, 3) := by decide +kernel
theorem d_M_fits_56 : decode b_M_fits 56 = .ok (.iload 4, 2) := by decide +kernel
theorem d_M_fits_58 : decode b_M_fits 58 = .ok (.iaload, 1) := by decide +kernel
theorem d_M_fits_59 : decode b_M_fits 59 = .ok (.iload_n 2, 1) := by decide +kernel
theorem d_M_fits_60 : decode b_M_fits 60 = .ok (.if_icmp .le 9, 3) := by decide +kernel
theorem d_M_fits_63 : decode b_M_fits 63 = .ok (.iinc 3 (-1), 3) := by decide +kernel
theorem d_M_fits_66 : decode b_M_fits 66 = .ok (.bipush 16, 2) := by decide +kernel
theorem d_M_fits_68 : decode b_M_fits 68 = .ok (.istore_n 2, 1) := by decide +kernel
theorem d_M_fits_69 : decode b_M_fits 69 = .ok (.iload_n 2, 1) := by decide +kernel
theorem d_M_fits_70 : decode b_M_fits 70 = .ok (.aload_n 0, 1) := by decide +kernel
theorem d_M_fits_71 : decode b_M_fits 71 = .ok (.getfield 32, 3) := by decide +kernel
theorem d_M_fits_74 : decode b_M_fits 74 = .ok (.iload 4, 2) := by decide +kernel
theorem d_M_fits_76 : decode b_M_fits 76 = .ok (.iaload, 1) := by decide +kernel
theorem d_M_fits_77 : decode b_M_fits 77 = .ok (.isub, 1) := by decide +kernel
theorem d_M_fits_78 : decode b_M_fits 78 = .ok (.istore_n 2, 1) := by decide +kernel
theorem d_M_fits_79 : decode b_M_fits 79 = .ok (.iinc 4 1, 3) := by decide +kernel
theorem d_M_fits_82 : decode b_M_fits 82 = .ok (.goto (-58), 3) := by decide +kernel
theorem d_M_fits_85 : decode b_M_fits 85 = .ok (.iload_n 3, 1) := by decide +kernel
theorem d_M_fits_86 : decode b_M_fits 86 = .ok (.ifCond .lt 7, 3) := by decide +kernel
theorem d_M_fits_89 : decode b_M_fits 89 = .ok (.iconst 1, 1) := by decide +kernel
theorem d_M_fits_90 : decode b_M_fits 90 = .ok (.goto 4, 3) := by decide +kernel
theorem d_M_fits_93 : decode b_M_fits 93 = .ok (.iconst 0, 1) := by decide +kernel
theorem d_M_fits_94 : decode b_M_fits 94 = .ok (.ireturn, 1) := by decide +kernel
theorem d_M_clean_0 : decode b_M_clean 0 = .ok (.aload_n 0, 1) := by decide +kernel
theorem d_M_clean_1 : decode b_M_clean 1 = .ok (.getfield 77, 3) := by decide +kernel
theorem d_M_clean_4 : decode b_M_clean 4 = .ok (.ifCond .eq 6, 3) := by decide +kernel
theorem d_M_clean_7 : decode b_M_clean 7 = .ok (.bipush (-4), 2) := by decide +kernel
theorem d_M_clean_9 : decode b_M_clean 9 = .ok (.ireturn, 1) := by decide +kernel
theorem d_M_clean_10 : decode b_M_clean 10 = .ok (.aload_n 0, 1) := by decide +kernel
theorem d_M_clean_11 : decode b_M_clean 11 = .ok (.invokevirtual 143, 3) := by decide +kernel
theorem d_M_clean_14 : decode b_M_clean 14 = .ok (.istore_n 1, 1) := by decide +kernel
theorem d_M_clean_15 : decode b_M_clean 15 = .ok (.iload_n 1, 1) := by decide +kernel
theorem d_M_clean_16 : decode b_M_clean 16 = .ok (.ifCond .ge 6, 3) := by decide +kernel
theorem d_M_clean_19 : decode b_M_clean 19 = .ok (.bipush (-2), 2) := by decide +kernel
theorem d_M_clean_21 : decode b_M_clean 21 = .ok (.ireturn, 1) := by decide +kernel
theorem d_M_clean_22 : decode b_M_clean 22 = .ok (.aload_n 0, 1) := by decide +kernel
theorem d_M_clean_23 : decode b_M_clean 23 = .ok (.iload_n 1, 1) := by decide +kernel
theorem d_M_clean_24 : decode b_M_clean 24 = .ok (.invokevirtual 146, 3) := by decide +kernel
theorem d_M_clean_27 : decode b_M_clean 27 = .ok (.ifCond .ne 6, 3) := by decide +kernel
theorem d_M_clean_30 : decode b_M_clean 30 = .ok (.bipush (-3), 2) := by decide +kernel
theorem d_M_clean_32 : decode b_M_clean 32 = .ok (.ireturn, 1) := by decide +kernel
theorem d_M_clean_33 : decode b_M_clean 33 = .ok (.aload_n 0, 1) := by decide +kernel
theorem d_M_clean_34 : decode b_M_clean 34 = .ok (.invokevirtual 134, 3) := by decide +kernel
theorem d_M_clean_37 : decode b_M_clean 37 = .ok (.ifCond .ne 6, 3) := by decide +kernel
theorem d_M_clean_40 : decode b_M_clean 40 = .ok (.bipush (-4), 2) := by decide +kernel
theorem d_M_clean_42 : decode b_M_clean 42 = .ok (.ireturn, 1) := by decide +kernel
theorem d_M_clean_43 : decode b_M_clean 43 = .ok (.iconst 0, 1) := by decide +kernel
theorem d_M_clean_44 : decode b_M_clean 44 = .ok (.istore_n 2, 1) := by decide +kernel
theorem d_M_clean_45 : decode b_M_clean 45 = .ok (.bipush 8, 2) := by decide +kernel
theorem d_M_clean_47 : decode b_M_clean 47 = .ok (.iload_n 1, 1) := by decide +kernel
theorem d_M_clean_48 : decode b_M_clean 48 = .ok (.imul, 1) := by decide +kernel
theorem d_M_clean_49 : decode b_M_clean 49 = .ok (.istore_n 3, 1) := by decide +kernel
theorem d_M_clean_50 : decode b_M_clean 50 = .ok (.iload_n 3, 1) := by decide +kernel
theorem d_M_clean_51 : decode b_M_clean 51 = .ok (.bipush 8, 2) := by decide +kernel
theorem d_M_clean_53 : decode b_M_clean 53 = .ok (.iload_n 1, 1) := by decide +kernel
theorem d_M_clean_54 : decode b_M_clean 54 = .ok (.imul, 1) := by decide +kernel
theorem d_M_clean_55 : decode b_M_clean 55 = .ok (.aload_n 0, 1) := by decide +kernel
theorem d_M_clean_56 : decode b_M_clean 56 = .ok (.getfield 19, 3) := by decide +kernel
theorem d_M_clean_59 : decode b_M_clean 59 = .ok (.iload_n 1, 1) := by decide +kernel
theorem d_M_clean_60 : decode b_M_clean 60 = .ok (.iaload, 1) := by decide +kernel
theorem d_M_clean_61 : decode b_M_clean 61 = .ok (.iadd, 1) := by decide +kernel
theorem d_M_clean_62 : decode b_M_clean 62 = .ok (.if_icmp .ge 58, 3) := by decide +kernel
theorem d_M_clean_65 : decode b_M_clean 65 = .ok (.aload_n 0, 1) := by decide +kernel
theorem d_M_clean_66 : decode b_M_clean 66 = .ok (.iload_n 3, 1) := by decide +kernel
theorem d_M_clean_67 : decode b_M_clean 67 = .ok (.invokevirtual 140, 3) := by decide +kernel
theorem d_M_clean_70 : decode b_M_clean 70 = .ok (.ifCond .ne 6, 3) := by decide +kernel
theorem d_M_clean_73 : decode b_M_clean 73 = .ok (.goto 41, 3) := by decide +kernel
theorem d_M_clean_76 : decode b_M_clean 76 = .ok (.aload_n 0, 1) := by decide +kernel
theorem d_M_clean_77 : decode b_M_clean 77 = .ok (.aload_n 0, 1) := by decide +kernel
theorem d_M_clean_78 : decode b_M_clean 78 = .ok (.getfield 22, 3) := by decide +kernel
theorem d_M_clean_81 : decode b_M_clean 81 = .ok (.iload_n 3, 1) := by decide +kernel
theorem d_M_clean_82 : decode b_M_clean 82 = .ok (.iaload, 1) := by decide +kernel
theorem d_M_clean_83 : decode b_M_clean 83 = .ok (.iconst 1, 1) := by decide +kernel
theorem d_M_clean_84 : decode b_M_clean 84 = .ok (.aload_n 0, 1) := by decide +kernel
theorem d_M_clean_85 : decode b_M_clean 85 = .ok (.getfield 32, 3) := by decide +kernel
theorem d_M_clean_88 : decode b_M_clean 88 = .ok (.iload_n 3, 1) := by decide +kernel
theorem d_M_clean_89 : decode b_M_clean 89 = .ok (.iaload, 1) := by decide +kernel
theorem d_M_clean_90 : decode b_M_clean 90 = .ok (.aload_n 0, 1) := by decide +kernel
theorem d_M_clean_91 : decode b_M_clean 91 = .ok (.getfield 38, 3) := by decide +kernel
theorem d_M_clean_94 : decode b_M_clean 94 = .ok (.iload_n 3, 1) := by decide +kernel
theorem d_M_clean_95 : decode b_M_clean 95 = .ok (.laload, 1) := by decide +kernel
theorem d_M_clean_96 : decode b_M_clean 96 = .ok (.aload_n 0, 1) := by decide +kernel
theorem d_M_clean_97 : decode b_M_clean 97 = .ok (.getfield 42, 3) := by decide +kernel
theorem d_M_clean_100 : decode b_M_clean 100 = .ok (.iload_n 3, 1) := by decide +kernel
theorem d_M_clean_101 : decode b_M_clean 101 = .ok (.laload, 1) := by decide +kernel
theorem d_M_clean_102 : decode b_M_clean 102 = .ok (.invokevirtual 126, 3) := by decide +kernel
theorem d_M_clean_105 : decode b_M_clean 105 = .ok (.ifCond .ne 6, 3) := by decide +kernel
theorem d_M_clean_108 : decode b_M_clean 108 = .ok (.bipush (-4), 2) := by decide +kernel
theorem d_M_clean_110 : decode b_M_clean 110 = .ok (.ireturn, 1) := by decide +kernel
theorem d_M_clean_111 : decode b_M_clean 111 = .ok (.iinc 2 1, 3) := by decide +kernel
theorem d_M_clean_114 : decode b_M_clean 114 = .ok (.iinc 3 1, 3) := by decide +kernel
theorem d_M_clean_117 : decode b_M_clean 117 = .ok (.goto (-67), 3) := by decide +kernel
theorem d_M_clean_120 : decode b_M_clean 120 = .ok (.aload_n 0, 1) := by decide +kernel
theorem d_M_clean_121 : decode b_M_clean 121 = .ok (.invokevirtual 134, 3) := by decide +kernel
theorem d_M_clean_124 : decode b_M_clean 124 = .ok (.ifCond .ne 6, 3) := by decide +kernel
theorem d_M_clean_127 : decode b_M_clean 127 = .ok (.bipush (-4), 2) := by decide +kernel
theorem d_M_clean_129 : decode b_M_clean 129 = .ok (.ireturn, 1) := by decide +kernel
theorem d_M_clean_130 : decode b_M_clean 130 = .ok (.aload_n 0, 1) := by decide +kernel
theorem d_M_clean_131 : decode b_M_clean 131 = .ok (.getfield 7, 3) := by decide +kernel
theorem d_M_clean_134 : decode b_M_clean 134 = .ok (.iload_n 1, 1) := by decide +kernel
theorem d_M_clean_135 : decode b_M_clean 135 = .ok (.iconst 0, 1) := by decide +kernel
theorem d_M_clean_136 : decode b_M_clean 136 = .ok (.iastore, 1) := by decide +kernel
theorem d_M_clean_137 : decode b_M_clean 137 = .ok (.iload_n 2, 1) := by decide +kernel
theorem d_M_clean_138 : decode b_M_clean 138 = .ok (.ireturn, 1) := by decide +kernel
theorem d_M_arm_0 : decode b_M_arm 0 = .ok (.aload_n 0, 1) := by decide +kernel
theorem d_M_arm_1 : decode b_M_arm 1 = .ok (.getfield 77, 3) := by decide +kernel
theorem d_M_arm_4 : decode b_M_arm 4 = .ok (.ifCond .ne 14, 3) := by decide +kernel
theorem d_M_arm_7 : decode b_M_arm 7 = .ok (.iload_n 1, 1) := by decide +kernel
theorem d_M_arm_8 : decode b_M_arm 8 = .ok (.ifCond .lt 10, 3) := by decide +kernel
theorem d_M_arm_11 : decode b_M_arm 11 = .ok (.iload_n 1, 1) := by decide +kernel
theorem d_M_arm_12 : decode b_M_arm 12 = .ok (.sipush 10000, 3) := by decide +kernel
theorem d_M_arm_15 : decode b_M_arm 15 = .ok (.if_icmp .le 5, 3) := by decide +kernel
theorem d_M_arm_18 : decode b_M_arm 18 = .ok (.iconst 0, 1) := by decide +kernel
theorem d_M_arm_19 : decode b_M_arm 19 = .ok (.ireturn, 1) := by decide +kernel
theorem d_M_arm_20 : decode b_M_arm 20 = .ok (.aload_n 0, 1) := by decide +kernel
theorem d_M_arm_21 : decode b_M_arm 21 = .ok (.iconst 1, 1) := by decide +kernel
theorem d_M_arm_22 : decode b_M_arm 22 = .ok (.putfield 70, 3) := by decide +kernel
theorem d_M_arm_25 : decode b_M_arm 25 = .ok (.aload_n 0, 1) := by decide +kernel
theorem d_M_arm_26 : decode b_M_arm 26 = .ok (.iload_n 1, 1) := by decide +kernel
theorem d_M_arm_27 : decode b_M_arm 27 = .ok (.putfield 74, 3) := by decide +kernel
theorem d_M_arm_30 : decode b_M_arm 30 = .ok (.iconst 1, 1) := by decide +kernel
theorem d_M_arm_31 : decode b_M_arm 31 = .ok (.ireturn, 1) := by decide +kernel
theorem d_M_disarm_0 : decode b_M_disarm 0 = .ok (.aload_n 0, 1) := by decide +kernel
theorem d_M_disarm_1 : decode b_M_disarm 1 = .ok (.getfield 77, 3) := by decide +kernel
theorem d_M_disarm_4 : decode b_M_disarm 4 = .ok (.ifCond .ne 10, 3) := by decide +kernel
theorem d_M_disarm_7 : decode b_M_disarm 7 = .ok (.aload_n 0, 1) := by decide +kernel
theorem d_M_disarm_8 : decode b_M_disarm 8 = .ok (.getfield 70, 3) := by decide +kernel
theorem d_M_disarm_11 : decode b_M_disarm 11 = .ok (.ifCond .ne 5, 3) := by decide +kernel
theorem d_M_disarm_14 : decode b_M_disarm 14 = .ok (.iconst 0, 1) := by decide +kernel
theorem d_M_disarm_15 : decode b_M_disarm 15 = .ok (.ireturn, 1) := by decide +kernel
theorem d_M_disarm_16 : decode b_M_disarm 16 = .ok (.aload_n 0, 1) := by decide +kernel
theorem d_M_disarm_17 : decode b_M_disarm 17 = .ok (.iconst 0, 1) := by decide +kernel
theorem d_M_disarm_18 : decode b_M_disarm 18 = .ok (.putfield 70, 3) := by decide +kernel
theorem d_M_disarm_21 : decode b_M_disarm 21 = .ok (.iconst 1, 1) := by decide +kernel
theorem d_M_disarm_22 : decode b_M_disarm 22 = .ok (.ireturn, 1) := by decide +kernel
theorem d_M_crash_0 : decode b_M_crash 0 = .ok (.aload_n 0, 1) := by decide +kernel
theorem d_M_crash_1 : decode b_M_crash 1 = .ok (.getfield 77, 3) := by decide +kernel
theorem d_M_crash_4 : decode b_M_crash 4 = .ok (.ifCond .eq 5, 3) := by decide +kernel
theorem d_M_crash_7 : decode b_M_crash 7 = .ok (.iconst 0, 1) := by decide +kernel
theorem d_M_crash_8 : decode b_M_crash 8 = .ok (.ireturn, 1) := by decide +kernel
theorem d_M_crash_9 : decode b_M_crash 9 = .ok (.aload_n 0, 1) := by decide +kernel
theorem d_M_crash_10 : decode b_M_crash 10 = .ok (.iconst 1, 1) := by decide +kernel
theorem d_M_crash_11 : decode b_M_crash 11 = .ok (.putfield 77, 3) := by decide +kernel
theorem d_M_crash_14 : decode b_M_crash 14 = .ok (.iconst 1, 1) := by decide +kernel
theorem d_M_crash_15 : decode b_M_crash 15 = .ok (.ireturn, 1) := by decide +kernel
theorem d_M_find_0 : decode b_M_find 0 = .ok (.iconst 0, 1) := by decide +kernel
theorem d_M_find_1 : decode b_M_find 1 = .ok (.istore_n 2, 1) := by decide +kernel
theorem d_M_find_2 : decode b_M_find 2 = .ok (.iload_n 2, 1) := by decide +kernel
theorem d_M_find_3 : decode b_M_find 3 = .ok (.aload_n 0, 1) := by decide +kernel
theorem d_M_find_4 : decode b_M_find 4 = .ok (.getfield 57, 3) := by decide +kernel
theorem d_M_find_7 : decode b_M_find 7 = .ok (.if_icmp .ge 69, 3) := by decide +kernel
theorem d_M_find_10 : decode b_M_find 10 = .ok (.bipush 8, 2) := by decide +kernel
theorem d_M_find_12 : decode b_M_find 12 = .ok (.iload_n 2, 1) := by decide +kernel
theorem d_M_find_13 : decode b_M_find 13 = .ok (.imul, 1) := by decide +kernel
theorem d_M_find_14 : decode b_M_find 14 = .ok (.istore_n 3, 1) := by decide +kernel
theorem d_M_find_15 : decode b_M_find 15 = .ok (.iload_n 3, 1) := by decide +kernel
theorem d_M_find_16 : decode b_M_find 16 = .ok (.bipush 8, 2) := by decide +kernel
theorem d_M_find_18 : decode b_M_find 18 = .ok (.iload_n 2, 1) := by decide +kernel
theorem d_M_find_19 : decode b_M_find 19 = .ok (.imul, 1) := by decide +kernel
theorem d_M_find_20 : decode b_M_find 20 = .ok (.aload_n 0, 1) := by decide +kernel
theorem d_M_find_21 : decode b_M_find 21 = .ok (.getfield 19, 3) := by decide +kernel
theorem d_M_find_24 : decode b_M_find 24 = .ok (.iload_n 2, 1) := by decide +kernel
theorem d_M_find_25 : decode b_M_find 25 = .ok (.iaload, 1) := by decide +kernel
theorem d_M_find_26 : decode b_M_find 26 = .ok (.iadd, 1) := by decide +kernel
theorem d_M_find_27 : decode b_M_find 27 = .ok (.if_icmp .ge 43, 3) := by decide +kernel
theorem d_M_find_30 : decode b_M_find 30 = .ok (.aload_n 0, 1) := by decide +kernel
theorem d_M_find_31 : decode b_M_find 31 = .ok (.getfield 35, 3) := by decide +kernel
theorem d_M_find_34 : decode b_M_find 34 = .ok (.iload_n 3, 1) := by decide +kernel
theorem d_M_find_35 : decode b_M_find 35 = .ok (.iaload, 1) := by decide +kernel
theorem d_M_find_36 : decode b_M_find 36 = .ok (.iload_n 1, 1) := by decide +kernel
theorem d_M_find_37 : decode b_M_find 37 = .ok (.if_icmp .ne 27, 3) := by decide +kernel
theorem d_M_find_40 : decode b_M_find 40 = .ok (.aload_n 0, 1) := by decide +kernel
theorem d_M_find_41 : decode b_M_find 41 = .ok (.getfield 29, 3) := by decide +kernel
theorem d_M_find_44 : decode b_M_find 44 = .ok (.iload_n 3, 1) := by decide +kernel
theorem d_M_find_45 : decode b_M_find 45 = .ok (.iaload, 1) := by decide +kernel
theorem d_M_find_46 : decode b_M_find 46 = .ok (.aload_n 0, 1) := by decide +kernel
theorem d_M_find_47 : decode b_M_find 47 = .ok (.getfield 32, 3) := by decide +kernel
theorem d_M_find_50 : decode b_M_find 50 = .ok (.iload_n 3, 1) := by decide +kernel
theorem d_M_find_51 : decode b_M_find 51 = .ok (.iaload, 1) := by decide +kernel
theorem d_M_find_52 : decode b_M_find 52 = .ok (.iadd, 1) := by decide +kernel
theorem d_M_find_53 : decode b_M_find 53 = .ok (.aload_n 0, 1) := by decide +kernel
theorem d_M_find_54 : decode b_M_find 54 = .ok (.getfield 16, 3) := by decide +kernel
theorem d_M_find_57 : decode b_M_find 57 = .ok (.iload_n 2, 1) := by decide +kernel
theorem d_M_find_58 : decode b_M_find 58 = .ok (.iaload, 1) := by decide +kernel
theorem d_M_find_59 : decode b_M_find 59 = .ok (.if_icmp .gt 5, 3) := by decide +kernel
theorem d_M_find_62 : decode b_M_find 62 = .ok (.iload_n 3, 1) := by decide +kernel
theorem d_M_find_63 : decode b_M_find 63 = .ok (.ireturn, 1) := by decide +kernel
theorem d_M_find_64 : decode b_M_find 64 = .ok (.iinc 3 1, 3) := by decide +kernel
theorem d_M_find_67 : decode b_M_find 67 = .ok (.goto (-52), 3) := by decide +kernel
theorem d_M_find_70 : decode b_M_find 70 = .ok (.iinc 2 1, 3) := by decide +kernel
theorem d_M_find_73 : decode b_M_find 73 = .ok (.goto (-71), 3) := by decide +kernel
theorem d_M_find_76 : decode b_M_find 76 = .ok (.iconst (-1), 1) := by decide +kernel
theorem d_M_find_77 : decode b_M_find 77 = .ok (.ireturn, 1) := by decide +kernel
theorem d_M_recover_0 : decode b_M_recover 0 = .ok (.aload_n 0, 1) := by decide +kernel
theorem d_M_recover_1 : decode b_M_recover 1 = .ok (.getfield 77, 3) := by decide +kernel
theorem d_M_recover_4 : decode b_M_recover 4 = .ok (.ifCond .ne 5, 3) := by decide +kernel
theorem d_M_recover_7 : decode b_M_recover 7 = .ok (.iconst (-1), 1) := by decide +kernel
theorem d_M_recover_8 : decode b_M_recover 8 = .ok (.ireturn, 1) := by decide +kernel
theorem d_M_recover_9 : decode b_M_recover 9 = .ok (.aload_n 0, 1) := by decide +kernel
theorem d_M_recover_10 : decode b_M_recover 10 = .ok (.iconst 0, 1) := by decide +kernel
theorem d_M_recover_11 : decode b_M_recover 11 = .ok (.putfield 77, 3) := by decide +kernel
theorem d_M_recover_14 : decode b_M_recover 14 = .ok (.aload_n 0, 1) := by decide +kernel
theorem d_M_recover_15 : decode b_M_recover 15 = .ok (.iconst 0, 1) := by decide +kernel
theorem d_M_recover_16 : decode b_M_recover 16 = .ok (.putfield 70, 3) := by decide +kernel
theorem d_M_recover_19 : decode b_M_recover 19 = .ok (.iconst 0, 1) := by decide +kernel
theorem d_M_recover_20 : decode b_M_recover 20 = .ok (.istore_n 1, 1) := by decide +kernel
theorem d_M_recover_21 : decode b_M_recover 21 = .ok (.iload_n 1, 1) := by decide +kernel
theorem d_M_recover_22 : decode b_M_recover 22 = .ok (.bipush 16, 2) := by decide +kernel
theorem d_M_recover_24 : decode b_M_recover 24 = .ok (.if_icmp .ge 21, 3) := by decide +kernel
theorem d_M_recover_27 : decode b_M_recover 27 = .ok (.aload_n 0, 1) := by decide +kernel
theorem d_M_recover_28 : decode b_M_recover 28 = .ok (.getfield 45, 3) := by decide +kernel
theorem d_M_recover_31 : decode b_M_recover 31 = .ok (.iload_n 1, 1) := by decide +kernel
theorem d_M_recover_32 : decode b_M_recover 32 = .ok (.aload_n 0, 1) := by decide +kernel
theorem d_M_recover_33 : decode b_M_recover 33 = .ok (.getfield 48, 3) := by decide +kernel
theorem d_M_recover_36 : decode b_M_recover 36 = .ok (.iload_n 1, 1) := by decide +kernel
theorem d_M_recover_37 : decode b_M_recover 37 = .ok (.iaload, 1) := by decide +kernel
theorem d_M_recover_38 : decode b_M_recover 38 = .ok (.iastore, 1) := by decide +kernel
theorem d_M_recover_39 : decode b_M_recover 39 = .ok (.iinc 1 1, 3) := by decide +kernel
theorem d_M_recover_42 : decode b_M_recover 42 = .ok (.goto (-21), 3) := by decide +kernel
theorem d_M_recover_45 : decode b_M_recover 45 = .ok (.aload_n 0, 1) := by decide +kernel
theorem d_M_recover_46 : decode b_M_recover 46 = .ok (.aload_n 0, 1) := by decide +kernel
theorem d_M_recover_47 : decode b_M_recover 47 = .ok (.getfield 103, 3) := by decide +kernel
theorem d_M_recover_50 : decode b_M_recover 50 = .ok (.putfield 83, 3) := by decide +kernel
theorem d_M_recover_53 : decode b_M_recover 53 = .ok (.aload_n 0, 1) := by decide +kernel
theorem d_M_recover_54 : decode b_M_recover 54 = .ok (.getfield 106, 3) := by decide +kernel
theorem d_M_recover_57 : decode b_M_recover 57 = .ok (.istore_n 1, 1) := by decide +kernel
theorem d_M_recover_58 : decode b_M_recover 58 = .ok (.iconst 0, 1) := by decide +kernel
theorem d_M_recover_59 : decode b_M_recover 59 = .ok (.istore_n 2, 1) := by decide +kernel
theorem d_M_recover_60 : decode b_M_recover 60 = .ok (.aload_n 0, 1) := by decide +kernel
theorem d_M_recover_61 : decode b_M_recover 61 = .ok (.aload_n 0, 1) := by decide +kernel
theorem d_M_recover_62 : decode b_M_recover 62 = .ok (.getfield 100, 3) := by decide +kernel
theorem d_M_recover_65 : decode b_M_recover 65 = .ok (.putfield 97, 3) := by decide +kernel
theorem d_M_recover_68 : decode b_M_recover 68 = .ok (.aload_n 0, 1) := by decide +kernel
theorem d_M_recover_69 : decode b_M_recover 69 = .ok (.aload_n 0, 1) := by decide +kernel
theorem d_M_recover_70 : decode b_M_recover 70 = .ok (.getfield 97, 3) := by decide +kernel
theorem d_M_recover_73 : decode b_M_recover 73 = .ok (.iconst 1, 1) := by decide +kernel
theorem d_M_recover_74 : decode b_M_recover 74 = .ok (.iadd, 1) := by decide +kernel
theorem d_M_recover_75 : decode b_M_recover 75 = .ok (.invokevirtual 149, 3) := by decide +kernel
theorem d_M_recover_78 : decode b_M_recover 78 = .ok (.istore_n 3, 1) := by decide +kernel
theorem d_M_recover_79 : decode b_M_recover 79 = .ok (.iload_n 3, 1) := by decide +kernel
theorem d_M_recover_80 : decode b_M_recover 80 = .ok (.ifCond .lt 77, 3) := by decide +kernel
theorem d_M_recover_83 : decode b_M_recover 83 = .ok (.aload_n 0, 1) := by decide +kernel
theorem d_M_recover_84 : decode b_M_recover 84 = .ok (.getfield 45, 3) := by decide +kernel
theorem d_M_recover_87 : decode b_M_recover 87 = .ok (.aload_n 0, 1) := by decide +kernel
theorem d_M_recover_88 : decode b_M_recover 88 = .ok (.getfield 22, 3) := by decide +kernel
theorem d_M_recover_91 : decode b_M_recover 91 = .ok (.iload_n 3, 1) := by decide +kernel
theorem d_M_recover_92 : decode b_M_recover 92 = .ok (.iaload, 1) := by decide +kernel
theorem d_M_recover_93 : decode b_M_recover 93 = .ok (.aload_n 0, 1) := by decide +kernel
theorem d_M_recover_94 : decode b_M_recover 94 = .ok (.getfield 25, 3) := by decide +kernel
theorem d_M_recover_97 : decode b_M_recover 97 = .ok (.iload_n 3, 1) := by decide +kernel
theorem d_M_recover_98 : decode b_M_recover 98 = .ok (.baload, 1) := by decide +kernel
theorem d_M_recover_99 : decode b_M_recover 99 = .ok (.ifCond .eq 7, 3) := by decide +kernel
theorem d_M_recover_102 : decode b_M_recover 102 = .ok (.iload_n 3, 1) := by decide +kernel
theorem d_M_recover_103 : decode b_M_recover 103 = .ok (.goto 4, 3) := by decide +kernel
theorem d_M_recover_106 : decode b_M_recover 106 = .ok (.iconst (-1), 1) := by decide +kernel
theorem d_M_recover_107 : decode b_M_recover 107 = .ok (.iastore, 1) := by decide +kernel
theorem d_M_recover_108 : decode b_M_recover 108 = .ok (.aload_n 0, 1) := by decide +kernel
theorem d_M_recover_109 : decode b_M_recover 109 = .ok (.iload_n 3, 1) := by decide +kernel
theorem d_M_recover_110 : decode b_M_recover 110 = .ok (.bipush 8, 2) := by decide +kernel
theorem d_M_recover_112 : decode b_M_recover 112 = .ok (.idiv, 1) := by decide +kernel
theorem d_M_recover_113 : decode b_M_recover 113 = .ok (.putfield 83, 3) := by decide +kernel
theorem d_M_recover_116 : decode b_M_recover 116 = .ok (.aload_n 0, 1) := by decide +kernel
theorem d_M_recover_117 : decode b_M_recover 117 = .ok (.getfield 29, 3) := by decide +kernel
theorem d_M_recover_120 : decode b_M_recover 120 = .ok (.iload_n 3, 1) := by decide +kernel
theorem d_M_recover_121 : decode b_M_recover 121 = .ok (.iaload, 1) := by decide +kernel
theorem d_M_recover_122 : decode b_M_recover 122 = .ok (.aload_n 0, 1) := by decide +kernel
theorem d_M_recover_123 : decode b_M_recover 123 = .ok (.getfield 32, 3) := by decide +kernel
theorem d_M_recover_126 : decode b_M_recover 126 = .ok (.iload_n 3, 1) := by decide +kernel
theorem d_M_recover_127 : decode b_M_recover 127 = .ok (.iaload, 1) := by decide +kernel
theorem d_M_recover_128 : decode b_M_recover 128 = .ok (.iadd, 1) := by decide +kernel
theorem d_M_recover_129 : decode b_M_recover 129 = .ok (.istore_n 1, 1) := by decide +kernel
theorem d_M_recover_130 : decode b_M_recover 130 = .ok (.aload_n 0, 1) := by decide +kernel
theorem d_M_recover_131 : decode b_M_recover 131 = .ok (.dup, 1) := by decide +kernel
theorem d_M_recover_132 : decode b_M_recover 132 = .ok (.getfield 97, 3) := by decide +kernel
theorem d_M_recover_135 : decode b_M_recover 135 = .ok (.iconst 1, 1) := by decide +kernel
theorem d_M_recover_136 : decode b_M_recover 136 = .ok (.iadd, 1) := by decide +kernel
theorem d_M_recover_137 : decode b_M_recover 137 = .ok (.putfield 97, 3) := by decide +kernel
theorem d_M_recover_140 : decode b_M_recover 140 = .ok (.iinc 2 1, 3) := by decide +kernel
theorem d_M_recover_143 : decode b_M_recover 143 = .ok (.aload_n 0, 1) := by decide +kernel
theorem d_M_recover_144 : decode b_M_recover 144 = .ok (.aload_n 0, 1) := by decide +kernel
theorem d_M_recover_145 : decode b_M_recover 145 = .ok (.getfield 97, 3) := by decide +kernel
theorem d_M_recover_148 : decode b_M_recover 148 = .ok (.iconst 1, 1) := by decide +kernel
theorem d_M_recover_149 : decode b_M_recover 149 = .ok (.iadd, 1) := by decide +kernel
theorem d_M_recover_150 : decode b_M_recover 150 = .ok (.invokevirtual 149, 3) := by decide +kernel
theorem d_M_recover_153 : decode b_M_recover 153 = .ok (.istore_n 3, 1) := by decide +kernel
theorem d_M_recover_154 : decode b_M_recover 154 = .ok (.goto (-75), 3) := by decide +kernel
theorem d_M_recover_157 : decode b_M_recover 157 = .ok (.iconst 0, 1) := by decide +kernel
theorem d_M_recover_158 : decode b_M_recover 158 = .ok (.istore 4, 2) := by decide +kernel
theorem d_M_recover_160 : decode b_M_recover 160 = .ok (.iload 4, 2) := by decide +kernel
theorem d_M_recover_162 : decode b_M_recover 162 = .ok (.aload_n 0, 1) := by decide +kernel
theorem d_M_recover_163 : decode b_M_recover 163 = .ok (.getfield 57, 3) := by decide +kernel
theorem d_M_recover_166 : decode b_M_recover 166 = .ok (.if_icmp .ge 94, 3) := by decide +kernel
theorem d_M_recover_169 : decode b_M_recover 169 = .ok (.aload_n 0, 1) := by decide +kernel
theorem d_M_recover_170 : decode b_M_recover 170 = .ok (.getfield 19, 3) := by decide +kernel
theorem d_M_recover_173 : decode b_M_recover 173 = .ok (.iload 4, 2) := by decide +kernel
theorem d_M_recover_175 : decode b_M_recover 175 = .ok (.iaload, 1) := by decide +kernel
theorem d_M_recover_176 : decode b_M_recover 176 = .ok (.ifCond .le 44, 3) := by decide +kernel
theorem d_M_recover_179 : decode b_M_recover 179 = .ok (.aload_n 0, 1) := by decide +kernel
theorem d_M_recover_180 : decode b_M_recover 180 = .ok (.getfield 35, 3) := by decide +kernel
theorem d_M_recover_183 : decode b_M_recover 183 = .ok (.bipush 8, 2) := by decide +kernel
theorem d_M_recover_185 : decode b_M_recover 185 = .ok (.iload 4, 2) := by decide +kernel
theorem d_M_recover_187 : decode b_M_recover 187 = .ok (.imul, 1) := by decide +kernel
theorem d_M_recover_188 : decode b_M_recover 188 = .ok (.aload_n 0, 1) := by decide +kernel
theorem d_M_recover_189 : decode b_M_recover 189 = .ok (.getfield 19, 3) := by decide +kernel
theorem d_M_recover_192 : decode b_M_recover 192 = .ok (.iload 4, 2) := by decide +kernel
theorem d_M_recover_194 : decode b_M_recover 194 = .ok (.iaload, 1) := by decide +kernel
theorem d_M_recover_195 : decode b_M_recover 195 = .ok (.iadd, 1) := by decide +kernel
theorem d_M_recover_196 : decode b_M_recover 196 = .ok (.iconst 1, 1) := by decide +kernel
theorem d_M_recover_197 : decode b_M_recover 197 = .ok (.isub, 1) := by decide +kernel
theorem d_M_recover_198 : decode b_M_recover 198 = .ok (.iaload, 1) := by decide +kernel
theorem d_M_recover_199 : decode b_M_recover 199 = .ok (.aload_n 0, 1) := by decide +kernel
theorem d_M_recover_200 : decode b_M_recover 200 = .ok (.getfield 97, 3) := by decide +kernel
theorem d_M_recover_203 : decode b_M_recover 203 = .ok (.if_icmp .le 17, 3) := by decide +kernel
theorem d_M_recover_206 : decode b_M_recover 206 = .ok (.aload_n 0, 1) := by decide +kernel
theorem d_M_recover_207 : decode b_M_recover 207 = .ok (.getfield 19, 3) := by decide +kernel
theorem d_M_recover_210 : decode b_M_recover 210 = .ok (.iload 4, 2) := by decide +kernel
theorem d_M_recover_212 : decode b_M_recover 212 = .ok (.dup2, 1) := by decide +kernel
theorem d_M_recover_213 : decode b_M_recover 213 = .ok (.iaload, 1) := by decide +kernel
theorem d_M_recover_214 : decode b_M_recover 214 = .ok (.iconst 1, 1) := by decide +kernel
theorem d_M_recover_215 : decode b_M_recover 215 = .ok (.isub, 1) := by decide +kernel
theorem d_M_recover_216 : decode b_M_recover 216 = .ok (.iastore, 1) := by decide +kernel
theorem d_M_recover_217 : decode b_M_recover 217 = .ok (.goto (-48), 3) := by decide +kernel
theorem d_M_recover_220 : decode b_M_recover 220 = .ok (.aload_n 0, 1) := by decide +kernel
theorem d_M_recover_221 : decode b_M_recover 221 = .ok (.getfield 7, 3) := by decide +kernel
theorem d_M_recover_224 : decode b_M_recover 224 = .ok (.iload 4, 2) := by decide +kernel
theorem d_M_recover_226 : decode b_M_recover 226 = .ok (.iload 4, 2) := by decide +kernel
theorem d_M_recover_228 : decode b_M_recover 228 = .ok (.aload_n 0, 1) := by decide +kernel
theorem d_M_recover_229 : decode b_M_recover 229 = .ok (.getfield 83, 3) := by decide +kernel
theorem d_M_recover_232 : decode b_M_recover 232 = .ok (.if_icmp .ne 7, 3) := by decide +kernel
theorem d_M_recover_235 : decode b_M_recover 235 = .ok (.iconst 1, 1) := by decide +kernel
theorem d_M_recover_236 : decode b_M_recover 236 = .ok (.goto 17, 3) := by decide +kernel
theorem d_M_recover_239 : decode b_M_recover 239 = .ok (.aload_n 0, 1) := by decide +kernel
theorem d_M_recover_240 : decode b_M_recover 240 = .ok (.iload 4, 2) := by decide +kernel
theorem d_M_recover_242 : decode b_M_recover 242 = .ok (.invokevirtual 137, 3) := by decide +kernel
theorem d_M_recover_245 : decode b_M_recover 245 = .ok (.ifCond .le 7, 3) := by decide +kernel
theorem d_M_recover_248 : decode b_M_recover 248 = .ok (.iconst 2, 1) := by decide +kernel
theorem d_M_recover_249 : decode b_M_recover 249 = .ok (.goto 4, 3) := by decide +kernel
theorem d_M_recover_252 : decode b_M_recover 252 = .ok (.iconst 0, 1) := by decide +kernel
theorem d_M_recover_253 : decode b_M_recover 253 = .ok (.iastore, 1) := by decide +kernel
theorem d_M_recover_254 : decode b_M_recover 254 = .ok (.iinc 4 1, 3) := by decide +kernel
theorem d_M_recover_257 : decode b_M_recover 257 = .ok (.goto (-97), 3) := by decide +kernel
theorem d_M_recover_260 : decode b_M_recover 260 = .ok (.aload_n 0, 1) := by decide +kernel
theorem d_M_recover_261 : decode b_M_recover 261 = .ok (.getfield 13, 3) := by decide +kernel
theorem d_M_recover_264 : decode b_M_recover 264 = .ok (.aload_n 0, 1) := by decide +kernel
theorem d_M_recover_265 : decode b_M_recover 265 = .ok (.getfield 83, 3) := by decide +kernel
theorem d_M_recover_268 : decode b_M_recover 268 = .ok (.iload_n 1, 1) := by decide +kernel
theorem d_M_recover_269 : decode b_M_recover 269 = .ok (.iastore, 1) := by decide +kernel
theorem d_M_recover_270 : decode b_M_recover 270 = .ok (.aload_n 0, 1) := by decide +kernel
theorem d_M_recover_271 : decode b_M_recover 271 = .ok (.getfield 16, 3) := by decide +kernel
theorem d_M_recover_274 : decode b_M_recover 274 = .ok (.aload_n 0, 1) := by decide +kernel
theorem d_M_recover_275 : decode b_M_recover 275 = .ok (.getfield 83, 3) := by decide +kernel
theorem d_M_recover_278 : decode b_M_recover 278 = .ok (.iload_n 1, 1) := by decide +kernel
theorem d_M_recover_279 : decode b_M_recover 279 = .ok (.iastore, 1) := by decide +kernel
theorem d_M_recover_280 : decode b_M_recover 280 = .ok (.aload_n 0, 1) := by decide +kernel
theorem d_M_recover_281 : decode b_M_recover 281 = .ok (.invokevirtual 134, 3) := by decide +kernel
theorem d_M_recover_284 : decode b_M_recover 284 = .ok (.ifCond .eq 7, 3) := by decide +kernel
theorem d_M_recover_287 : decode b_M_recover 287 = .ok (.iload_n 2, 1) := by decide +kernel
theorem d_M_recover_288 : decode b_M_recover 288 = .ok (.goto 5, 3) := by decide +kernel
theorem d_M_recover_291 : decode b_M_recover 291 = .ok (.bipush (-4), 2) := by decide +kernel
theorem d_M_recover_293 : decode b_M_recover 293 = .ok (.ireturn, 1) := by decide +kernel
theorem d_M_live_0 : decode b_M_live 0 = .ok (.aload_n 0, 1) := by decide +kernel
theorem d_M_live_1 : decode b_M_live 1 = .ok (.getfield 77, 3) := by decide +kernel
theorem d_M_live_4 : decode b_M_live 4 = .ok (.ifCond .eq 8, 3) := by decide +kernel
theorem d_M_live_7 : decode b_M_live 7 = .ok (.bipush (-4), 2) := by decide +kernel
theorem d_M_live_9 : decode b_M_live 9 = .ok (.goto 24, 3) := by decide +kernel
theorem d_M_live_12 : decode b_M_live 12 = .ok (.iload_n 1, 1) := by decide +kernel
theorem d_M_live_13 : decode b_M_live 13 = .ok (.ifCond .lt 11, 3) := by decide +kernel
theorem d_M_live_16 : decode b_M_live 16 = .ok (.iload_n 1, 1) := by decide +kernel
theorem d_M_live_17 : decode b_M_live 17 = .ok (.aload_n 0, 1) := by decide +kernel
theorem d_M_live_18 : decode b_M_live 18 = .ok (.getfield 57, 3) := by decide +kernel
theorem d_M_live_21 : decode b_M_live 21 = .ok (.if_icmp .lt 7, 3) := by decide +kernel
theorem d_M_live_24 : decode b_M_live 24 = .ok (.iconst (-1), 1) := by decide +kernel
theorem d_M_live_25 : decode b_M_live 25 = .ok (.goto 8, 3) := by decide +kernel
theorem d_M_live_28 : decode b_M_live 28 = .ok (.aload_n 0, 1) := by decide +kernel
theorem d_M_live_29 : decode b_M_live 29 = .ok (.iload_n 1, 1) := by decide +kernel
theorem d_M_live_30 : decode b_M_live 30 = .ok (.invokevirtual 137, 3) := by decide +kernel
theorem d_M_live_33 : decode b_M_live 33 = .ok (.ireturn, 1) := by decide +kernel
theorem d_M_segment_0 : decode b_M_segment 0 = .ok (.aload_n 0, 1) := by decide +kernel
theorem d_M_segment_1 : decode b_M_segment 1 = .ok (.getfield 77, 3) := by decide +kernel
theorem d_M_segment_4 : decode b_M_segment 4 = .ok (.ifCond .eq 8, 3) := by decide +kernel
theorem d_M_segment_7 : decode b_M_segment 7 = .ok (.bipush (-4), 2) := by decide +kernel
theorem d_M_segment_9 : decode b_M_segment 9 = .ok (.goto 25, 3) := by decide +kernel
theorem d_M_segment_12 : decode b_M_segment 12 = .ok (.iload_n 1, 1) := by decide +kernel
theorem d_M_segment_13 : decode b_M_segment 13 = .ok (.ifCond .lt 11, 3) := by decide +kernel
theorem d_M_segment_16 : decode b_M_segment 16 = .ok (.iload_n 1, 1) := by decide +kernel
theorem d_M_segment_17 : decode b_M_segment 17 = .ok (.aload_n 0, 1) := by decide +kernel
theorem d_M_segment_18 : decode b_M_segment 18 = .ok (.getfield 57, 3) := by decide +kernel
theorem d_M_segment_21 : decode b_M_segment 21 = .ok (.if_icmp .lt 7, 3) := by decide +kernel
theorem d_M_segment_24 : decode b_M_segment 24 = .ok (.iconst (-1), 1) := by decide +kernel
theorem d_M_segment_25 : decode b_M_segment 25 = .ok (.goto 9, 3) := by decide +kernel
theorem d_M_segment_28 : decode b_M_segment 28 = .ok (.aload_n 0, 1) := by decide +kernel
theorem d_M_segment_29 : decode b_M_segment 29 = .ok (.getfield 7, 3) := by decide +kernel
theorem d_M_segment_32 : decode b_M_segment 32 = .ok (.iload_n 1, 1) := by decide +kernel
theorem d_M_segment_33 : decode b_M_segment 33 = .ok (.iaload, 1) := by decide +kernel
theorem d_M_segment_34 : decode b_M_segment 34 = .ok (.ireturn, 1) := by decide +kernel
