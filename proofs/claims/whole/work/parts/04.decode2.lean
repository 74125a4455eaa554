theorem d_P_sameBytes_0 : decode b_P_sameBytes 0 = .ok (.iconst 0, 1) := by decide +kernel
theorem d_P_sameBytes_1 : decode b_P_sameBytes 1 = .ok (.istore_n 3, 1) := by decide +kernel
theorem d_P_sameBytes_2 : decode b_P_sameBytes 2 = .ok (.iload_n 2, 1) := by decide +kernel
theorem d_P_sameBytes_3 : decode b_P_sameBytes 3 = .ok (.iload_n 3, 1) := by decide +kernel
theorem d_P_sameBytes_4 : decode b_P_sameBytes 4 = .ok (.iadd, 1) := by decide +kernel
theorem d_P_sameBytes_5 : decode b_P_sameBytes 5 = .ok (.bipush 16, 2) := by decide +kernel
theorem d_P_sameBytes_7 : decode b_P_sameBytes 7 = .ok (.if_icmp .ge 28, 3) := by decide +kernel
theorem d_P_sameBytes_10 : decode b_P_sameBytes 10 = .ok (.aload_n 0, 1) := by decide +kernel
theorem d_P_sameBytes_11 : decode b_P_sameBytes 11 = .ok (.getfield 11, 3) := by decide +kernel
theorem d_P_sameBytes_14 : decode b_P_sameBytes 14 = .ok (.iload_n 1, 1) := by decide +kernel
theorem d_P_sameBytes_15 : decode b_P_sameBytes 15 = .ok (.iload_n 3, 1) := by decide +kernel
theorem d_P_sameBytes_16 : decode b_P_sameBytes 16 = .ok (.iadd, 1) := by decide +kernel
theorem d_P_sameBytes_17 : decode b_P_sameBytes 17 = .ok (.iaload, 1) := by decide +kernel
theorem d_P_sameBytes_18 : decode b_P_sameBytes 18 = .ok (.aload_n 0, 1) := by decide +kernel
theorem d_P_sameBytes_19 : decode b_P_sameBytes 19 = .ok (.getfield 11, 3) := by decide +kernel
theorem d_P_sameBytes_22 : decode b_P_sameBytes 22 = .ok (.iload_n 2, 1) := by decide +kernel
theorem d_P_sameBytes_23 : decode b_P_sameBytes 23 = .ok (.iload_n 3, 1) := by decide +kernel
theorem d_P_sameBytes_24 : decode b_P_sameBytes 24 = .ok (.iadd, 1) := by decide +kernel
theorem d_P_sameBytes_25 : decode b_P_sameBytes 25 = .ok (.iaload, 1) := by decide +kernel
theorem d_P_sameBytes_26 : decode b_P_sameBytes 26 = .ok (.if_icmp .ne 9, 3) := by decide +kernel
theorem d_P_sameBytes_29 : decode b_P_sameBytes 29 = .ok (.iinc 3 1, 3) := by decide +kernel
theorem d_P_sameBytes_32 : decode b_P_sameBytes 32 = .ok (.goto (-30), 3) := by decide +kernel
theorem d_P_sameBytes_35 : decode b_P_sameBytes 35 = .ok (.iload_n 3, 1) := by decide +kernel
theorem d_P_sameBytes_36 : decode b_P_sameBytes 36 = .ok (.ireturn, 1) := by decide +kernel
theorem d_P_longestMatch_0 : decode b_P_longestMatch 0 = .ok (.iconst (-1), 1) := by decide +kernel
theorem d_P_longestMatch_1 : decode b_P_longestMatch 1 = .ok (.istore_n 2, 1) := by decide +kernel
theorem d_P_longestMatch_2 : decode b_P_longestMatch 2 = .ok (.iconst 2, 1) := by decide +kernel
theorem d_P_longestMatch_3 : decode b_P_longestMatch 3 = .ok (.istore_n 3, 1) := by decide +kernel
theorem d_P_longestMatch_4 : decode b_P_longestMatch 4 = .ok (.iload_n 1, 1) := by decide +kernel
theorem d_P_longestMatch_5 : decode b_P_longestMatch 5 = .ok (.iconst 1, 1) := by decide +kernel
theorem d_P_longestMatch_6 : decode b_P_longestMatch 6 = .ok (.isub, 1) := by decide +kernel
theorem d_P_longestMatch_7 : decode b_P_longestMatch 7 = .ok (.istore 4, 2) := by decide +kernel
theorem d_P_longestMatch_9 : decode b_P_longestMatch 9 = .ok (.iload 4, 2) := by decide +kernel
theorem d_P_longestMatch_11 : decode b_P_longestMatch 11 = .ok (.ifCond .lt 30, 3) := by decide +kernel
theorem d_P_longestMatch_14 : decode b_P_longestMatch 14 = .ok (.aload_n 0, 1) := by decide +kernel
theorem d_P_longestMatch_15 : decode b_P_longestMatch 15 = .ok (.iload 4, 2) := by decide +kernel
theorem d_P_longestMatch_17 : decode b_P_longestMatch 17 = .ok (.iload_n 1, 1) := by decide +kernel
theorem d_P_longestMatch_18 : decode b_P_longestMatch 18 = .ok (.invokevirtual 35, 3) := by decide +kernel
theorem d_P_longestMatch_21 : decode b_P_longestMatch 21 = .ok (.istore 5, 2) := by decide +kernel
theorem d_P_longestMatch_23 : decode b_P_longestMatch 23 = .ok (.iload 5, 2) := by decide +kernel
theorem d_P_longestMatch_25 : decode b_P_longestMatch 25 = .ok (.iload_n 3, 1) := by decide +kernel
theorem d_P_longestMatch_26 : decode b_P_longestMatch 26 = .ok (.if_icmp .le 9, 3) := by decide +kernel
theorem d_P_longestMatch_29 : decode b_P_longestMatch 29 = .ok (.iload 4, 2) := by decide +kernel
theorem d_P_longestMatch_31 : decode b_P_longestMatch 31 = .ok (.istore_n 2, 1) := by decide +kernel
theorem d_P_longestMatch_32 : decode b_P_longestMatch 32 = .ok (.iload 5, 2) := by decide +kernel
theorem d_P_longestMatch_34 : decode b_P_longestMatch 34 = .ok (.istore_n 3, 1) := by decide +kernel
theorem d_P_longestMatch_35 : decode b_P_longestMatch 35 = .ok (.iinc 4 (-1), 3) := by decide +kernel
theorem d_P_longestMatch_38 : decode b_P_longestMatch 38 = .ok (.goto (-29), 3) := by decide +kernel
theorem d_P_longestMatch_41 : decode b_P_longestMatch 41 = .ok (.iload_n 2, 1) := by decide +kernel
theorem d_P_longestMatch_42 : decode b_P_longestMatch 42 = .ok (.ireturn, 1) := by decide +kernel
theorem d_P_endPiece_0 : decode b_P_endPiece 0 = .ok (.aload_n 0, 1) := by decide +kernel
theorem d_P_endPiece_1 : decode b_P_endPiece 1 = .ok (.getfield 15, 3) := by decide +kernel
theorem d_P_endPiece_4 : decode b_P_endPiece 4 = .ok (.aload_n 0, 1) := by decide +kernel
theorem d_P_endPiece_5 : decode b_P_endPiece 5 = .ok (.dup, 1) := by decide +kernel
theorem d_P_endPiece_6 : decode b_P_endPiece 6 = .ok (.getfield 21, 3) := by decide +kernel
theorem d_P_endPiece_9 : decode b_P_endPiece 9 = .ok (.dup_x1, 1) := by decide +kernel
theorem d_P_endPiece_10 : decode b_P_endPiece 10 = .ok (.iconst 1, 1) := by decide +kernel
theorem d_P_endPiece_11 : decode b_P_endPiece 11 = .ok (.iadd, 1) := by decide +kernel
theorem d_P_endPiece_12 : decode b_P_endPiece 12 = .ok (.putfield 21, 3) := by decide +kernel
theorem d_P_endPiece_15 : decode b_P_endPiece 15 = .ok (.bipush 16, 2) := by decide +kernel
theorem d_P_endPiece_17 : decode b_P_endPiece 17 = .ok (.iload_n 2, 1) := by decide +kernel
theorem d_P_endPiece_18 : decode b_P_endPiece 18 = .ok (.iload_n 1, 1) := by decide +kernel
theorem d_P_endPiece_19 : decode b_P_endPiece 19 = .ok (.isub, 1) := by decide +kernel
theorem d_P_endPiece_20 : decode b_P_endPiece 20 = .ok (.imul, 1) := by decide +kernel
theorem d_P_endPiece_21 : decode b_P_endPiece 21 = .ok (.iload_n 3, 1) := by decide +kernel
theorem d_P_endPiece_22 : decode b_P_endPiece 22 = .ok (.iadd, 1) := by decide +kernel
theorem d_P_endPiece_23 : decode b_P_endPiece 23 = .ok (.iastore, 1) := by decide +kernel
theorem d_P_endPiece_24 : decode b_P_endPiece 24 = .ok (.iload_n 1, 1) := by decide +kernel
theorem d_P_endPiece_25 : decode b_P_endPiece 25 = .ok (.istore 4, 2) := by decide +kernel
theorem d_P_endPiece_27 : decode b_P_endPiece 27 = .ok (.iload 4, 2) := by decide +kernel
theorem d_P_endPiece_29 : decode b_P_endPiece 29 = .ok (.iload_n 2, 1) := by decide +kernel
theorem d_P_endPiece_30 : decode b_P_endPiece 30 = .ok (.if_icmp .ge 32, 3) := by decide +kernel
theorem d_P_endPiece_33 : decode b_P_endPiece 33 = .ok (.aload_n 0, 1) := by decide +kernel
theorem d_P_endPiece_34 : decode b_P_endPiece 34 = .ok (.getfield 15, 3) := by decide +kernel
theorem d_P_endPiece_37 : decode b_P_endPiece 37 = .ok (.aload_n 0, 1) := by decide +kernel
theorem d_P_endPiece_38 : decode b_P_endPiece 38 = .ok (.dup, 1) := by decide +kernel
theorem d_P_endPiece_39 : decode b_P_endPiece 39 = .ok (.getfield 21, 3) := by decide +kernel
theorem d_P_endPiece_42 : decode b_P_endPiece 42 = .ok (.dup_x1, 1) := by decide +kernel
theorem d_P_endPiece_43 : decode b_P_endPiece 43 = .ok (.iconst 1, 1) := by decide +kernel
theorem d_P_endPiece_44 : decode b_P_endPiece 44 = .ok (.iadd, 1) := by decide +kernel
theorem d_P_endPiece_45 : decode b_P_endPiece 45 = .ok (.putfield 21, 3) := by decide +kernel
theorem d_P_endPiece_48 : decode b_P_endPiece 48 = .ok (.aload_n 0, 1) := by decide +kernel
theorem d_P_endPiece_49 : decode b_P_endPiece 49 = .ok (.getfield 11, 3) := by decide +kernel
theorem d_P_endPiece_52 : decode b_P_endPiece 52 = .ok (.iload 4, 2) := by decide +kernel
theorem d_P_endPiece_54 : decode b_P_endPiece 54 = .ok (.iaload, 1) := by decide +kernel
theorem d_P_endPiece_55 : decode b_P_endPiece 55 = .ok (.iastore, 1) := by decide +kernel
theorem d_P_endPiece_56 : decode b_P_endPiece 56 = .ok (.iinc 4 1, 3) := by decide +kernel
theorem d_P_endPiece_59 : decode b_P_endPiece 59 = .ok (.goto (-32), 3) := by decide +kernel
theorem d_P_endPiece_62 : decode b_P_endPiece 62 = .ok (.return_, 1) := by decide +kernel
theorem d_P_makePieces_0 : decode b_P_makePieces 0 = .ok (.aload_n 0, 1) := by decide +kernel
theorem d_P_makePieces_1 : decode b_P_makePieces 1 = .ok (.iconst 0, 1) := by decide +kernel
theorem d_P_makePieces_2 : decode b_P_makePieces 2 = .ok (.putfield 21, 3) := by decide +kernel
theorem d_P_makePieces_5 : decode b_P_makePieces 5 = .ok (.iconst 0, 1) := by decide +kernel
theorem d_P_makePieces_6 : decode b_P_makePieces 6 = .ok (.istore_n 1, 1) := by decide +kernel
theorem d_P_makePieces_7 : decode b_P_makePieces 7 = .ok (.iconst 0, 1) := by decide +kernel
theorem d_P_makePieces_8 : decode b_P_makePieces 8 = .ok (.istore_n 2, 1) := by decide +kernel
theorem d_P_makePieces_9 : decode b_P_makePieces 9 = .ok (.iload_n 2, 1) := by decide +kernel
theorem d_P_makePieces_10 : decode b_P_makePieces 10 = .ok (.bipush 16, 2) := by decide +kernel
theorem d_P_makePieces_12 : decode b_P_makePieces 12 = .ok (.if_icmp .ge 84, 3) := by decide +kernel
theorem d_P_makePieces_15 : decode b_P_makePieces 15 = .ok (.aload_n 0, 1) := by decide +kernel
theorem d_P_makePieces_16 : decode b_P_makePieces 16 = .ok (.iload_n 2, 1) := by decide +kernel
theorem d_P_makePieces_17 : decode b_P_makePieces 17 = .ok (.invokevirtual 31, 3) := by decide +kernel
theorem d_P_makePieces_20 : decode b_P_makePieces 20 = .ok (.istore_n 3, 1) := by decide +kernel
theorem d_P_makePieces_21 : decode b_P_makePieces 21 = .ok (.iload_n 3, 1) := by decide +kernel
theorem d_P_makePieces_22 : decode b_P_makePieces 22 = .ok (.iconst (-1), 1) := by decide +kernel
theorem d_P_makePieces_23 : decode b_P_makePieces 23 = .ok (.if_icmp .eq 50, 3) := by decide +kernel
theorem d_P_makePieces_26 : decode b_P_makePieces 26 = .ok (.aload_n 0, 1) := by decide +kernel
theorem d_P_makePieces_27 : decode b_P_makePieces 27 = .ok (.iload_n 3, 1) := by decide +kernel
theorem d_P_makePieces_28 : decode b_P_makePieces 28 = .ok (.iload_n 2, 1) := by decide +kernel
theorem d_P_makePieces_29 : decode b_P_makePieces 29 = .ok (.invokevirtual 35, 3) := by decide +kernel
theorem d_P_makePieces_32 : decode b_P_makePieces 32 = .ok (.istore 4, 2) := by decide +kernel
theorem d_P_makePieces_34 : decode b_P_makePieces 34 = .ok (.aload_n 0, 1) := by decide +kernel
theorem d_P_makePieces_35 : decode b_P_makePieces 35 = .ok (.iload_n 1, 1) := by decide +kernel
theorem d_P_makePieces_36 : decode b_P_makePieces 36 = .ok (.iload_n 2, 1) := by decide +kernel
theorem d_P_makePieces_37 : decode b_P_makePieces 37 = .ok (.iload 4, 2) := by decide +kernel
theorem d_P_makePieces_39 : decode b_P_makePieces 39 = .ok (.iconst 2, 1) := by decide +kernel
theorem d_P_makePieces_40 : decode b_P_makePieces 40 = .ok (.isub, 1) := by decide +kernel
theorem d_P_makePieces_41 : decode b_P_makePieces 41 = .ok (.invokevirtual 39, 3) := by decide +kernel
theorem d_P_makePieces_44 : decode b_P_makePieces 44 = .ok (.aload_n 0, 1) := by decide +kernel
theorem d_P_makePieces_45 : decode b_P_makePieces 45 = .ok (.getfield 15, 3) := by decide +kernel
theorem d_P_makePieces_48 : decode b_P_makePieces 48 = .ok (.aload_n 0, 1) := by decide +kernel
theorem d_P_makePieces_49 : decode b_P_makePieces 49 = .ok (.dup, 1) := by decide +kernel
theorem d_P_makePieces_50 : decode b_P_makePieces 50 = .ok (.getfield 21, 3) := by decide +kernel
theorem d_P_makePieces_53 : decode b_P_makePieces 53 = .ok (.dup_x1, 1) := by decide +kernel
theorem d_P_makePieces_54 : decode b_P_makePieces 54 = .ok (.iconst 1, 1) := by decide +kernel
theorem d_P_makePieces_55 : decode b_P_makePieces 55 = .ok (.iadd, 1) := by decide +kernel
theorem d_P_makePieces_56 : decode b_P_makePieces 56 = .ok (.putfield 21, 3) := by decide +kernel
theorem d_P_makePieces_59 : decode b_P_makePieces 59 = .ok (.iload_n 2, 1) := by decide +kernel
theorem d_P_makePieces_60 : decode b_P_makePieces 60 = .ok (.iload_n 3, 1) := by decide +kernel
theorem d_P_makePieces_61 : decode b_P_makePieces 61 = .ok (.isub, 1) := by decide +kernel
theorem d_P_makePieces_62 : decode b_P_makePieces 62 = .ok (.iastore, 1) := by decide +kernel
theorem d_P_makePieces_63 : decode b_P_makePieces 63 = .ok (.iload_n 2, 1) := by decide +kernel
theorem d_P_makePieces_64 : decode b_P_makePieces 64 = .ok (.iload 4, 2) := by decide +kernel
theorem d_P_makePieces_66 : decode b_P_makePieces 66 = .ok (.iadd, 1) := by decide +kernel
theorem d_P_makePieces_67 : decode b_P_makePieces 67 = .ok (.istore_n 2, 1) := by decide +kernel
theorem d_P_makePieces_68 : decode b_P_makePieces 68 = .ok (.iload_n 2, 1) := by decide +kernel
theorem d_P_makePieces_69 : decode b_P_makePieces 69 = .ok (.istore_n 1, 1) := by decide +kernel
theorem d_P_makePieces_70 : decode b_P_makePieces 70 = .ok (.goto 23, 3) := by decide +kernel
theorem d_P_makePieces_73 : decode b_P_makePieces 73 = .ok (.iinc 2 1, 3) := by decide +kernel
theorem d_P_makePieces_76 : decode b_P_makePieces 76 = .ok (.iload_n 2, 1) := by decide +kernel
theorem d_P_makePieces_77 : decode b_P_makePieces 77 = .ok (.iload_n 1, 1) := by decide +kernel
theorem d_P_makePieces_78 : decode b_P_makePieces 78 = .ok (.isub, 1) := by decide +kernel
theorem d_P_makePieces_79 : decode b_P_makePieces 79 = .ok (.bipush 15, 2) := by decide +kernel
theorem d_P_makePieces_81 : decode b_P_makePieces 81 = .ok (.if_icmp .ne 12, 3) := by decide +kernel
theorem d_P_makePieces_84 : decode b_P_makePieces 84 = .ok (.aload_n 0, 1) := by decide +kernel
theorem d_P_makePieces_85 : decode b_P_makePieces 85 = .ok (.iload_n 1, 1) := by decide +kernel
theorem d_P_makePieces_86 : decode b_P_makePieces 86 = .ok (.iload_n 2, 1) := by decide +kernel
theorem d_P_makePieces_87 : decode b_P_makePieces 87 = .ok (.iconst 0, 1) := by decide +kernel
theorem d_P_makePieces_88 : decode b_P_makePieces 88 = .ok (.invokevirtual 39, 3) := by decide +kernel
theorem d_P_makePieces_91 : decode b_P_makePieces 91 = .ok (.iload_n 2, 1) := by decide +kernel
theorem d_P_makePieces_92 : decode b_P_makePieces 92 = .ok (.istore_n 1, 1) := by decide +kernel
theorem d_P_makePieces_93 : decode b_P_makePieces 93 = .ok (.goto (-84), 3) := by decide +kernel
theorem d_P_makePieces_96 : decode b_P_makePieces 96 = .ok (.iload_n 1, 1) := by decide +kernel
theorem d_P_makePieces_97 : decode b_P_makePieces 97 = .ok (.bipush 16, 2) := by decide +kernel
theorem d_P_makePieces_99 : decode b_P_makePieces 99 = .ok (.if_icmp .ge 11, 3) := by decide +kernel
theorem d_P_makePieces_102 : decode b_P_makePieces 102 = .ok (.aload_n 0, 1) := by decide +kernel
theorem d_P_makePieces_103 : decode b_P_makePieces 103 = .ok (.iload_n 1, 1) := by decide +kernel
theorem d_P_makePieces_104 : decode b_P_makePieces 104 = .ok (.bipush 16, 2) := by decide +kernel
theorem d_P_makePieces_106 : decode b_P_makePieces 106 = .ok (.iconst 0, 1) := by decide +kernel
theorem d_P_makePieces_107 : decode b_P_makePieces 107 = .ok (.invokevirtual 39, 3) := by decide +kernel
theorem d_P_makePieces_110 : decode b_P_makePieces 110 = .ok (.return_, 1) := by decide +kernel
theorem d_P_storeUnits_0 : decode b_P_storeUnits 0 = .ok (.iconst 2, 1) := by decide +kernel
theorem d_P_storeUnits_1 : decode b_P_storeUnits 1 = .ok (.aload_n 0, 1) := by decide +kernel
theorem d_P_storeUnits_2 : decode b_P_storeUnits 2 = .ok (.getfield 21, 3) := by decide +kernel
theorem d_P_storeUnits_5 : decode b_P_storeUnits 5 = .ok (.iconst 3, 1) := by decide +kernel
theorem d_P_storeUnits_6 : decode b_P_storeUnits 6 = .ok (.iadd, 1) := by decide +kernel
theorem d_P_storeUnits_7 : decode b_P_storeUnits 7 = .ok (.iconst 4, 1) := by decide +kernel
theorem d_P_storeUnits_8 : decode b_P_storeUnits 8 = .ok (.idiv, 1) := by decide +kernel
theorem d_P_storeUnits_9 : decode b_P_storeUnits 9 = .ok (.iadd, 1) := by decide +kernel
theorem d_P_storeUnits_10 : decode b_P_storeUnits 10 = .ok (.ireturn, 1) := by decide +kernel
theorem d_P_pack_0 : decode b_P_pack 0 = .ok (.iconst 0, 1) := by decide +kernel
theorem d_P_pack_1 : decode b_P_pack 1 = .ok (.istore 5, 2) := by decide +kernel
theorem d_P_pack_3 : decode b_P_pack 3 = .ok (.iload 5, 2) := by decide +kernel
theorem d_P_pack_5 : decode b_P_pack 5 = .ok (.bipush 8, 2) := by decide +kernel
theorem d_P_pack_7 : decode b_P_pack 7 = .ok (.if_icmp .ge 56, 3) := by decide +kernel
theorem d_P_pack_10 : decode b_P_pack 10 = .ok (.aload_n 0, 1) := by decide +kernel
theorem d_P_pack_11 : decode b_P_pack 11 = .ok (.getfield 11, 3) := by decide +kernel
theorem d_P_pack_14 : decode b_P_pack 14 = .ok (.iload 5, 2) := by decide +kernel
theorem d_P_pack_16 : decode b_P_pack 16 = .ok (.lload_n 1, 1) := by decide +kernel
theorem d_P_pack_17 : decode b_P_pack 17 = .ok (.bipush 56, 2) := by decide +kernel
theorem d_P_pack_19 : decode b_P_pack 19 = .ok (.bipush 8, 2) := by decide +kernel
theorem d_P_pack_21 : decode b_P_pack 21 = .ok (.iload 5, 2) := by decide +kernel
theorem d_P_pack_23 : decode b_P_pack 23 = .ok (.imul, 1) := by decide +kernel
theorem d_P_pack_24 : decode b_P_pack 24 = .ok (.isub, 1) := by decide +kernel
theorem d_P_pack_25 : decode b_P_pack 25 = .ok (.lushr, 1) := by decide +kernel
theorem d_P_pack_26 : decode b_P_pack 26 = .ok (.l2i, 1) := by decide +kernel
theorem d_P_pack_27 : decode b_P_pack 27 = .ok (.sipush 255, 3) := by decide +kernel
theorem d_P_pack_30 : decode b_P_pack 30 = .ok (.iand, 1) := by decide +kernel
theorem d_P_pack_31 : decode b_P_pack 31 = .ok (.iastore, 1) := by decide +kernel
theorem d_P_pack_32 : decode b_P_pack 32 = .ok (.aload_n 0, 1) := by decide +kernel
theorem d_P_pack_33 : decode b_P_pack 33 = .ok (.getfield 11, 3) := by decide +kernel
theorem d_P_pack_36 : decode b_P_pack 36 = .ok (.bipush 8, 2) := by decide +kernel
theorem d_P_pack_38 : decode b_P_pack 38 = .ok (.iload 5, 2) := by decide +kernel
theorem d_P_pack_40 : decode b_P_pack 40 = .ok (.iadd, 1) := by decide +kernel
theorem d_P_pack_41 : decode b_P_pack 41 = .ok (.lload_n 3, 1) := by decide +kernel
theorem d_P_pack_42 : decode b_P_pack 42 = .ok (.bipush 56, 2) := by decide +kernel
theorem d_P_pack_44 : decode b_P_pack 44 = .ok (.bipush 8, 2) := by decide +kernel
theorem d_P_pack_46 : decode b_P_pack 46 = .ok (.iload 5, 2) := by decide +kernel
theorem d_P_pack_48 : decode b_P_pack 48 = .ok (.imul, 1) := by decide +kernel
theorem d_P_pack_49 : decode b_P_pack 49 = .ok (.isub, 1) := by decide +kernel
theorem d_P_pack_50 : decode b_P_pack 50 = .ok (.lushr, 1) := by decide +kernel
theorem d_P_pack_51 : decode b_P_pack 51 = .ok (.l2i, 1) := by decide +kernel
theorem d_P_pack_52 : decode b_P_pack 52 = .ok (.sipush 255, 3) := by decide +kernel
theorem d_P_pack_55 : decode b_P_pack 55 = .ok (.iand, 1) := by decide +kernel
theorem d_P_pack_56 : decode b_P_pack 56 = .ok (.iastore, 1) := by decide +kernel
theorem d_P_pack_57 : decode b_P_pack 57 = .ok (.iinc 5 1, 3) := by decide +kernel
theorem d_P_pack_60 : decode b_P_pack 60 = .ok (.goto (-57), 3) := by decide +kernel
theorem d_P_pack_63 : decode b_P_pack 63 = .ok (.aload_n 0, 1) := by decide +kernel
theorem d_P_pack_64 : decode b_P_pack 64 = .ok (.invokevirtual 18, 3) := by decide +kernel
theorem d_P_pack_67 : decode b_P_pack 67 = .ok (.aload_n 0, 1) := by decide +kernel
theorem d_P_pack_68 : decode b_P_pack 68 = .ok (.getfield 21, 3) := by decide +kernel
theorem d_P_pack_71 : decode b_P_pack 71 = .ok (.bipush 16, 2) := by decide +kernel
theorem d_P_pack_73 : decode b_P_pack 73 = .ok (.if_icmp .lt 24, 3) := by decide +kernel
theorem d_P_pack_76 : decode b_P_pack 76 = .ok (.aload_n 0, 1) := by decide +kernel
theorem d_P_pack_77 : decode b_P_pack 77 = .ok (.getfield 11, 3) := by decide +kernel
theorem d_P_pack_80 : decode b_P_pack 80 = .ok (.iconst 0, 1) := by decide +kernel
theorem d_P_pack_81 : decode b_P_pack 81 = .ok (.aload_n 0, 1) := by decide +kernel
theorem d_P_pack_82 : decode b_P_pack 82 = .ok (.getfield 15, 3) := by decide +kernel
theorem d_P_pack_85 : decode b_P_pack 85 = .ok (.iconst 0, 1) := by decide +kernel
theorem d_P_pack_86 : decode b_P_pack 86 = .ok (.bipush 16, 2) := by decide +kernel
theorem d_P_pack_88 : decode b_P_pack 88 = .ok (.invokestatic 25, 3) := by decide +kernel
theorem d_P_pack_91 : decode b_P_pack 91 = .ok (.aload_n 0, 1) := by decide +kernel
theorem d_P_pack_92 : decode b_P_pack 92 = .ok (.bipush 16, 2) := by decide +kernel
theorem d_P_pack_94 : decode b_P_pack 94 = .ok (.putfield 21, 3) := by decide +kernel
theorem d_P_pack_97 : decode b_P_pack 97 = .ok (.return_, 1) := by decide +kernel
theorem d_U_write_0 : decode b_U_write 0 = .ok (.aload_n 0, 1) := by decide +kernel
theorem d_U_write_1 : decode b_U_write 1 = .ok (.getfield 61, 3) := by decide +kernel
theorem d_U_write_4 : decode b_U_write 4 = .ok (.ifCond .eq 6, 3) := by decide +kernel
theorem d_U_write_7 : decode b_U_write 7 = .ok (.bipush (-4), 2) := by decide +kernel
theorem d_U_write_9 : decode b_U_write 9 = .ok (.ireturn, 1) := by decide +kernel
theorem d_U_write_10 : decode b_U_write 10 = .ok (.iload_n 1, 1) := by decide +kernel
theorem d_U_write_11 : decode b_U_write 11 = .ok (.invokestatic 65, 3) := by decide +kernel
theorem d_U_write_14 : decode b_U_write 14 = .ok (.ifCond .ne 5, 3) := by decide +kernel
theorem d_U_write_17 : decode b_U_write 17 = .ok (.iconst (-1), 1) := by decide +kernel
theorem d_U_write_18 : decode b_U_write 18 = .ok (.ireturn, 1) := by decide +kernel
theorem d_U_write_19 : decode b_U_write 19 = .ok (.aload_n 0, 1) := by decide +kernel
theorem d_U_write_20 : decode b_U_write 20 = .ok (.getfield 28, 3) := by decide +kernel
theorem d_U_write_23 : decode b_U_write 23 = .ok (.lload_n 2, 1) := by decide +kernel
theorem d_U_write_24 : decode b_U_write 24 = .ok (.lload 4, 2) := by decide +kernel
theorem d_U_write_26 : decode b_U_write 26 = .ok (.invokevirtual 69, 3) := by decide +kernel
theorem d_U_write_29 : decode b_U_write 29 = .ok (.aload_n 0, 1) := by decide +kernel
theorem d_U_write_30 : decode b_U_write 30 = .ok (.getfield 28, 3) := by decide +kernel
theorem d_U_write_33 : decode b_U_write 33 = .ok (.invokevirtual 73, 3) := by decide +kernel
theorem d_U_write_36 : decode b_U_write 36 = .ok (.istore 6, 2) := by decide +kernel
theorem d_U_write_38 : decode b_U_write 38 = .ok (.aload_n 0, 1) := by decide +kernel
theorem d_U_write_39 : decode b_U_write 39 = .ok (.iload 6, 2) := by decide +kernel
theorem d_U_write_41 : decode b_U_write 41 = .ok (.invokevirtual 77, 3) := by decide +kernel
theorem d_U_write_44 : decode b_U_write 44 = .ok (.ifCond .ne 6, 3) := by decide +kernel
theorem d_U_write_47 : decode b_U_write 47 = .ok (.bipush (-3), 2) := by decide +kernel
theorem d_U_write_49 : decode b_U_write 49 = .ok (.ireturn, 1) := by decide +kernel
theorem d_U_write_50 : decode b_U_write 50 = .ok (.aload_n 0, 1) := by decide +kernel
theorem d_U_write_51 : decode b_U_write 51 = .ok (.iload_n 1, 1) := by decide +kernel
theorem d_U_write_52 : decode b_U_write 52 = .ok (.iload 6, 2) := by decide +kernel
theorem d_U_write_54 : decode b_U_write 54 = .ok (.iconst 1, 1) := by decide +kernel
theorem d_U_write_55 : decode b_U_write 55 = .ok (.lload_n 2, 1) := by decide +kernel
theorem d_U_write_56 : decode b_U_write 56 = .ok (.lload 4, 2) := by decide +kernel
theorem d_U_write_58 : decode b_U_write 58 = .ok (.invokevirtual 80, 3) := by decide +kernel
theorem d_U_write_61 : decode b_U_write 61 = .ok (.ifCond .eq 8, 3) := by decide +kernel
theorem d_U_write_64 : decode b_U_write 64 = .ok (.iload 6, 2) := by decide +kernel
theorem d_U_write_66 : decode b_U_write 66 = .ok (.goto 7, 3) := by decide +kernel
theorem d_U_write_69 : decode b_U_write 69 = .ok (.aload_n 0, 1) := by decide +kernel
theorem d_U_write_70 : decode b_U_write 70 = .ok (.invokevirtual 84, 3) := by decide +kernel
theorem d_U_write_73 : decode b_U_write 73 = .ok (.ireturn, 1) := by decide +kernel
theorem d_U_trim_0 : decode b_U_trim 0 = .ok (.aload_n 0, 1) := by decide +kernel
theorem d_U_trim_1 : decode b_U_trim 1 = .ok (.getfield 61, 3) := by decide +kernel
theorem d_U_trim_4 : decode b_U_trim 4 = .ok (.ifCond .eq 6, 3) := by decide +kernel
theorem d_U_trim_7 : decode b_U_trim 7 = .ok (.bipush (-4), 2) := by decide +kernel
theorem d_U_trim_9 : decode b_U_trim 9 = .ok (.ireturn, 1) := by decide +kernel
theorem d_U_trim_10 : decode b_U_trim 10 = .ok (.iload_n 1, 1) := by decide +kernel
theorem d_U_trim_11 : decode b_U_trim 11 = .ok (.invokestatic 65, 3) := by decide +kernel
theorem d_U_trim_14 : decode b_U_trim 14 = .ok (.ifCond .ne 5, 3) := by decide +kernel
theorem d_U_trim_17 : decode b_U_trim 17 = .ok (.iconst (-1), 1) := by decide +kernel
theorem d_U_trim_18 : decode b_U_trim 18 = .ok (.ireturn, 1) := by decide +kernel
theorem d_U_trim_19 : decode b_U_trim 19 = .ok (.aload_n 0, 1) := by decide +kernel
theorem d_U_trim_20 : decode b_U_trim 20 = .ok (.getfield 52, 3) := by decide +kernel
theorem d_U_trim_23 : decode b_U_trim 23 = .ok (.iload_n 1, 1) := by decide +kernel
theorem d_U_trim_24 : decode b_U_trim 24 = .ok (.iaload, 1) := by decide +kernel
theorem d_U_trim_25 : decode b_U_trim 25 = .ok (.iconst (-1), 1) := by decide +kernel
theorem d_U_trim_26 : decode b_U_trim 26 = .ok (.if_icmp .ne 6, 3) := by decide +kernel
theorem d_U_trim_29 : decode b_U_trim 29 = .ok (.bipush (-2), 2) := by decide +kernel
theorem d_U_trim_31 : decode b_U_trim 31 = .ok (.ireturn, 1) := by decide +kernel
theorem d_U_trim_32 : decode b_U_trim 32 = .ok (.aload_n 0, 1) := by decide +kernel
theorem d_U_trim_33 : decode b_U_trim 33 = .ok (.iconst 2, 1) := by decide +kernel
theorem d_U_trim_34 : decode b_U_trim 34 = .ok (.invokevirtual 77, 3) := by decide +kernel
theorem d_U_trim_37 : decode b_U_trim 37 = .ok (.ifCond .ne 6, 3) := by decide +kernel
theorem d_U_trim_40 : decode b_U_trim 40 = .ok (.bipush (-3), 2) := by decide +kernel
theorem d_U_trim_42 : decode b_U_trim 42 = .ok (.ireturn, 1) := by decide +kernel
theorem d_U_trim_43 : decode b_U_trim 43 = .ok (.aload_n 0, 1) := by decide +kernel
theorem d_U_trim_44 : decode b_U_trim 44 = .ok (.iload_n 1, 1) := by decide +kernel
theorem d_U_trim_45 : decode b_U_trim 45 = .ok (.iconst 2, 1) := by decide +kernel
theorem d_U_trim_46 : decode b_U_trim 46 = .ok (.iconst 0, 1) := by decide +kernel
theorem d_U_trim_47 : decode b_U_trim 47 = .ok (.lconst 0, 1) := by decide +kernel
theorem d_U_trim_48 : decode b_U_trim 48 = .ok (.lconst 0, 1) := by decide +kernel
theorem d_U_trim_49 : decode b_U_trim 49 = .ok (.invokevirtual 80, 3) := by decide +kernel
theorem d_U_trim_52 : decode b_U_trim 52 = .ok (.ifCond .eq 7, 3) := by decide +kernel
theorem d_U_trim_55 : decode b_U_trim 55 = .ok (.iconst 2, 1) := by decide +kernel
theorem d_U_trim_56 : decode b_U_trim 56 = .ok (.goto 7, 3) := by decide +kernel
theorem d_U_trim_59 : decode b_U_trim 59 = .ok (.aload_n 0, 1) := by decide +kernel
theorem d_U_trim_60 : decode b_U_trim 60 = .ok (.invokevirtual 84, 3) := by decide +kernel
theorem d_U_trim_63 : decode b_U_trim 63 = .ok (.ireturn, 1) := by decide +kernel
theorem d_U_read_0 : decode b_U_read 0 = .ok (.aload_n 0, 1) := by decide +kernel
theorem d_U_read_1 : decode b_U_read 1 = .ok (.getfield 61, 3) := by decide +kernel
theorem d_U_read_4 : decode b_U_read 4 = .ok (.ifCond .ne 20, 3) := by decide +kernel
theorem d_U_read_7 : decode b_U_read 7 = .ok (.iload_n 1, 1) := by decide +kernel
theorem d_U_read_8 : decode b_U_read 8 = .ok (.invokestatic 65, 3) := by decide +kernel
theorem d_U_read_11 : decode b_U_read 11 = .ok (.ifCond .eq 13, 3) := by decide +kernel
theorem d_U_read_14 : decode b_U_read 14 = .ok (.aload_n 0, 1) := by decide +kernel
theorem d_U_read_15 : decode b_U_read 15 = .ok (.getfield 52, 3) := by decide +kernel
theorem d_U_read_18 : decode b_U_read 18 = .ok (.iload_n 1, 1) := by decide +kernel
theorem d_U_read_19 : decode b_U_read 19 = .ok (.iaload, 1) := by decide +kernel
theorem d_U_read_20 : decode b_U_read 20 = .ok (.iconst (-1), 1) := by decide +kernel
theorem d_U_read_21 : decode b_U_read 21 = .ok (.if_icmp .ne 5, 3) := by decide +kernel
theorem d_U_read_24 : decode b_U_read 24 = .ok (.lconst 0, 1) := by decide +kernel
theorem d_U_read_25 : decode b_U_read 25 = .ok (.lreturn, 1) := by decide +kernel
theorem d_U_read_26 : decode b_U_read 26 = .ok (.iload_n 2, 1) := by decide +kernel
theorem d_U_read_27 : decode b_U_read 27 = .ok (.ifCond .ne 18, 3) := by decide +kernel
theorem d_U_read_30 : decode b_U_read 30 = .ok (.aload_n 0, 1) := by decide +kernel
theorem d_U_read_31 : decode b_U_read 31 = .ok (.getfield 37, 3) := by decide +kernel
theorem d_U_read_34 : decode b_U_read 34 = .ok (.getfield 87, 3) := by decide +kernel
theorem d_U_read_37 : decode b_U_read 37 = .ok (.aload_n 0, 1) := by decide +kernel
theorem d_U_read_38 : decode b_U_read 38 = .ok (.getfield 52, 3) := by decide +kernel
theorem d_U_read_41 : decode b_U_read 41 = .ok (.iload_n 1, 1) := by decide +kernel
theorem d_U_read_42 : decode b_U_read 42 = .ok (.iaload, 1) := by decide +kernel
theorem d_U_read_43 : decode b_U_read 43 = .ok (.laload, 1) := by decide +kernel
theorem d_U_read_44 : decode b_U_read 44 = .ok (.lreturn, 1) := by decide +kernel
theorem d_U_read_45 : decode b_U_read 45 = .ok (.iload_n 2, 1) := by decide +kernel
theorem d_U_read_46 : decode b_U_read 46 = .ok (.iconst 1, 1) := by decide +kernel
theorem d_U_read_47 : decode b_U_read 47 = .ok (.if_icmp .ne 20, 3) := by decide +kernel
theorem d_U_read_50 : decode b_U_read 50 = .ok (.aload_n 0, 1) := by decide +kernel
theorem d_U_read_51 : decode b_U_read 51 = .ok (.getfield 37, 3) := by decide +kernel
theorem d_U_read_54 : decode b_U_read 54 = .ok (.getfield 91, 3) := by decide +kernel
theorem d_U_read_57 : decode b_U_read 57 = .ok (.aload_n 0, 1) := by decide +kernel
theorem d_U_read_58 : decode b_U_read 58 = .ok (.getfield 52, 3) := by decide +kernel
theorem d_U_read_61 : decode b_U_read 61 = .ok (.iload_n 1, 1) := by decide +kernel
theorem d_U_read_62 : decode b_U_read 62 = .ok (.iaload, 1) := by decide +kernel
theorem d_U_read_63 : decode b_U_read 63 = .ok (.laload, 1) := by decide +kernel
theorem d_U_read_64 : decode b_U_read 64 = .ok (.goto 4, 3) := by decide +kernel
theorem d_U_read_67 : decode b_U_read 67 = .ok (.lconst 0, 1) := by decide +kernel
theorem d_U_read_68 : decode b_U_read 68 = .ok (.lreturn, 1) := by decide +kernel
theorem d_U_packed_0 : decode b_U_packed 0 = .ok (.aload_n 0, 1) := by decide +kernel
theorem d_U_packed_1 : decode b_U_packed 1 = .ok (.getfield 61, 3) := by decide +kernel
theorem d_U_packed_4 : decode b_U_packed 4 = .ok (.ifCond .eq 6, 3) := by decide +kernel
theorem d_U_packed_7 : decode b_U_packed 7 = .ok (.bipush (-4), 2) := by decide +kernel
theorem d_U_packed_9 : decode b_U_packed 9 = .ok (.ireturn, 1) := by decide +kernel
theorem d_U_packed_10 : decode b_U_packed 10 = .ok (.iload_n 1, 1) := by decide +kernel
theorem d_U_packed_11 : decode b_U_packed 11 = .ok (.invokestatic 65, 3) := by decide +kernel
theorem d_U_packed_14 : decode b_U_packed 14 = .ok (.ifCond .ne 5, 3) := by decide +kernel
theorem d_U_packed_17 : decode b_U_packed 17 = .ok (.iconst (-1), 1) := by decide +kernel
theorem d_U_packed_18 : decode b_U_packed 18 = .ok (.ireturn, 1) := by decide +kernel
theorem d_U_packed_19 : decode b_U_packed 19 = .ok (.aload_n 0, 1) := by decide +kernel
theorem d_U_packed_20 : decode b_U_packed 20 = .ok (.getfield 52, 3) := by decide +kernel
theorem d_U_packed_23 : decode b_U_packed 23 = .ok (.iload_n 1, 1) := by decide +kernel
theorem d_U_packed_24 : decode b_U_packed 24 = .ok (.iaload, 1) := by decide +kernel
theorem d_U_packed_25 : decode b_U_packed 25 = .ok (.istore_n 3, 1) := by decide +kernel
theorem d_U_packed_26 : decode b_U_packed 26 = .ok (.iload_n 3, 1) := by decide +kernel
theorem d_U_packed_27 : decode b_U_packed 27 = .ok (.iconst (-1), 1) := by decide +kernel
theorem d_U_packed_28 : decode b_U_packed 28 = .ok (.if_icmp .ne 6, 3) := by decide +kernel
theorem d_U_packed_31 : decode b_U_packed 31 = .ok (.bipush (-2), 2) := by decide +kernel
theorem d_U_packed_33 : decode b_U_packed 33 = .ok (.ireturn, 1) := by decide +kernel
theorem d_U_packed_34 : decode b_U_packed 34 = .ok (.aload_n 0, 1) := by decide +kernel
theorem d_U_packed_35 : decode b_U_packed 35 = .ok (.getfield 28, 3) := by decide +kernel
theorem d_U_packed_38 : decode b_U_packed 38 = .ok (.aload_n 0, 1) := by decide +kernel
theorem d_U_packed_39 : decode b_U_packed 39 = .ok (.getfield 37, 3) := by decide +kernel
theorem d_U_packed_42 : decode b_U_packed 42 = .ok (.getfield 87, 3) := by decide +kernel
theorem d_U_packed_45 : decode b_U_packed 45 = .ok (.iload_n 3, 1) := by decide +kernel
theorem d_U_packed_46 : decode b_U_packed 46 = .ok (.laload, 1) := by decide +kernel
theorem d_U_packed_47 : decode b_U_packed 47 = .ok (.aload_n 0, 1) := by decide +kernel
theorem d_U_packed_48 : decode b_U_packed 48 = .ok (.getfield 37, 3) := by decide +kernel
theorem d_U_packed_51 : decode b_U_packed 51 = .ok (.getfield 91, 3) := by decide +kernel
theorem d_U_packed_54 : decode b_U_packed 54 = .ok (.iload_n 3, 1) := by decide +kernel
theorem d_U_packed_55 : decode b_U_packed 55 = .ok (.laload, 1) := by decide +kernel
theorem d_U_packed_56 : decode b_U_packed 56 = .ok (.invokevirtual 69, 3) := by decide +kernel
theorem d_U_packed_59 : decode b_U_packed 59 = .ok (.iload_n 2, 1) := by decide +kernel
theorem d_U_packed_60 : decode b_U_packed 60 = .ok (.iconst (-1), 1) := by decide +kernel
theorem d_U_packed_61 : decode b_U_packed 61 = .ok (.if_icmp .ne 11, 3) := by decide +kernel
theorem d_U_packed_64 : decode b_U_packed 64 = .ok (.aload_n 0, 1) := by decide +kernel
theorem d_U_packed_65 : decode b_U_packed 65 = .ok (.getfield 28, 3) := by decide +kernel
theorem d_U_packed_68 : decode b_U_packed 68 = .ok (.getfield 94, 3) := by decide +kernel
theorem d_U_packed_71 : decode b_U_packed 71 = .ok (.ireturn, 1) := by decide +kernel
theorem d_U_packed_72 : decode b_U_packed 72 = .ok (.iload_n 2, 1) := by decide +kernel
theorem d_U_packed_73 : decode b_U_packed 73 = .ok (.ifCond .lt 26, 3) := by decide +kernel
theorem d_U_packed_76 : decode b_U_packed 76 = .ok (.iload_n 2, 1) := by decide +kernel
theorem d_U_packed_77 : decode b_U_packed 77 = .ok (.aload_n 0, 1) := by decide +kernel
theorem d_U_packed_78 : decode b_U_packed 78 = .ok (.getfield 28, 3) := by decide +kernel
theorem d_U_packed_81 : decode b_U_packed 81 = .ok (.getfield 94, 3) := by decide +kernel
theorem d_U_packed_84 : decode b_U_packed 84 = .ok (.if_icmp .ge 15, 3) := by decide +kernel
theorem d_U_packed_87 : decode b_U_packed 87 = .ok (.aload_n 0, 1) := by decide +kernel
theorem d_U_packed_88 : decode b_U_packed 88 = .ok (.getfield 28, 3) := by decide +kernel
theorem d_U_packed_91 : decode b_U_packed 91 = .ok (.getfield 98, 3) := by decide +kernel
theorem d_U_packed_94 : decode b_U_packed 94 = .ok (.iload_n 2, 1) := by decide +kernel
theorem d_U_packed_95 : decode b_U_packed 95 = .ok (.iaload, 1) := by decide +kernel
theorem d_U_packed_96 : decode b_U_packed 96 = .ok (.goto 4, 3) := by decide +kernel
theorem d_U_packed_99 : decode b_U_packed 99 = .ok (.iconst (-1), 1) := by decide +kernel
theorem d_U_packed_100 : decode b_U_packed 100 = .ok (.ireturn, 1) := by decide +kernel
theorem d_U_place_0 : decode b_U_place 0 = .ok (.aload_n 0, 1) := by decide +kernel
theorem d_U_place_1 : decode b_U_place 1 = .ok (.getfield 61, 3) := by decide +kernel
theorem d_U_place_4 : decode b_U_place 4 = .ok (.ifCond .eq 6, 3) := by decide +kernel
theorem d_U_place_7 : decode b_U_place 7 = .ok (.bipush (-4), 2) := by decide +kernel
theorem d_U_place_9 : decode b_U_place 9 = .ok (.ireturn, 1) := by decide +kernel
theorem d_U_place_10 : decode b_U_place 10 = .ok (.iload_n 1, 1) := by decide +kernel
theorem d_U_place_11 : decode b_U_place 11 = .ok (.invokestatic 65, 3) := by decide +kernel
theorem d_U_place_14 : decode b_U_place 14 = .ok (.ifCond .ne 5, 3) := by decide +kernel
theorem d_U_place_17 : decode b_U_place 17 = .ok (.iconst (-1), 1) := by decide +kernel
theorem d_U_place_18 : decode b_U_place 18 = .ok (.ireturn, 1) := by decide +kernel
theorem d_U_place_19 : decode b_U_place 19 = .ok (.aload_n 0, 1) := by decide +kernel
theorem d_U_place_20 : decode b_U_place 20 = .ok (.getfield 52, 3) := by decide +kernel
theorem d_U_place_23 : decode b_U_place 23 = .ok (.iload_n 1, 1) := by decide +kernel
theorem d_U_place_24 : decode b_U_place 24 = .ok (.iaload, 1) := by decide +kernel
theorem d_U_place_25 : decode b_U_place 25 = .ok (.iconst (-1), 1) := by decide +kernel
theorem d_U_place_26 : decode b_U_place 26 = .ok (.if_icmp .ne 8, 3) := by decide +kernel
theorem d_U_place_29 : decode b_U_place 29 = .ok (.bipush (-2), 2) := by decide +kernel
theorem d_U_place_31 : decode b_U_place 31 = .ok (.goto 9, 3) := by decide +kernel
theorem d_U_place_34 : decode b_U_place 34 = .ok (.aload_n 0, 1) := by decide +kernel
theorem d_U_place_35 : decode b_U_place 35 = .ok (.getfield 52, 3) := by decide +kernel
theorem d_U_place_38 : decode b_U_place 38 = .ok (.iload_n 1, 1) := by decide +kernel
theorem d_U_place_39 : decode b_U_place 39 = .ok (.iaload, 1) := by decide +kernel
theorem d_U_place_40 : decode b_U_place 40 = .ok (.ireturn, 1) := by decide +kernel
theorem d_U_flush_0 : decode b_U_flush 0 = .ok (.aload_n 0, 1) := by decide +kernel
theorem d_U_flush_1 : decode b_U_flush 1 = .ok (.getfield 61, 3) := by decide +kernel
theorem d_U_flush_4 : decode b_U_flush 4 = .ok (.ifCond .eq 6, 3) := by decide +kernel
theorem d_U_flush_7 : decode b_U_flush 7 = .ok (.bipush (-4), 2) := by decide +kernel
theorem d_U_flush_9 : decode b_U_flush 9 = .ok (.ireturn, 1) := by decide +kernel
theorem d_U_flush_10 : decode b_U_flush 10 = .ok (.aload_n 0, 1) := by decide +kernel
theorem d_U_flush_11 : decode b_U_flush 11 = .ok (.getfield 101, 3) := by decide +kernel
theorem d_U_flush_14 : decode b_U_flush 14 = .ok (.aload_n 0, 1) := by decide +kernel
theorem d_U_flush_15 : decode b_U_flush 15 = .ok (.getfield 103, 3) := by decide +kernel
theorem d_U_flush_18 : decode b_U_flush 18 = .ok (.isub, 1) := by decide +kernel
theorem d_U_flush_19 : decode b_U_flush 19 = .ok (.istore_n 1, 1) := by decide +kernel
theorem d_U_flush_20 : decode b_U_flush 20 = .ok (.aload_n 0, 1) := by decide +kernel
theorem d_U_flush_21 : decode b_U_flush 21 = .ok (.invokevirtual 106, 3) := by decide +kernel
theorem d_U_flush_24 : decode b_U_flush 24 = .ok (.ifCond .eq 7, 3) := by decide +kernel
theorem d_U_flush_27 : decode b_U_flush 27 = .ok (.iload_n 1, 1) := by decide +kernel
theorem d_U_flush_28 : decode b_U_flush 28 = .ok (.goto 7, 3) := by decide +kernel
theorem d_U_flush_31 : decode b_U_flush 31 = .ok (.aload_n 0, 1) := by decide +kernel
theorem d_U_flush_32 : decode b_U_flush 32 = .ok (.invokevirtual 84, 3) := by decide +kernel
theorem d_U_flush_35 : decode b_U_flush 35 = .ok (.ireturn, 1) := by decide +kernel
theorem d_U_checkpoint_0 : decode b_U_checkpoint 0 = .ok (.aload_n 0, 1) := by decide +kernel
theorem d_U_checkpoint_1 : decode b_U_checkpoint 1 = .ok (.getfield 61, 3) := by decide +kernel
theorem d_U_checkpoint_4 : decode b_U_checkpoint 4 = .ok (.ifCond .eq 6, 3) := by decide +kernel
theorem d_U_checkpoint_7 : decode b_U_checkpoint 7 = .ok (.bipush (-4), 2) := by decide +kernel
theorem d_U_checkpoint_9 : decode b_U_checkpoint 9 = .ok (.ireturn, 1) := by decide +kernel
theorem d_U_checkpoint_10 : decode b_U_checkpoint 10 = .ok (.aload_n 0, 1) := by decide +kernel
theorem d_U_checkpoint_11 : decode b_U_checkpoint 11 = .ok (.invokevirtual 110, 3) := by decide +kernel
theorem d_U_checkpoint_14 : decode b_U_checkpoint 14 = .ok (.ifCond .eq 13, 3) := by decide +kernel
theorem d_U_checkpoint_17 : decode b_U_checkpoint 17 = .ok (.aload_n 0, 1) := by decide +kernel
theorem d_U_checkpoint_18 : decode b_U_checkpoint 18 = .ok (.getfield 44, 3) := by decide +kernel
theorem d_U_checkpoint_21 : decode b_U_checkpoint 21 = .ok (.getfield 113, 3) := by decide +kernel
theorem d_U_checkpoint_24 : decode b_U_checkpoint 24 = .ok (.goto 7, 3) := by decide +kernel
theorem d_U_checkpoint_27 : decode b_U_checkpoint 27 = .ok (.aload_n 0, 1) := by decide +kernel
theorem d_U_checkpoint_28 : decode b_U_checkpoint 28 = .ok (.invokevirtual 84, 3) := by decide +kernel
theorem d_U_checkpoint_31 : decode b_U_checkpoint 31 = .ok (.ireturn, 1) := by decide +kernel
theorem d_U_clean_0 : decode b_U_clean 0 = .ok (.aload_n 0, 1) := by decide +kernel
theorem d_U_clean_1 : decode b_U_clean 1 = .ok (.getfield 61, 3) := by decide +kernel
theorem d_U_clean_4 : decode b_U_clean 4 = .ok (.ifCond .eq 6, 3) := by decide +kernel
theorem d_U_clean_7 : decode b_U_clean 7 = .ok (.bipush (-4), 2) := by decide +kernel
theorem d_U_clean_9 : decode b_U_clean 9 = .ok (.ireturn, 1) := by decide +kernel
theorem d_U_clean_10 : decode b_U_clean 10 = .ok (.aload_n 0, 1) := by decide +kernel
theorem d_U_clean_11 : decode b_U_clean 11 = .ok (.invokevirtual 116, 3) := by decide +kernel
theorem d_U_clean_14 : decode b_U_clean 14 = .ok (.istore_n 1, 1) := by decide +kernel
theorem d_U_clean_15 : decode b_U_clean 15 = .ok (.iload_n 1, 1) := by decide +kernel
theorem d_U_clean_16 : decode b_U_clean 16 = .ok (.iconst (-1), 1) := by decide +kernel
theorem d_U_clean_17 : decode b_U_clean 17 = .ok (.if_icmp .ne 6, 3) := by decide +kernel
theorem d_U_clean_20 : decode b_U_clean 20 = .ok (.bipush (-2), 2) := by decide +kernel
theorem d_U_clean_22 : decode b_U_clean 22 = .ok (.ireturn, 1) := by decide +kernel
theorem d_U_clean_23 : decode b_U_clean 23 = .ok (.aload_n 0, 1) := by decide +kernel
theorem d_U_clean_24 : decode b_U_clean 24 = .ok (.iload_n 1, 1) := by decide +kernel
theorem d_U_clean_25 : decode b_U_clean 25 = .ok (.invokevirtual 119, 3) := by decide +kernel
theorem d_U_clean_28 : decode b_U_clean 28 = .ok (.ifCond .ne 6, 3) := by decide +kernel
theorem d_U_clean_31 : decode b_U_clean 31 = .ok (.bipush (-3), 2) := by decide +kernel
theorem d_U_clean_33 : decode b_U_clean 33 = .ok (.ireturn, 1) := by decide +kernel
theorem d_U_clean_34 : decode b_U_clean 34 = .ok (.aload_n 0, 1) := by decide +kernel
theorem d_U_clean_35 : decode b_U_clean 35 = .ok (.invokevirtual 110, 3) := by decide +kernel
theorem d_U_clean_38 : decode b_U_clean 38 = .ok (.ifCond .ne 8, 3) := by decide +kernel
theorem d_U_clean_41 : decode b_U_clean 41 = .ok (.aload_n 0, 1) := by decide +kernel
theorem d_U_clean_42 : decode b_U_clean 42 = .ok (.invokevirtual 84, 3) := by decide +kernel
theorem d_U_clean_45 : decode b_U_clean 45 = .ok (.ireturn, 1) := by decide +kernel
theorem d_U_clean_46 : decode b_U_clean 46 = .ok (.aload_n 0, 1) := by decide +kernel
theorem d_U_clean_47 : decode b_U_clean 47 = .ok (.iload_n 1, 1) := by decide +kernel
theorem d_U_clean_48 : decode b_U_clean 48 = .ok (.invokevirtual 122, 3) := by decide +kernel
theorem d_U_clean_51 : decode b_U_clean 51 = .ok (.istore_n 2, 1) := by decide +kernel
theorem d_U_clean_52 : decode b_U_clean 52 = .ok (.iload_n 2, 1) := by decide +kernel
theorem d_U_clean_53 : decode b_U_clean 53 = .ok (.bipush (-4), 2) := by decide +kernel
theorem d_U_clean_55 : decode b_U_clean 55 = .ok (.if_icmp .eq 10, 3) := by decide +kernel
theorem d_U_clean_58 : decode b_U_clean 58 = .ok (.aload_n 0, 1) := by decide +kernel
theorem d_U_clean_59 : decode b_U_clean 59 = .ok (.invokevirtual 110, 3) := by decide +kernel
theorem d_U_clean_62 : decode b_U_clean 62 = .ok (.ifCond .ne 8, 3) := by decide +kernel
theorem d_U_clean_65 : decode b_U_clean 65 = .ok (.aload_n 0, 1) := by decide +kernel
theorem d_U_clean_66 : decode b_U_clean 66 = .ok (.invokevirtual 84, 3) := by decide +kernel
theorem d_U_clean_69 : decode b_U_clean 69 = .ok (.ireturn, 1) := by decide +kernel
theorem d_U_clean_70 : decode b_U_clean 70 = .ok (.aload_n 0, 1) := by decide +kernel
theorem d_U_clean_71 : decode b_U_clean 71 = .ok (.getfield 48, 3) := by decide +kernel
theorem d_U_clean_74 : decode b_U_clean 74 = .ok (.iload_n 1, 1) := by decide +kernel
theorem d_U_clean_75 : decode b_U_clean 75 = .ok (.iconst 0, 1) := by decide +kernel
theorem d_U_clean_76 : decode b_U_clean 76 = .ok (.iastore, 1) := by decide +kernel
theorem d_U_clean_77 : decode b_U_clean 77 = .ok (.iload_n 2, 1) := by decide +kernel
theorem d_U_clean_78 : decode b_U_clean 78 = .ok (.ireturn, 1) := by decide +kernel
theorem d_U_arm_0 : decode b_U_arm 0 = .ok (.aload_n 0, 1) := by decide +kernel
theorem d_U_arm_1 : decode b_U_arm 1 = .ok (.getfield 61, 3) := by decide +kernel
theorem d_U_arm_4 : decode b_U_arm 4 = .ok (.ifCond .ne 14, 3) := by decide +kernel
theorem d_U_arm_7 : decode b_U_arm 7 = .ok (.iload_n 1, 1) := by decide +kernel
theorem d_U_arm_8 : decode b_U_arm 8 = .ok (.ifCond .lt 10, 3) := by decide +kernel
theorem d_U_arm_11 : decode b_U_arm 11 = .ok (.iload_n 1, 1) := by decide +kernel
theorem d_U_arm_12 : decode b_U_arm 12 = .ok (.sipush 10000, 3) := by decide +kernel
theorem d_U_arm_15 : decode b_U_arm 15 = .ok (.if_icmp .le 5, 3) := by decide +kernel
theorem d_U_arm_18 : decode b_U_arm 18 = .ok (.iconst 0, 1) := by decide +kernel
theorem d_U_arm_19 : decode b_U_arm 19 = .ok (.ireturn, 1) := by decide +kernel
theorem d_U_arm_20 : decode b_U_arm 20 = .ok (.aload_n 0, 1) := by decide +kernel
theorem d_U_arm_21 : decode b_U_arm 21 = .ok (.getfield 21, 3) := by decide +kernel
theorem d_U_arm_24 : decode b_U_arm 24 = .ok (.iload_n 1, 1) := by decide +kernel
theorem d_U_arm_25 : decode b_U_arm 25 = .ok (.putfield 126, 3) := by decide +kernel
theorem d_U_arm_28 : decode b_U_arm 28 = .ok (.iconst 1, 1) := by decide +kernel
theorem d_U_arm_29 : decode b_U_arm 29 = .ok (.ireturn, 1) := by decide +kernel
theorem d_U_disarm_0 : decode b_U_disarm 0 = .ok (.aload_n 0, 1) := by decide +kernel
theorem d_U_disarm_1 : decode b_U_disarm 1 = .ok (.getfield 61, 3) := by decide +kernel
theorem d_U_disarm_4 : decode b_U_disarm 4 = .ok (.ifCond .ne 14, 3) := by decide +kernel
theorem d_U_disarm_7 : decode b_U_disarm 7 = .ok (.aload_n 0, 1) := by decide +kernel
theorem d_U_disarm_8 : decode b_U_disarm 8 = .ok (.getfield 21, 3) := by decide +kernel
theorem d_U_disarm_11 : decode b_U_disarm 11 = .ok (.getfield 126, 3) := by decide +kernel
theorem d_U_disarm_14 : decode b_U_disarm 14 = .ok (.iconst (-1), 1) := by decide +kernel
theorem d_U_disarm_15 : decode b_U_disarm 15 = .ok (.if_icmp .ne 5, 3) := by decide +kernel
theorem d_U_disarm_18 : decode b_U_disarm 18 = .ok (.iconst 0, 1) := by decide +kernel
theorem d_U_disarm_19 : decode b_U_disarm 19 = .ok (.ireturn, 1) := by decide +kernel
theorem d_U_disarm_20 : decode b_U_disarm 20 = .ok (.aload_n 0, 1) := by decide +kernel
theorem d_U_disarm_21 : decode b_U_disarm 21 = .ok (.getfield 21, 3) := by decide +kernel
theorem d_U_disarm_24 : decode b_U_disarm 24 = .ok (.iconst (-1), 1) := by decide +kernel
theorem d_U_disarm_25 : decode b_U_disarm 25 = .ok (.putfield 126, 3) := by decide +kernel
theorem d_U_disarm_28 : decode b_U_disarm 28 = .ok (.iconst 1, 1) := by decide +kernel
theorem d_U_disarm_29 : decode b_U_disarm 29 = .ok (.ireturn, 1) := by decide +kernel
theorem d_U_crash_0 : decode b_U_crash 0 = .ok (.aload_n 0, 1) := by decide +kernel
theorem d_U_crash_1 : decode b_U_crash 1 = .ok (.getfield 61, 3) := by decide +kernel
theorem d_U_crash_4 : decode b_U_crash 4 = .ok (.ifCond .eq 5, 3) := by decide +kernel
theorem d_U_crash_7 : decode b_U_crash 7 = .ok (.iconst 0, 1) := by decide +kernel
theorem d_U_crash_8 : decode b_U_crash 8 = .ok (.ireturn, 1) := by decide +kernel
theorem d_U_crash_9 : decode b_U_crash 9 = .ok (.aload_n 0, 1) := by decide +kernel
theorem d_U_crash_10 : decode b_U_crash 10 = .ok (.invokevirtual 84, 3) := by decide +kernel
theorem d_U_crash_13 : decode b_U_crash 13 = .ok (.pop, 1) := by decide +kernel
theorem d_U_crash_14 : decode b_U_crash 14 = .ok (.iconst 1, 1) := by decide +kernel
theorem d_U_crash_15 : decode b_U_crash 15 = .ok (.ireturn, 1) := by decide +kernel
theorem d_U_recover_0 : decode b_U_recover 0 = .ok (.aload_n 0, 1) := by decide +kernel
theorem d_U_recover_1 : decode b_U_recover 1 = .ok (.getfield 61, 3) := by decide +kernel
theorem d_U_recover_4 : decode b_U_recover 4 = .ok (.ifCond .ne 5, 3) := by decide +kernel
theorem d_U_recover_7 : decode b_U_recover 7 = .ok (.iconst (-1), 1) := by decide +kernel
theorem d_U_recover_8 : decode b_U_recover 8 = .ok (.ireturn, 1) := by decide +kernel
theorem d_U_recover_9 : decode b_U_recover 9 = .ok (.aload_n 0, 1) := by decide +kernel
theorem d_U_recover_10 : decode b_U_recover 10 = .ok (.iconst 0, 1) := by decide +kernel
theorem d_U_recover_11 : decode b_U_recover 11 = .ok (.putfield 61, 3) := by decide +kernel
theorem d_U_recover_14 : decode b_U_recover 14 = .ok (.aload_n 0, 1) := by decide +kernel
theorem d_U_recover_15 : decode b_U_recover 15 = .ok (.getfield 21, 3) := by decide +kernel
theorem d_U_recover_18 : decode b_U_recover 18 = .ok (.iconst (-1), 1) := by decide +kernel
theorem d_U_recover_19 : decode b_U_recover 19 = .ok (.putfield 126, 3) := by decide +kernel
theorem d_U_recover_22 : decode b_U_recover 22 = .ok (.aload_n 0, 1) := by decide +kernel
theorem d_U_recover_23 : decode b_U_recover 23 = .ok (.invokevirtual 129, 3) := by decide +kernel
theorem d_U_recover_26 : decode b_U_recover 26 = .ok (.aload_n 0, 1) := by decide +kernel
theorem d_U_recover_27 : decode b_U_recover 27 = .ok (.invokevirtual 132, 3) := by decide +kernel
theorem d_U_recover_30 : decode b_U_recover 30 = .ok (.istore_n 1, 1) := by decide +kernel
theorem d_U_recover_31 : decode b_U_recover 31 = .ok (.aload_n 0, 1) := by decide +kernel
theorem d_U_recover_32 : decode b_U_recover 32 = .ok (.aload_n 0, 1) := by decide +kernel
theorem d_U_recover_33 : decode b_U_recover 33 = .ok (.getfield 101, 3) := by decide +kernel
theorem d_U_recover_36 : decode b_U_recover 36 = .ok (.putfield 103, 3) := by decide +kernel
theorem d_U_recover_39 : decode b_U_recover 39 = .ok (.aload_n 0, 1) := by decide +kernel
theorem d_U_recover_40 : decode b_U_recover 40 = .ok (.invokevirtual 135, 3) := by decide +kernel
theorem d_U_recover_43 : decode b_U_recover 43 = .ok (.aload_n 0, 1) := by decide +kernel
theorem d_U_recover_44 : decode b_U_recover 44 = .ok (.invokevirtual 110, 3) := by decide +kernel
theorem d_U_recover_47 : decode b_U_recover 47 = .ok (.ifCond .eq 7, 3) := by decide +kernel
theorem d_U_recover_50 : decode b_U_recover 50 = .ok (.iload_n 1, 1) := by decide +kernel
theorem d_U_recover_51 : decode b_U_recover 51 = .ok (.goto 7, 3) := by decide +kernel
theorem d_U_recover_54 : decode b_U_recover 54 = .ok (.aload_n 0, 1) := by decide +kernel
theorem d_U_recover_55 : decode b_U_recover 55 = .ok (.invokevirtual 84, 3) := by decide +kernel
theorem d_U_recover_58 : decode b_U_recover 58 = .ok (.ireturn, 1) := by decide +kernel
theorem d_U_live_0 : decode b_U_live 0 = .ok (.aload_n 0, 1) := by decide +kernel
theorem d_U_live_1 : decode b_U_live 1 = .ok (.getfield 61, 3) := by decide +kernel
theorem d_U_live_4 : decode b_U_live 4 = .ok (.ifCond .eq 6, 3) := by decide +kernel
theorem d_U_live_7 : decode b_U_live 7 = .ok (.bipush (-4), 2) := by decide +kernel
theorem d_U_live_9 : decode b_U_live 9 = .ok (.ireturn, 1) := by decide +kernel
theorem d_U_live_10 : decode b_U_live 10 = .ok (.aload_n 0, 1) := by decide +kernel
theorem d_U_live_11 : decode b_U_live 11 = .ok (.iload_n 1, 1) := by decide +kernel
theorem d_U_live_12 : decode b_U_live 12 = .ok (.invokevirtual 138, 3) := by decide +kernel
theorem d_U_live_15 : decode b_U_live 15 = .ok (.ifCond .eq 11, 3) := by decide +kernel
theorem d_U_live_18 : decode b_U_live 18 = .ok (.aload_n 0, 1) := by decide +kernel
theorem d_U_live_19 : decode b_U_live 19 = .ok (.iload_n 1, 1) := by decide +kernel
theorem d_U_live_20 : decode b_U_live 20 = .ok (.invokevirtual 141, 3) := by decide +kernel
theorem d_U_live_23 : decode b_U_live 23 = .ok (.goto 4, 3) := by decide +kernel
theorem d_U_live_26 : decode b_U_live 26 = .ok (.iconst (-1), 1) := by decide +kernel
theorem d_U_live_27 : decode b_U_live 27 = .ok (.ireturn, 1) := by decide +kernel
theorem d_U_segment_0 : decode b_U_segment 0 = .ok (.aload_n 0, 1) := by decide +kernel
theorem d_U_segment_1 : decode b_U_segment 1 = .ok (.getfield 61, 3) := by decide +kernel
theorem d_U_segment_4 : decode b_U_segment 4 = .ok (.ifCond .eq 6, 3) := by decide +kernel
theorem d_U_segment_7 : decode b_U_segment 7 = .ok (.bipush (-4), 2) := by decide +kernel
theorem d_U_segment_9 : decode b_U_segment 9 = .ok (.ireturn, 1) := by decide +kernel
theorem d_U_segment_10 : decode b_U_segment 10 = .ok (.aload_n 0, 1) := by decide +kernel
theorem d_U_segment_11 : decode b_U_segment 11 = .ok (.iload_n 1, 1) := by decide +kernel
theorem d_U_segment_12 : decode b_U_segment 12 = .ok (.invokevirtual 138, 3) := by decide +kernel
theorem d_U_segment_15 : decode b_U_segment 15 = .ok (.ifCond .eq 12, 3) := by decide +kernel
theorem d_U_segment_18 : decode b_U_segment 18 = .ok (.aload_n 0, 1) := by decide +kernel
theorem d_U_segment_19 : decode b_U_segment 19 = .ok (.getfield 48, 3) := by decide +kernel
theorem d_U_segment_22 : decode b_U_segment 22 = .ok (.iload_n 1, 1) := by decide +kernel
theorem d_U_segment_23 : decode b_U_segment 23 = .ok (.iaload, 1) := by decide +kernel
theorem d_U_segment_24 : decode b_U_segment 24 = .ok (.goto 4, 3) := by decide +kernel
theorem d_U_segment_27 : decode b_U_segment 27 = .ok (.iconst (-1), 1) := by decide +kernel
theorem d_U_segment_28 : decode b_U_segment 28 = .ok (.ireturn, 1) := by decide +kernel
theorem d_U_look_0 : decode b_U_look 0 = .ok (.iload_n 1, 1) := by decide +kernel
theorem d_U_look_1 : decode b_U_look 1 = .ok (.tableswitch 143 0 6 #[43, 60, 77, 94, 114, 122, 130], 43) := by decide +kernel
theorem d_U_look_44 : decode b_U_look 44 = .ok (.aload_n 0, 1) := by decide +kernel
theorem d_U_look_45 : decode b_U_look 45 = .ok (.getfield 61, 3) := by decide +kernel
theorem d_U_look_48 : decode b_U_look 48 = .ok (.ifCond .eq 8, 3) := by decide +kernel
theorem d_U_look_51 : decode b_U_look 51 = .ok (.bipush (-4), 2) := by decide +kernel
theorem d_U_look_53 : decode b_U_look 53 = .ok (.goto 7, 3) := by decide +kernel
theorem d_U_look_56 : decode b_U_look 56 = .ok (.aload_n 0, 1) := by decide +kernel
theorem d_U_look_57 : decode b_U_look 57 = .ok (.getfield 101, 3) := by decide +kernel
theorem d_U_look_60 : decode b_U_look 60 = .ok (.ireturn, 1) := by decide +kernel
theorem d_U_look_61 : decode b_U_look 61 = .ok (.aload_n 0, 1) := by decide +kernel
theorem d_U_look_62 : decode b_U_look 62 = .ok (.getfield 61, 3) := by decide +kernel
theorem d_U_look_65 : decode b_U_look 65 = .ok (.ifCond .eq 8, 3) := by decide +kernel
theorem d_U_look_68 : decode b_U_look 68 = .ok (.bipush (-4), 2) := by decide +kernel
theorem d_U_look_70 : decode b_U_look 70 = .ok (.goto 7, 3) := by decide +kernel
theorem d_U_look_73 : decode b_U_look 73 = .ok (.aload_n 0, 1) := by decide +kernel
theorem d_U_look_74 : decode b_U_look 74 = .ok (.getfield 103, 3) := by decide +kernel
theorem d_U_look_77 : decode b_U_look 77 = .ok (.ireturn, 1) := by decide +kernel
theorem d_U_look_78 : decode b_U_look 78 = .ok (.aload_n 0, 1) := by decide +kernel
theorem d_U_look_79 : decode b_U_look 79 = .ok (.getfield 61, 3) := by decide +kernel
theorem d_U_look_82 : decode b_U_look 82 = .ok (.ifCond .eq 8, 3) := by decide +kernel
theorem d_U_look_85 : decode b_U_look 85 = .ok (.bipush (-4), 2) := by decide +kernel
theorem d_U_look_87 : decode b_U_look 87 = .ok (.goto 7, 3) := by decide +kernel
theorem d_U_look_90 : decode b_U_look 90 = .ok (.aload_n 0, 1) := by decide +kernel
theorem d_U_look_91 : decode b_U_look 91 = .ok (.getfield 144, 3) := by decide +kernel
theorem d_U_look_94 : decode b_U_look 94 = .ok (.ireturn, 1) := by decide +kernel
theorem d_U_look_95 : decode b_U_look 95 = .ok (.aload_n 0, 1) := by decide +kernel
theorem d_U_look_96 : decode b_U_look 96 = .ok (.getfield 61, 3) := by decide +kernel
theorem d_U_look_99 : decode b_U_look 99 = .ok (.ifCond .eq 8, 3) := by decide +kernel
theorem d_U_look_102 : decode b_U_look 102 = .ok (.bipush (-4), 2) := by decide +kernel
theorem d_U_look_104 : decode b_U_look 104 = .ok (.goto 10, 3) := by decide +kernel
theorem d_U_look_107 : decode b_U_look 107 = .ok (.aload_n 0, 1) := by decide +kernel
theorem d_U_look_108 : decode b_U_look 108 = .ok (.getfield 44, 3) := by decide +kernel
theorem d_U_look_111 : decode b_U_look 111 = .ok (.getfield 113, 3) := by decide +kernel
theorem d_U_look_114 : decode b_U_look 114 = .ok (.ireturn, 1) := by decide +kernel
theorem d_U_look_115 : decode b_U_look 115 = .ok (.aload_n 0, 1) := by decide +kernel
theorem d_U_look_116 : decode b_U_look 116 = .ok (.getfield 21, 3) := by decide +kernel
theorem d_U_look_119 : decode b_U_look 119 = .ok (.getfield 147, 3) := by decide +kernel
theorem d_U_look_122 : decode b_U_look 122 = .ok (.ireturn, 1) := by decide +kernel
theorem d_U_look_123 : decode b_U_look 123 = .ok (.aload_n 0, 1) := by decide +kernel
theorem d_U_look_124 : decode b_U_look 124 = .ok (.getfield 21, 3) := by decide +kernel
theorem d_U_look_127 : decode b_U_look 127 = .ok (.getfield 126, 3) := by decide +kernel
theorem d_U_look_130 : decode b_U_look 130 = .ok (.ireturn, 1) := by decide +kernel
theorem d_U_look_131 : decode b_U_look 131 = .ok (.aload_n 0, 1) := by decide +kernel
theorem d_U_look_132 : decode b_U_look 132 = .ok (.getfield 61, 3) := by decide +kernel
theorem d_U_look_135 : decode b_U_look 135 = .ok (.ifCond .eq 7, 3) := by decide +kernel
theorem d_U_look_138 : decode b_U_look 138 = .ok (.iconst 1, 1) := by decide +kernel
theorem d_U_look_139 : decode b_U_look 139 = .ok (.goto 4, 3) := by decide +kernel
theorem d_U_look_142 : decode b_U_look 142 = .ok (.iconst 0, 1) := by decide +kernel
theorem d_U_look_143 : decode b_U_look 143 = .ok (.ireturn, 1) := by decide +kernel
theorem d_U_look_144 : decode b_U_look 144 = .ok (.iconst (-1), 1) := by decide +kernel
theorem d_U_look_145 : decode b_U_look 145 = .ok (.ireturn, 1) := by decide +kernel
