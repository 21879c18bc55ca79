theorem dX6_init_0 : decode cX6_init 0 = .ok (.aload_n 0, 1) := by decide +kernel
theorem dX6_init_1 : decode cX6_init 1 = .ok (.invokespecial 3, 3) := by decide +kernel
theorem dX6_init_4 : decode cX6_init 4 = .ok (.aload_n 0, 1) := by decide +kernel
theorem dX6_init_5 : decode cX6_init 5 = .ok (.new 9, 3) := by decide +kernel
theorem dX6_init_8 : decode cX6_init 8 = .ok (.dup, 1) := by decide +kernel
theorem dX6_init_9 : decode cX6_init 9 = .ok (.invokespecial 11, 3) := by decide +kernel
theorem dX6_init_12 : decode cX6_init 12 = .ok (.putfield 12, 3) := by decide +kernel
theorem dX6_init_15 : decode cX6_init 15 = .ok (.aload_n 0, 1) := by decide +kernel
theorem dX6_init_16 : decode cX6_init 16 = .ok (.new 18, 3) := by decide +kernel
theorem dX6_init_19 : decode cX6_init 19 = .ok (.dup, 1) := by decide +kernel
theorem dX6_init_20 : decode cX6_init 20 = .ok (.aload_n 1, 1) := by decide +kernel
theorem dX6_init_21 : decode cX6_init 21 = .ok (.invokespecial 20, 3) := by decide +kernel
theorem dX6_init_24 : decode cX6_init 24 = .ok (.putfield 23, 3) := by decide +kernel
theorem dX6_init_27 : decode cX6_init 27 = .ok (.return_, 1) := by decide +kernel
theorem dX6_readPlain_0 : decode cX6_readPlain 0 = .ok (.aload_n 0, 1) := by decide +kernel
theorem dX6_readPlain_1 : decode cX6_readPlain 1 = .ok (.getfield 23, 3) := by decide +kernel
theorem dX6_readPlain_4 : decode cX6_readPlain 4 = .ok (.invokevirtual 27, 3) := by decide +kernel
theorem dX6_readPlain_7 : decode cX6_readPlain 7 = .ok (.aload_n 0, 1) := by decide +kernel
theorem dX6_readPlain_8 : decode cX6_readPlain 8 = .ok (.getfield 12, 3) := by decide +kernel
theorem dX6_readPlain_11 : decode cX6_readPlain 11 = .ok (.invokevirtual 30, 3) := by decide +kernel
theorem dX6_readPlain_14 : decode cX6_readPlain 14 = .ok (.aload_n 0, 1) := by decide +kernel
theorem dX6_readPlain_15 : decode cX6_readPlain 15 = .ok (.iconst 0, 1) := by decide +kernel
theorem dX6_readPlain_16 : decode cX6_readPlain 16 = .ok (.putfield 33, 3) := by decide +kernel
theorem dX6_readPlain_19 : decode cX6_readPlain 19 = .ok (.aload_n 0, 1) := by decide +kernel
theorem dX6_readPlain_20 : decode cX6_readPlain 20 = .ok (.iconst 0, 1) := by decide +kernel
theorem dX6_readPlain_21 : decode cX6_readPlain 21 = .ok (.iconst 0, 1) := by decide +kernel
theorem dX6_readPlain_22 : decode cX6_readPlain 22 = .ok (.invokevirtual 37, 3) := by decide +kernel
theorem dX6_readPlain_25 : decode cX6_readPlain 25 = .ok (.aload_n 0, 1) := by decide +kernel
theorem dX6_readPlain_26 : decode cX6_readPlain 26 = .ok (.invokevirtual 41, 3) := by decide +kernel
theorem dX6_readPlain_29 : decode cX6_readPlain 29 = .ok (.iconst 0, 1) := by decide +kernel
theorem dX6_readPlain_30 : decode cX6_readPlain 30 = .ok (.istore_n 1, 1) := by decide +kernel
theorem dX6_readPlain_31 : decode cX6_readPlain 31 = .ok (.iload_n 1, 1) := by decide +kernel
theorem dX6_readPlain_32 : decode cX6_readPlain 32 = .ok (.sipush 240, 3) := by decide +kernel
theorem dX6_readPlain_35 : decode cX6_readPlain 35 = .ok (.if_icmp .ge 42, 3) := by decide +kernel
theorem dX6_readPlain_38 : decode cX6_readPlain 38 = .ok (.aload_n 0, 1) := by decide +kernel
theorem dX6_readPlain_39 : decode cX6_readPlain 39 = .ok (.getfield 23, 3) := by decide +kernel
theorem dX6_readPlain_42 : decode cX6_readPlain 42 = .ok (.invokevirtual 44, 3) := by decide +kernel
theorem dX6_readPlain_45 : decode cX6_readPlain 45 = .ok (.ifCond .ne 32, 3) := by decide +kernel
theorem dX6_readPlain_48 : decode cX6_readPlain 48 = .ok (.aload_n 0, 1) := by decide +kernel
theorem dX6_readPlain_49 : decode cX6_readPlain 49 = .ok (.getfield 23, 3) := by decide +kernel
theorem dX6_readPlain_52 : decode cX6_readPlain 52 = .ok (.invokevirtual 48, 3) := by decide +kernel
theorem dX6_readPlain_55 : decode cX6_readPlain 55 = .ok (.bipush 59, 2) := by decide +kernel
theorem dX6_readPlain_57 : decode cX6_readPlain 57 = .ok (.if_icmp .ne 20, 3) := by decide +kernel
theorem dX6_readPlain_60 : decode cX6_readPlain 60 = .ok (.aload_n 0, 1) := by decide +kernel
theorem dX6_readPlain_61 : decode cX6_readPlain 61 = .ok (.getfield 23, 3) := by decide +kernel
theorem dX6_readPlain_64 : decode cX6_readPlain 64 = .ok (.invokevirtual 52, 3) := by decide +kernel
theorem dX6_readPlain_67 : decode cX6_readPlain 67 = .ok (.aload_n 0, 1) := by decide +kernel
theorem dX6_readPlain_68 : decode cX6_readPlain 68 = .ok (.invokevirtual 41, 3) := by decide +kernel
theorem dX6_readPlain_71 : decode cX6_readPlain 71 = .ok (.iinc 1 1, 3) := by decide +kernel
theorem dX6_readPlain_74 : decode cX6_readPlain 74 = .ok (.goto (-43), 3) := by decide +kernel
theorem dX6_readPlain_77 : decode cX6_readPlain 77 = .ok (.aload_n 0, 1) := by decide +kernel
theorem dX6_readPlain_78 : decode cX6_readPlain 78 = .ok (.getfield 23, 3) := by decide +kernel
theorem dX6_readPlain_81 : decode cX6_readPlain 81 = .ok (.invokevirtual 48, 3) := by decide +kernel
theorem dX6_readPlain_84 : decode cX6_readPlain 84 = .ok (.iconst (-1), 1) := by decide +kernel
theorem dX6_readPlain_85 : decode cX6_readPlain 85 = .ok (.if_icmp .ne 29, 3) := by decide +kernel
theorem dX6_readPlain_88 : decode cX6_readPlain 88 = .ok (.aload_n 0, 1) := by decide +kernel
theorem dX6_readPlain_89 : decode cX6_readPlain 89 = .ok (.getfield 12, 3) := by decide +kernel
theorem dX6_readPlain_92 : decode cX6_readPlain 92 = .ok (.bipush 9, 2) := by decide +kernel
theorem dX6_readPlain_94 : decode cX6_readPlain 94 = .ok (.invokevirtual 57, 3) := by decide +kernel
theorem dX6_readPlain_97 : decode cX6_readPlain 97 = .ok (.iconst 2, 1) := by decide +kernel
theorem dX6_readPlain_98 : decode cX6_readPlain 98 = .ok (.if_icmp .lt 16, 3) := by decide +kernel
theorem dX6_readPlain_101 : decode cX6_readPlain 101 = .ok (.aload_n 0, 1) := by decide +kernel
theorem dX6_readPlain_102 : decode cX6_readPlain 102 = .ok (.getfield 12, 3) := by decide +kernel
theorem dX6_readPlain_105 : decode cX6_readPlain 105 = .ok (.bipush 10, 2) := by decide +kernel
theorem dX6_readPlain_107 : decode cX6_readPlain 107 = .ok (.invokevirtual 57, 3) := by decide +kernel
theorem dX6_readPlain_110 : decode cX6_readPlain 110 = .ok (.iconst 1, 1) := by decide +kernel
theorem dX6_readPlain_111 : decode cX6_readPlain 111 = .ok (.if_icmp .ge 10, 3) := by decide +kernel
theorem dX6_readPlain_114 : decode cX6_readPlain 114 = .ok (.aload_n 0, 1) := by decide +kernel
theorem dX6_readPlain_115 : decode cX6_readPlain 115 = .ok (.getfield 23, 3) := by decide +kernel
theorem dX6_readPlain_118 : decode cX6_readPlain 118 = .ok (.invokevirtual 61, 3) := by decide +kernel
theorem dX6_readPlain_121 : decode cX6_readPlain 121 = .ok (.aload_n 0, 1) := by decide +kernel
theorem dX6_readPlain_122 : decode cX6_readPlain 122 = .ok (.getfield 23, 3) := by decide +kernel
theorem dX6_readPlain_125 : decode cX6_readPlain 125 = .ok (.getfield 64, 3) := by decide +kernel
theorem dX6_readPlain_128 : decode cX6_readPlain 128 = .ok (.ireturn, 1) := by decide +kernel
theorem dX6_putUsual_0 : decode cX6_putUsual 0 = .ok (.iload_n 1, 1) := by decide +kernel
theorem dX6_putUsual_1 : decode cX6_putUsual 1 = .ok (.invokestatic 68, 3) := by decide +kernel
theorem dX6_putUsual_4 : decode cX6_putUsual 4 = .ok (.invokevirtual 72, 3) := by decide +kernel
theorem dX6_putUsual_7 : decode cX6_putUsual 7 = .ok (.istore_n 3, 1) := by decide +kernel
theorem dX6_putUsual_8 : decode cX6_putUsual 8 = .ok (.iconst 0, 1) := by decide +kernel
theorem dX6_putUsual_9 : decode cX6_putUsual 9 = .ok (.istore 4, 2) := by decide +kernel
theorem dX6_putUsual_11 : decode cX6_putUsual 11 = .ok (.iload 4, 2) := by decide +kernel
theorem dX6_putUsual_13 : decode cX6_putUsual 13 = .ok (.iload_n 3, 1) := by decide +kernel
theorem dX6_putUsual_14 : decode cX6_putUsual 14 = .ok (.if_icmp .ge 32, 3) := by decide +kernel
theorem dX6_putUsual_17 : decode cX6_putUsual 17 = .ok (.aload_n 0, 1) := by decide +kernel
theorem dX6_putUsual_18 : decode cX6_putUsual 18 = .ok (.getfield 12, 3) := by decide +kernel
theorem dX6_putUsual_21 : decode cX6_putUsual 21 = .ok (.iload_n 2, 1) := by decide +kernel
theorem dX6_putUsual_22 : decode cX6_putUsual 22 = .ok (.iload 4, 2) := by decide +kernel
theorem dX6_putUsual_24 : decode cX6_putUsual 24 = .ok (.iadd, 1) := by decide +kernel
theorem dX6_putUsual_25 : decode cX6_putUsual 25 = .ok (.getstatic 77, 3) := by decide +kernel
theorem dX6_putUsual_28 : decode cX6_putUsual 28 = .ok (.iload_n 1, 1) := by decide +kernel
theorem dX6_putUsual_29 : decode cX6_putUsual 29 = .ok (.iconst 5, 1) := by decide +kernel
theorem dX6_putUsual_30 : decode cX6_putUsual 30 = .ok (.imul, 1) := by decide +kernel
theorem dX6_putUsual_31 : decode cX6_putUsual 31 = .ok (.iload 4, 2) := by decide +kernel
theorem dX6_putUsual_33 : decode cX6_putUsual 33 = .ok (.iadd, 1) := by decide +kernel
theorem dX6_putUsual_34 : decode cX6_putUsual 34 = .ok (.invokestatic 81, 3) := by decide +kernel
theorem dX6_putUsual_37 : decode cX6_putUsual 37 = .ok (.invokevirtual 85, 3) := by decide +kernel
theorem dX6_putUsual_40 : decode cX6_putUsual 40 = .ok (.iinc 4 1, 3) := by decide +kernel
theorem dX6_putUsual_43 : decode cX6_putUsual 43 = .ok (.goto (-32), 3) := by decide +kernel
theorem dX6_putUsual_46 : decode cX6_putUsual 46 = .ok (.return_, 1) := by decide +kernel
theorem dX6_lettersOf_0 : decode cX6_lettersOf 0 = .ok (.iload_n 0, 1) := by decide +kernel
theorem dX6_lettersOf_1 : decode cX6_lettersOf 1 = .ok (.ifCond .ne 6, 3) := by decide +kernel
theorem dX6_lettersOf_4 : decode cX6_lettersOf 4 = .ok (.ldc 88, 2) := by decide +kernel
theorem dX6_lettersOf_6 : decode cX6_lettersOf 6 = .ok (.areturn, 1) := by decide +kernel
theorem dX6_lettersOf_7 : decode cX6_lettersOf 7 = .ok (.iload_n 0, 1) := by decide +kernel
theorem dX6_lettersOf_8 : decode cX6_lettersOf 8 = .ok (.iconst 1, 1) := by decide +kernel
theorem dX6_lettersOf_9 : decode cX6_lettersOf 9 = .ok (.if_icmp .ne 8, 3) := by decide +kernel
theorem dX6_lettersOf_12 : decode cX6_lettersOf 12 = .ok (.ldc 90, 2) := by decide +kernel
theorem dX6_lettersOf_14 : decode cX6_lettersOf 14 = .ok (.goto 5, 3) := by decide +kernel
theorem dX6_lettersOf_17 : decode cX6_lettersOf 17 = .ok (.ldc 92, 2) := by decide +kernel
theorem dX6_lettersOf_19 : decode cX6_lettersOf 19 = .ok (.areturn, 1) := by decide +kernel
theorem dX6_readClause_0 : decode cX6_readClause 0 = .ok (.aload_n 0, 1) := by decide +kernel
theorem dX6_readClause_1 : decode cX6_readClause 1 = .ok (.getfield 23, 3) := by decide +kernel
theorem dX6_readClause_4 : decode cX6_readClause 4 = .ok (.ldc 94, 2) := by decide +kernel
theorem dX6_readClause_6 : decode cX6_readClause 6 = .ok (.invokevirtual 96, 3) := by decide +kernel
theorem dX6_readClause_9 : decode cX6_readClause 9 = .ok (.istore_n 1, 1) := by decide +kernel
theorem dX6_readClause_10 : decode cX6_readClause 10 = .ok (.iload_n 1, 1) := by decide +kernel
theorem dX6_readClause_11 : decode cX6_readClause 11 = .ok (.ifCond .lt 11, 3) := by decide +kernel
theorem dX6_readClause_14 : decode cX6_readClause 14 = .ok (.aload_n 0, 1) := by decide +kernel
theorem dX6_readClause_15 : decode cX6_readClause 15 = .ok (.iload_n 1, 1) := by decide +kernel
theorem dX6_readClause_16 : decode cX6_readClause 16 = .ok (.invokevirtual 100, 3) := by decide +kernel
theorem dX6_readClause_19 : decode cX6_readClause 19 = .ok (.ifCond .ne 11, 3) := by decide +kernel
theorem dX6_readClause_22 : decode cX6_readClause 22 = .ok (.aload_n 0, 1) := by decide +kernel
theorem dX6_readClause_23 : decode cX6_readClause 23 = .ok (.getfield 23, 3) := by decide +kernel
theorem dX6_readClause_26 : decode cX6_readClause 26 = .ok (.invokevirtual 61, 3) := by decide +kernel
theorem dX6_readClause_29 : decode cX6_readClause 29 = .ok (.return_, 1) := by decide +kernel
theorem dX6_readClause_30 : decode cX6_readClause 30 = .ok (.aload_n 0, 1) := by decide +kernel
theorem dX6_readClause_31 : decode cX6_readClause 31 = .ok (.getfield 23, 3) := by decide +kernel
theorem dX6_readClause_34 : decode cX6_readClause 34 = .ok (.invokevirtual 52, 3) := by decide +kernel
theorem dX6_readClause_37 : decode cX6_readClause 37 = .ok (.aload_n 0, 1) := by decide +kernel
theorem dX6_readClause_38 : decode cX6_readClause 38 = .ok (.iload_n 1, 1) := by decide +kernel
theorem dX6_readClause_39 : decode cX6_readClause 39 = .ok (.invokevirtual 104, 3) := by decide +kernel
theorem dX6_readClause_42 : decode cX6_readClause 42 = .ok (.istore_n 2, 1) := by decide +kernel
theorem dX6_readClause_43 : decode cX6_readClause 43 = .ok (.aload_n 0, 1) := by decide +kernel
theorem dX6_readClause_44 : decode cX6_readClause 44 = .ok (.iload_n 1, 1) := by decide +kernel
theorem dX6_readClause_45 : decode cX6_readClause 45 = .ok (.iload_n 2, 1) := by decide +kernel
theorem dX6_readClause_46 : decode cX6_readClause 46 = .ok (.invokevirtual 37, 3) := by decide +kernel
theorem dX6_readClause_49 : decode cX6_readClause 49 = .ok (.aload_n 0, 1) := by decide +kernel
theorem dX6_readClause_50 : decode cX6_readClause 50 = .ok (.iload_n 1, 1) := by decide +kernel
theorem dX6_readClause_51 : decode cX6_readClause 51 = .ok (.iload_n 2, 1) := by decide +kernel
theorem dX6_readClause_52 : decode cX6_readClause 52 = .ok (.invokevirtual 107, 3) := by decide +kernel
theorem dX6_readClause_55 : decode cX6_readClause 55 = .ok (.return_, 1) := by decide +kernel
theorem dX6_hasRoom_0 : decode cX6_hasRoom 0 = .ok (.iload_n 1, 1) := by decide +kernel
theorem dX6_hasRoom_1 : decode cX6_hasRoom 1 = .ok (.ifCond .ne 16, 3) := by decide +kernel
theorem dX6_hasRoom_4 : decode cX6_hasRoom 4 = .ok (.aload_n 0, 1) := by decide +kernel
theorem dX6_hasRoom_5 : decode cX6_hasRoom 5 = .ok (.getfield 33, 3) := by decide +kernel
theorem dX6_hasRoom_8 : decode cX6_hasRoom 8 = .ok (.ifCond .ne 7, 3) := by decide +kernel
theorem dX6_hasRoom_11 : decode cX6_hasRoom 11 = .ok (.iconst 1, 1) := by decide +kernel
theorem dX6_hasRoom_12 : decode cX6_hasRoom 12 = .ok (.goto 4, 3) := by decide +kernel
theorem dX6_hasRoom_15 : decode cX6_hasRoom 15 = .ok (.iconst 0, 1) := by decide +kernel
theorem dX6_hasRoom_16 : decode cX6_hasRoom 16 = .ok (.ireturn, 1) := by decide +kernel
theorem dX6_hasRoom_17 : decode cX6_hasRoom 17 = .ok (.iload_n 1, 1) := by decide +kernel
theorem dX6_hasRoom_18 : decode cX6_hasRoom 18 = .ok (.iconst 1, 1) := by decide +kernel
theorem dX6_hasRoom_19 : decode cX6_hasRoom 19 = .ok (.if_icmp .ne 25, 3) := by decide +kernel
theorem dX6_hasRoom_22 : decode cX6_hasRoom 22 = .ok (.aload_n 0, 1) := by decide +kernel
theorem dX6_hasRoom_23 : decode cX6_hasRoom 23 = .ok (.getfield 12, 3) := by decide +kernel
theorem dX6_hasRoom_26 : decode cX6_hasRoom 26 = .ok (.bipush 9, 2) := by decide +kernel
theorem dX6_hasRoom_28 : decode cX6_hasRoom 28 = .ok (.invokevirtual 57, 3) := by decide +kernel
theorem dX6_hasRoom_31 : decode cX6_hasRoom 31 = .ok (.bipush 8, 2) := by decide +kernel
theorem dX6_hasRoom_33 : decode cX6_hasRoom 33 = .ok (.if_icmp .ge 7, 3) := by decide +kernel
theorem dX6_hasRoom_36 : decode cX6_hasRoom 36 = .ok (.iconst 1, 1) := by decide +kernel
theorem dX6_hasRoom_37 : decode cX6_hasRoom 37 = .ok (.goto 25, 3) := by decide +kernel
theorem dX6_hasRoom_40 : decode cX6_hasRoom 40 = .ok (.iconst 0, 1) := by decide +kernel
theorem dX6_hasRoom_41 : decode cX6_hasRoom 41 = .ok (.goto 21, 3) := by decide +kernel
theorem dX6_hasRoom_44 : decode cX6_hasRoom 44 = .ok (.aload_n 0, 1) := by decide +kernel
theorem dX6_hasRoom_45 : decode cX6_hasRoom 45 = .ok (.getfield 12, 3) := by decide +kernel
theorem dX6_hasRoom_48 : decode cX6_hasRoom 48 = .ok (.bipush 10, 2) := by decide +kernel
theorem dX6_hasRoom_50 : decode cX6_hasRoom 50 = .ok (.invokevirtual 57, 3) := by decide +kernel
theorem dX6_hasRoom_53 : decode cX6_hasRoom 53 = .ok (.iconst 5, 1) := by decide +kernel
theorem dX6_hasRoom_54 : decode cX6_hasRoom 54 = .ok (.if_icmp .ge 7, 3) := by decide +kernel
theorem dX6_hasRoom_57 : decode cX6_hasRoom 57 = .ok (.iconst 1, 1) := by decide +kernel
theorem dX6_hasRoom_58 : decode cX6_hasRoom 58 = .ok (.goto 4, 3) := by decide +kernel
theorem dX6_hasRoom_61 : decode cX6_hasRoom 61 = .ok (.iconst 0, 1) := by decide +kernel
theorem dX6_hasRoom_62 : decode cX6_hasRoom 62 = .ok (.ireturn, 1) := by decide +kernel
theorem dX6_beginClause_0 : decode cX6_beginClause 0 = .ok (.iload_n 1, 1) := by decide +kernel
theorem dX6_beginClause_1 : decode cX6_beginClause 1 = .ok (.ifCond .ne 10, 3) := by decide +kernel
theorem dX6_beginClause_4 : decode cX6_beginClause 4 = .ok (.aload_n 0, 1) := by decide +kernel
theorem dX6_beginClause_5 : decode cX6_beginClause 5 = .ok (.iconst 1, 1) := by decide +kernel
theorem dX6_beginClause_6 : decode cX6_beginClause 6 = .ok (.putfield 33, 3) := by decide +kernel
theorem dX6_beginClause_9 : decode cX6_beginClause 9 = .ok (.iconst 0, 1) := by decide +kernel
theorem dX6_beginClause_10 : decode cX6_beginClause 10 = .ok (.ireturn, 1) := by decide +kernel
theorem dX6_beginClause_11 : decode cX6_beginClause 11 = .ok (.iload_n 1, 1) := by decide +kernel
theorem dX6_beginClause_12 : decode cX6_beginClause 12 = .ok (.iconst 1, 1) := by decide +kernel
theorem dX6_beginClause_13 : decode cX6_beginClause 13 = .ok (.if_icmp .ne 30, 3) := by decide +kernel
theorem dX6_beginClause_16 : decode cX6_beginClause 16 = .ok (.aload_n 0, 1) := by decide +kernel
theorem dX6_beginClause_17 : decode cX6_beginClause 17 = .ok (.getfield 12, 3) := by decide +kernel
theorem dX6_beginClause_20 : decode cX6_beginClause 20 = .ok (.bipush 9, 2) := by decide +kernel
theorem dX6_beginClause_22 : decode cX6_beginClause 22 = .ok (.iconst 1, 1) := by decide +kernel
theorem dX6_beginClause_23 : decode cX6_beginClause 23 = .ok (.invokevirtual 110, 3) := by decide +kernel
theorem dX6_beginClause_26 : decode cX6_beginClause 26 = .ok (.bipush 13, 2) := by decide +kernel
theorem dX6_beginClause_28 : decode cX6_beginClause 28 = .ok (.aload_n 0, 1) := by decide +kernel
theorem dX6_beginClause_29 : decode cX6_beginClause 29 = .ok (.getfield 12, 3) := by decide +kernel
theorem dX6_beginClause_32 : decode cX6_beginClause 32 = .ok (.bipush 9, 2) := by decide +kernel
theorem dX6_beginClause_34 : decode cX6_beginClause 34 = .ok (.invokevirtual 57, 3) := by decide +kernel
theorem dX6_beginClause_37 : decode cX6_beginClause 37 = .ok (.iconst 1, 1) := by decide +kernel
theorem dX6_beginClause_38 : decode cX6_beginClause 38 = .ok (.isub, 1) := by decide +kernel
theorem dX6_beginClause_39 : decode cX6_beginClause 39 = .ok (.iconst 5, 1) := by decide +kernel
theorem dX6_beginClause_40 : decode cX6_beginClause 40 = .ok (.imul, 1) := by decide +kernel
theorem dX6_beginClause_41 : decode cX6_beginClause 41 = .ok (.iadd, 1) := by decide +kernel
theorem dX6_beginClause_42 : decode cX6_beginClause 42 = .ok (.ireturn, 1) := by decide +kernel
theorem dX6_beginClause_43 : decode cX6_beginClause 43 = .ok (.aload_n 0, 1) := by decide +kernel
theorem dX6_beginClause_44 : decode cX6_beginClause 44 = .ok (.getfield 12, 3) := by decide +kernel
theorem dX6_beginClause_47 : decode cX6_beginClause 47 = .ok (.bipush 10, 2) := by decide +kernel
theorem dX6_beginClause_49 : decode cX6_beginClause 49 = .ok (.iconst 1, 1) := by decide +kernel
theorem dX6_beginClause_50 : decode cX6_beginClause 50 = .ok (.invokevirtual 110, 3) := by decide +kernel
theorem dX6_beginClause_53 : decode cX6_beginClause 53 = .ok (.bipush 53, 2) := by decide +kernel
theorem dX6_beginClause_55 : decode cX6_beginClause 55 = .ok (.aload_n 0, 1) := by decide +kernel
theorem dX6_beginClause_56 : decode cX6_beginClause 56 = .ok (.getfield 12, 3) := by decide +kernel
theorem dX6_beginClause_59 : decode cX6_beginClause 59 = .ok (.bipush 10, 2) := by decide +kernel
theorem dX6_beginClause_61 : decode cX6_beginClause 61 = .ok (.invokevirtual 57, 3) := by decide +kernel
theorem dX6_beginClause_64 : decode cX6_beginClause 64 = .ok (.iconst 1, 1) := by decide +kernel
theorem dX6_beginClause_65 : decode cX6_beginClause 65 = .ok (.isub, 1) := by decide +kernel
theorem dX6_beginClause_66 : decode cX6_beginClause 66 = .ok (.bipush 6, 2) := by decide +kernel
theorem dX6_beginClause_68 : decode cX6_beginClause 68 = .ok (.imul, 1) := by decide +kernel
theorem dX6_beginClause_69 : decode cX6_beginClause 69 = .ok (.iadd, 1) := by decide +kernel
theorem dX6_beginClause_70 : decode cX6_beginClause 70 = .ok (.ireturn, 1) := by decide +kernel
theorem dX6_readItems_0 : decode cX6_readItems 0 = .ok (.iload_n 1, 1) := by decide +kernel
theorem dX6_readItems_1 : decode cX6_readItems 1 = .ok (.invokestatic 68, 3) := by decide +kernel
theorem dX6_readItems_4 : decode cX6_readItems 4 = .ok (.astore_n 3, 1) := by decide +kernel
theorem dX6_readItems_5 : decode cX6_readItems 5 = .ok (.iconst 0, 1) := by decide +kernel
theorem dX6_readItems_6 : decode cX6_readItems 6 = .ok (.istore 4, 2) := by decide +kernel
theorem dX6_readItems_8 : decode cX6_readItems 8 = .ok (.iconst 0, 1) := by decide +kernel
theorem dX6_readItems_9 : decode cX6_readItems 9 = .ok (.istore 5, 2) := by decide +kernel
theorem dX6_readItems_11 : decode cX6_readItems 11 = .ok (.iload 5, 2) := by decide +kernel
theorem dX6_readItems_13 : decode cX6_readItems 13 = .ok (.iconst 5, 1) := by decide +kernel
theorem dX6_readItems_14 : decode cX6_readItems 14 = .ok (.if_icmp .gt 135, 3) := by decide +kernel
theorem dX6_readItems_17 : decode cX6_readItems 17 = .ok (.aload_n 0, 1) := by decide +kernel
theorem dX6_readItems_18 : decode cX6_readItems 18 = .ok (.getfield 23, 3) := by decide +kernel
theorem dX6_readItems_21 : decode cX6_readItems 21 = .ok (.invokevirtual 44, 3) := by decide +kernel
theorem dX6_readItems_24 : decode cX6_readItems 24 = .ok (.ifCond .ne 125, 3) := by decide +kernel
theorem dX6_readItems_27 : decode cX6_readItems 27 = .ok (.aload_n 0, 1) := by decide +kernel
theorem dX6_readItems_28 : decode cX6_readItems 28 = .ok (.getfield 23, 3) := by decide +kernel
theorem dX6_readItems_31 : decode cX6_readItems 31 = .ok (.invokevirtual 48, 3) := by decide +kernel
theorem dX6_readItems_34 : decode cX6_readItems 34 = .ok (.istore 6, 2) := by decide +kernel
theorem dX6_readItems_36 : decode cX6_readItems 36 = .ok (.iload 6, 2) := by decide +kernel
theorem dX6_readItems_38 : decode cX6_readItems 38 = .ok (.bipush 59, 2) := by decide +kernel
theorem dX6_readItems_40 : decode cX6_readItems 40 = .ok (.if_icmp .eq 9, 3) := by decide +kernel
theorem dX6_readItems_43 : decode cX6_readItems 43 = .ok (.iload 6, 2) := by decide +kernel
theorem dX6_readItems_45 : decode cX6_readItems 45 = .ok (.iconst (-1), 1) := by decide +kernel
theorem dX6_readItems_46 : decode cX6_readItems 46 = .ok (.if_icmp .ne 4, 3) := by decide +kernel
theorem dX6_readItems_49 : decode cX6_readItems 49 = .ok (.return_, 1) := by decide +kernel
theorem dX6_readItems_50 : decode cX6_readItems 50 = .ok (.aload_n 0, 1) := by decide +kernel
theorem dX6_readItems_51 : decode cX6_readItems 51 = .ok (.getfield 23, 3) := by decide +kernel
theorem dX6_readItems_54 : decode cX6_readItems 54 = .ok (.aload_n 3, 1) := by decide +kernel
theorem dX6_readItems_55 : decode cX6_readItems 55 = .ok (.invokevirtual 96, 3) := by decide +kernel
theorem dX6_readItems_58 : decode cX6_readItems 58 = .ok (.istore 7, 2) := by decide +kernel
theorem dX6_readItems_60 : decode cX6_readItems 60 = .ok (.iload 7, 2) := by decide +kernel
theorem dX6_readItems_62 : decode cX6_readItems 62 = .ok (.ifCond .lt 14, 3) := by decide +kernel
theorem dX6_readItems_65 : decode cX6_readItems 65 = .ok (.iload 4, 2) := by decide +kernel
theorem dX6_readItems_67 : decode cX6_readItems 67 = .ok (.iload 7, 2) := by decide +kernel
theorem dX6_readItems_69 : decode cX6_readItems 69 = .ok (.ishr, 1) := by decide +kernel
theorem dX6_readItems_70 : decode cX6_readItems 70 = .ok (.iconst 1, 1) := by decide +kernel
theorem dX6_readItems_71 : decode cX6_readItems 71 = .ok (.iand, 1) := by decide +kernel
theorem dX6_readItems_72 : decode cX6_readItems 72 = .ok (.iconst 1, 1) := by decide +kernel
theorem dX6_readItems_73 : decode cX6_readItems 73 = .ok (.if_icmp .ne 11, 3) := by decide +kernel
theorem dX6_readItems_76 : decode cX6_readItems 76 = .ok (.aload_n 0, 1) := by decide +kernel
theorem dX6_readItems_77 : decode cX6_readItems 77 = .ok (.getfield 23, 3) := by decide +kernel
theorem dX6_readItems_80 : decode cX6_readItems 80 = .ok (.invokevirtual 61, 3) := by decide +kernel
theorem dX6_readItems_83 : decode cX6_readItems 83 = .ok (.return_, 1) := by decide +kernel
theorem dX6_readItems_84 : decode cX6_readItems 84 = .ok (.iload 4, 2) := by decide +kernel
theorem dX6_readItems_86 : decode cX6_readItems 86 = .ok (.iconst 1, 1) := by decide +kernel
theorem dX6_readItems_87 : decode cX6_readItems 87 = .ok (.iload 7, 2) := by decide +kernel
theorem dX6_readItems_89 : decode cX6_readItems 89 = .ok (.ishl, 1) := by decide +kernel
theorem dX6_readItems_90 : decode cX6_readItems 90 = .ok (.ior, 1) := by decide +kernel
theorem dX6_readItems_91 : decode cX6_readItems 91 = .ok (.istore 4, 2) := by decide +kernel
theorem dX6_readItems_93 : decode cX6_readItems 93 = .ok (.aload_n 0, 1) := by decide +kernel
theorem dX6_readItems_94 : decode cX6_readItems 94 = .ok (.getfield 23, 3) := by decide +kernel
theorem dX6_readItems_97 : decode cX6_readItems 97 = .ok (.invokevirtual 52, 3) := by decide +kernel
theorem dX6_readItems_100 : decode cX6_readItems 100 = .ok (.iload_n 1, 1) := by decide +kernel
theorem dX6_readItems_101 : decode cX6_readItems 101 = .ok (.iconst 5, 1) := by decide +kernel
theorem dX6_readItems_102 : decode cX6_readItems 102 = .ok (.imul, 1) := by decide +kernel
theorem dX6_readItems_103 : decode cX6_readItems 103 = .ok (.iload 7, 2) := by decide +kernel
theorem dX6_readItems_105 : decode cX6_readItems 105 = .ok (.iadd, 1) := by decide +kernel
theorem dX6_readItems_106 : decode cX6_readItems 106 = .ok (.istore 8, 2) := by decide +kernel
theorem dX6_readItems_108 : decode cX6_readItems 108 = .ok (.aload_n 0, 1) := by decide +kernel
theorem dX6_readItems_109 : decode cX6_readItems 109 = .ok (.getfield 12, 3) := by decide +kernel
theorem dX6_readItems_112 : decode cX6_readItems 112 = .ok (.iload_n 2, 1) := by decide +kernel
theorem dX6_readItems_113 : decode cX6_readItems 113 = .ok (.iload 7, 2) := by decide +kernel
theorem dX6_readItems_115 : decode cX6_readItems 115 = .ok (.iadd, 1) := by decide +kernel
theorem dX6_readItems_116 : decode cX6_readItems 116 = .ok (.aload_n 0, 1) := by decide +kernel
theorem dX6_readItems_117 : decode cX6_readItems 117 = .ok (.getfield 23, 3) := by decide +kernel
theorem dX6_readItems_120 : decode cX6_readItems 120 = .ok (.iconst 2, 1) := by decide +kernel
theorem dX6_readItems_121 : decode cX6_readItems 121 = .ok (.getstatic 113, 3) := by decide +kernel
theorem dX6_readItems_124 : decode cX6_readItems 124 = .ok (.iload 8, 2) := by decide +kernel
theorem dX6_readItems_126 : decode cX6_readItems 126 = .ok (.invokestatic 81, 3) := by decide +kernel
theorem dX6_readItems_129 : decode cX6_readItems 129 = .ok (.getstatic 116, 3) := by decide +kernel
theorem dX6_readItems_132 : decode cX6_readItems 132 = .ok (.iload 8, 2) := by decide +kernel
theorem dX6_readItems_134 : decode cX6_readItems 134 = .ok (.invokestatic 81, 3) := by decide +kernel
theorem dX6_readItems_137 : decode cX6_readItems 137 = .ok (.invokevirtual 119, 3) := by decide +kernel
theorem dX6_readItems_140 : decode cX6_readItems 140 = .ok (.invokevirtual 85, 3) := by decide +kernel
theorem dX6_readItems_143 : decode cX6_readItems 143 = .ok (.iinc 5 1, 3) := by decide +kernel
theorem dX6_readItems_146 : decode cX6_readItems 146 = .ok (.goto (-135), 3) := by decide +kernel
theorem dX6_readItems_149 : decode cX6_readItems 149 = .ok (.return_, 1) := by decide +kernel
theorem dX7_init_0 : decode cX7_init 0 = .ok (.aload_n 0, 1) := by decide +kernel
theorem dX7_init_1 : decode cX7_init 1 = .ok (.invokespecial 3, 3) := by decide +kernel
theorem dX7_init_4 : decode cX7_init 4 = .ok (.aload_n 0, 1) := by decide +kernel
theorem dX7_init_5 : decode cX7_init 5 = .ok (.sipush 143, 3) := by decide +kernel
theorem dX7_init_8 : decode cX7_init 8 = .ok (.newarray .int, 2) := by decide +kernel
theorem dX7_init_10 : decode cX7_init 10 = .ok (.putfield 9, 3) := by decide +kernel
theorem dX7_init_13 : decode cX7_init 13 = .ok (.aload_n 0, 1) := by decide +kernel
theorem dX7_init_14 : decode cX7_init 14 = .ok (.bipush 8, 2) := by decide +kernel
theorem dX7_init_16 : decode cX7_init 16 = .ok (.newarray .int, 2) := by decide +kernel
theorem dX7_init_18 : decode cX7_init 18 = .ok (.putfield 15, 3) := by decide +kernel
theorem dX7_init_21 : decode cX7_init 21 = .ok (.return_, 1) := by decide +kernel
theorem dX7_get_0 : decode cX7_get 0 = .ok (.aload_n 0, 1) := by decide +kernel
theorem dX7_get_1 : decode cX7_get 1 = .ok (.getfield 9, 3) := by decide +kernel
theorem dX7_get_4 : decode cX7_get 4 = .ok (.iload_n 1, 1) := by decide +kernel
theorem dX7_get_5 : decode cX7_get 5 = .ok (.invokestatic 18, 3) := by decide +kernel
theorem dX7_get_8 : decode cX7_get 8 = .ok (.ireturn, 1) := by decide +kernel
theorem dX7_put_0 : decode cX7_put 0 = .ok (.aload_n 0, 1) := by decide +kernel
theorem dX7_put_1 : decode cX7_put 1 = .ok (.getfield 9, 3) := by decide +kernel
theorem dX7_put_4 : decode cX7_put 4 = .ok (.iload_n 1, 1) := by decide +kernel
theorem dX7_put_5 : decode cX7_put 5 = .ok (.iload_n 2, 1) := by decide +kernel
theorem dX7_put_6 : decode cX7_put 6 = .ok (.invokestatic 22, 3) := by decide +kernel
theorem dX7_put_9 : decode cX7_put 9 = .ok (.return_, 1) := by decide +kernel
theorem dX7_add_0 : decode cX7_add 0 = .ok (.aload_n 0, 1) := by decide +kernel
theorem dX7_add_1 : decode cX7_add 1 = .ok (.getfield 9, 3) := by decide +kernel
theorem dX7_add_4 : decode cX7_add 4 = .ok (.iload_n 1, 1) := by decide +kernel
theorem dX7_add_5 : decode cX7_add 5 = .ok (.aload_n 0, 1) := by decide +kernel
theorem dX7_add_6 : decode cX7_add 6 = .ok (.getfield 9, 3) := by decide +kernel
theorem dX7_add_9 : decode cX7_add 9 = .ok (.iload_n 1, 1) := by decide +kernel
theorem dX7_add_10 : decode cX7_add 10 = .ok (.invokestatic 18, 3) := by decide +kernel
theorem dX7_add_13 : decode cX7_add 13 = .ok (.iload_n 2, 1) := by decide +kernel
theorem dX7_add_14 : decode cX7_add 14 = .ok (.iadd, 1) := by decide +kernel
theorem dX7_add_15 : decode cX7_add 15 = .ok (.invokestatic 22, 3) := by decide +kernel
theorem dX7_add_18 : decode cX7_add 18 = .ok (.return_, 1) := by decide +kernel
theorem dX7_clear_0 : decode cX7_clear 0 = .ok (.iconst 0, 1) := by decide +kernel
theorem dX7_clear_1 : decode cX7_clear 1 = .ok (.istore_n 1, 1) := by decide +kernel
theorem dX7_clear_2 : decode cX7_clear 2 = .ok (.iload_n 1, 1) := by decide +kernel
theorem dX7_clear_3 : decode cX7_clear 3 = .ok (.sipush 143, 3) := by decide +kernel
theorem dX7_clear_6 : decode cX7_clear 6 = .ok (.if_icmp .ge 15, 3) := by decide +kernel
theorem dX7_clear_9 : decode cX7_clear 9 = .ok (.aload_n 0, 1) := by decide +kernel
theorem dX7_clear_10 : decode cX7_clear 10 = .ok (.iload_n 1, 1) := by decide +kernel
theorem dX7_clear_11 : decode cX7_clear 11 = .ok (.iconst 0, 1) := by decide +kernel
theorem dX7_clear_12 : decode cX7_clear 12 = .ok (.invokevirtual 26, 3) := by decide +kernel
theorem dX7_clear_15 : decode cX7_clear 15 = .ok (.iinc 1 1, 3) := by decide +kernel
theorem dX7_clear_18 : decode cX7_clear 18 = .ok (.goto (-16), 3) := by decide +kernel
theorem dX7_clear_21 : decode cX7_clear 21 = .ok (.return_, 1) := by decide +kernel
theorem dX7_become_0 : decode cX7_become 0 = .ok (.iconst 0, 1) := by decide +kernel
theorem dX7_become_1 : decode cX7_become 1 = .ok (.istore_n 2, 1) := by decide +kernel
theorem dX7_become_2 : decode cX7_become 2 = .ok (.iload_n 2, 1) := by decide +kernel
theorem dX7_become_3 : decode cX7_become 3 = .ok (.sipush 143, 3) := by decide +kernel
theorem dX7_become_6 : decode cX7_become 6 = .ok (.if_icmp .ge 19, 3) := by decide +kernel
theorem dX7_become_9 : decode cX7_become 9 = .ok (.aload_n 0, 1) := by decide +kernel
theorem dX7_become_10 : decode cX7_become 10 = .ok (.iload_n 2, 1) := by decide +kernel
theorem dX7_become_11 : decode cX7_become 11 = .ok (.aload_n 1, 1) := by decide +kernel
theorem dX7_become_12 : decode cX7_become 12 = .ok (.iload_n 2, 1) := by decide +kernel
theorem dX7_become_13 : decode cX7_become 13 = .ok (.invokevirtual 30, 3) := by decide +kernel
theorem dX7_become_16 : decode cX7_become 16 = .ok (.invokevirtual 26, 3) := by decide +kernel
theorem dX7_become_19 : decode cX7_become 19 = .ok (.iinc 2 1, 3) := by decide +kernel
theorem dX7_become_22 : decode cX7_become 22 = .ok (.goto (-20), 3) := by decide +kernel
theorem dX7_become_25 : decode cX7_become 25 = .ok (.iconst 0, 1) := by decide +kernel
theorem dX7_become_26 : decode cX7_become 26 = .ok (.istore_n 2, 1) := by decide +kernel
theorem dX7_become_27 : decode cX7_become 27 = .ok (.iload_n 2, 1) := by decide +kernel
theorem dX7_become_28 : decode cX7_become 28 = .ok (.bipush 8, 2) := by decide +kernel
theorem dX7_become_30 : decode cX7_become 30 = .ok (.if_icmp .ge 18, 3) := by decide +kernel
theorem dX7_become_33 : decode cX7_become 33 = .ok (.aload_n 0, 1) := by decide +kernel
theorem dX7_become_34 : decode cX7_become 34 = .ok (.getfield 15, 3) := by decide +kernel
theorem dX7_become_37 : decode cX7_become 37 = .ok (.iload_n 2, 1) := by decide +kernel
theorem dX7_become_38 : decode cX7_become 38 = .ok (.iconst 0, 1) := by decide +kernel
theorem dX7_become_39 : decode cX7_become 39 = .ok (.invokestatic 22, 3) := by decide +kernel
theorem dX7_become_42 : decode cX7_become 42 = .ok (.iinc 2 1, 3) := by decide +kernel
theorem dX7_become_45 : decode cX7_become 45 = .ok (.goto (-18), 3) := by decide +kernel
theorem dX7_become_48 : decode cX7_become 48 = .ok (.return_, 1) := by decide +kernel
theorem dX7_hasMonth_0 : decode cX7_hasMonth 0 = .ok (.iload_n 1, 1) := by decide +kernel
theorem dX7_hasMonth_1 : decode cX7_hasMonth 1 = .ok (.ifCond .lt 17, 3) := by decide +kernel
theorem dX7_hasMonth_4 : decode cX7_hasMonth 4 = .ok (.iload_n 1, 1) := by decide +kernel
theorem dX7_hasMonth_5 : decode cX7_hasMonth 5 = .ok (.aload_n 0, 1) := by decide +kernel
theorem dX7_hasMonth_6 : decode cX7_hasMonth 6 = .ok (.bipush 9, 2) := by decide +kernel
theorem dX7_hasMonth_8 : decode cX7_hasMonth 8 = .ok (.invokevirtual 30, 3) := by decide +kernel
theorem dX7_hasMonth_11 : decode cX7_hasMonth 11 = .ok (.if_icmp .ge 7, 3) := by decide +kernel
theorem dX7_hasMonth_14 : decode cX7_hasMonth 14 = .ok (.iconst 1, 1) := by decide +kernel
theorem dX7_hasMonth_15 : decode cX7_hasMonth 15 = .ok (.goto 4, 3) := by decide +kernel
theorem dX7_hasMonth_18 : decode cX7_hasMonth 18 = .ok (.iconst 0, 1) := by decide +kernel
theorem dX7_hasMonth_19 : decode cX7_hasMonth 19 = .ok (.ireturn, 1) := by decide +kernel
theorem dX7_hasCrop_0 : decode cX7_hasCrop 0 = .ok (.iload_n 1, 1) := by decide +kernel
theorem dX7_hasCrop_1 : decode cX7_hasCrop 1 = .ok (.ifCond .lt 17, 3) := by decide +kernel
theorem dX7_hasCrop_4 : decode cX7_hasCrop 4 = .ok (.iload_n 1, 1) := by decide +kernel
theorem dX7_hasCrop_5 : decode cX7_hasCrop 5 = .ok (.aload_n 0, 1) := by decide +kernel
theorem dX7_hasCrop_6 : decode cX7_hasCrop 6 = .ok (.bipush 10, 2) := by decide +kernel
theorem dX7_hasCrop_8 : decode cX7_hasCrop 8 = .ok (.invokevirtual 30, 3) := by decide +kernel
theorem dX7_hasCrop_11 : decode cX7_hasCrop 11 = .ok (.if_icmp .ge 7, 3) := by decide +kernel
theorem dX7_hasCrop_14 : decode cX7_hasCrop 14 = .ok (.iconst 1, 1) := by decide +kernel
theorem dX7_hasCrop_15 : decode cX7_hasCrop 15 = .ok (.goto 4, 3) := by decide +kernel
theorem dX7_hasCrop_18 : decode cX7_hasCrop 18 = .ok (.iconst 0, 1) := by decide +kernel
theorem dX7_hasCrop_19 : decode cX7_hasCrop 19 = .ok (.ireturn, 1) := by decide +kernel
theorem dX7_placeOfMonth_0 : decode cX7_placeOfMonth 0 = .ok (.bipush 13, 2) := by decide +kernel
theorem dX7_placeOfMonth_2 : decode cX7_placeOfMonth 2 = .ok (.iload_n 0, 1) := by decide +kernel
theorem dX7_placeOfMonth_3 : decode cX7_placeOfMonth 3 = .ok (.iconst 5, 1) := by decide +kernel
theorem dX7_placeOfMonth_4 : decode cX7_placeOfMonth 4 = .ok (.imul, 1) := by decide +kernel
theorem dX7_placeOfMonth_5 : decode cX7_placeOfMonth 5 = .ok (.iadd, 1) := by decide +kernel
theorem dX7_placeOfMonth_6 : decode cX7_placeOfMonth 6 = .ok (.iload_n 1, 1) := by decide +kernel
theorem dX7_placeOfMonth_7 : decode cX7_placeOfMonth 7 = .ok (.iadd, 1) := by decide +kernel
theorem dX7_placeOfMonth_8 : decode cX7_placeOfMonth 8 = .ok (.ireturn, 1) := by decide +kernel
theorem dX7_placeOfCrop_0 : decode cX7_placeOfCrop 0 = .ok (.bipush 53, 2) := by decide +kernel
theorem dX7_placeOfCrop_2 : decode cX7_placeOfCrop 2 = .ok (.iload_n 0, 1) := by decide +kernel
theorem dX7_placeOfCrop_3 : decode cX7_placeOfCrop 3 = .ok (.bipush 6, 2) := by decide +kernel
theorem dX7_placeOfCrop_5 : decode cX7_placeOfCrop 5 = .ok (.imul, 1) := by decide +kernel
theorem dX7_placeOfCrop_6 : decode cX7_placeOfCrop 6 = .ok (.iadd, 1) := by decide +kernel
theorem dX7_placeOfCrop_7 : decode cX7_placeOfCrop 7 = .ok (.iload_n 1, 1) := by decide +kernel
theorem dX7_placeOfCrop_8 : decode cX7_placeOfCrop 8 = .ok (.iadd, 1) := by decide +kernel
theorem dX7_placeOfCrop_9 : decode cX7_placeOfCrop 9 = .ok (.ireturn, 1) := by decide +kernel
theorem dX7_ofMonth_0 : decode cX7_ofMonth 0 = .ok (.aload_n 0, 1) := by decide +kernel
theorem dX7_ofMonth_1 : decode cX7_ofMonth 1 = .ok (.getfield 9, 3) := by decide +kernel
theorem dX7_ofMonth_4 : decode cX7_ofMonth 4 = .ok (.iload_n 1, 1) := by decide +kernel
theorem dX7_ofMonth_5 : decode cX7_ofMonth 5 = .ok (.iload_n 2, 1) := by decide +kernel
theorem dX7_ofMonth_6 : decode cX7_ofMonth 6 = .ok (.invokestatic 34, 3) := by decide +kernel
theorem dX7_ofMonth_9 : decode cX7_ofMonth 9 = .ok (.invokestatic 18, 3) := by decide +kernel
theorem dX7_ofMonth_12 : decode cX7_ofMonth 12 = .ok (.ireturn, 1) := by decide +kernel
theorem dX7_ofCrop_0 : decode cX7_ofCrop 0 = .ok (.aload_n 0, 1) := by decide +kernel
theorem dX7_ofCrop_1 : decode cX7_ofCrop 1 = .ok (.getfield 9, 3) := by decide +kernel
theorem dX7_ofCrop_4 : decode cX7_ofCrop 4 = .ok (.iload_n 1, 1) := by decide +kernel
theorem dX7_ofCrop_5 : decode cX7_ofCrop 5 = .ok (.iload_n 2, 1) := by decide +kernel
theorem dX7_ofCrop_6 : decode cX7_ofCrop 6 = .ok (.invokestatic 38, 3) := by decide +kernel
theorem dX7_ofCrop_9 : decode cX7_ofCrop 9 = .ok (.invokestatic 18, 3) := by decide +kernel
theorem dX7_ofCrop_12 : decode cX7_ofCrop 12 = .ok (.ireturn, 1) := by decide +kernel
theorem dX7_greaseMonth_0 : decode cX7_greaseMonth 0 = .ok (.aload_n 0, 1) := by decide +kernel
theorem dX7_greaseMonth_1 : decode cX7_greaseMonth 1 = .ok (.iload_n 1, 1) := by decide +kernel
theorem dX7_greaseMonth_2 : decode cX7_greaseMonth 2 = .ok (.iconst 1, 1) := by decide +kernel
theorem dX7_greaseMonth_3 : decode cX7_greaseMonth 3 = .ok (.invokestatic 34, 3) := by decide +kernel
theorem dX7_greaseMonth_6 : decode cX7_greaseMonth 6 = .ok (.bipush 9, 2) := by decide +kernel
theorem dX7_greaseMonth_8 : decode cX7_greaseMonth 8 = .ok (.aload_n 0, 1) := by decide +kernel
theorem dX7_greaseMonth_9 : decode cX7_greaseMonth 9 = .ok (.iload_n 1, 1) := by decide +kernel
theorem dX7_greaseMonth_10 : decode cX7_greaseMonth 10 = .ok (.iconst 1, 1) := by decide +kernel
theorem dX7_greaseMonth_11 : decode cX7_greaseMonth 11 = .ok (.invokevirtual 41, 3) := by decide +kernel
theorem dX7_greaseMonth_14 : decode cX7_greaseMonth 14 = .ok (.iload_n 2, 1) := by decide +kernel
theorem dX7_greaseMonth_15 : decode cX7_greaseMonth 15 = .ok (.iadd, 1) := by decide +kernel
theorem dX7_greaseMonth_16 : decode cX7_greaseMonth 16 = .ok (.invokestatic 44, 3) := by decide +kernel
theorem dX7_greaseMonth_19 : decode cX7_greaseMonth 19 = .ok (.invokevirtual 26, 3) := by decide +kernel
theorem dX7_greaseMonth_22 : decode cX7_greaseMonth 22 = .ok (.return_, 1) := by decide +kernel
theorem dX7_chipMonth_0 : decode cX7_chipMonth 0 = .ok (.aload_n 0, 1) := by decide +kernel
theorem dX7_chipMonth_1 : decode cX7_chipMonth 1 = .ok (.iload_n 1, 1) := by decide +kernel
theorem dX7_chipMonth_2 : decode cX7_chipMonth 2 = .ok (.iconst 2, 1) := by decide +kernel
theorem dX7_chipMonth_3 : decode cX7_chipMonth 3 = .ok (.invokestatic 34, 3) := by decide +kernel
theorem dX7_chipMonth_6 : decode cX7_chipMonth 6 = .ok (.iconst (-1), 1) := by decide +kernel
theorem dX7_chipMonth_7 : decode cX7_chipMonth 7 = .ok (.invokevirtual 49, 3) := by decide +kernel
theorem dX7_chipMonth_10 : decode cX7_chipMonth 10 = .ok (.aload_n 0, 1) := by decide +kernel
theorem dX7_chipMonth_11 : decode cX7_chipMonth 11 = .ok (.iload_n 1, 1) := by decide +kernel
theorem dX7_chipMonth_12 : decode cX7_chipMonth 12 = .ok (.iconst 3, 1) := by decide +kernel
theorem dX7_chipMonth_13 : decode cX7_chipMonth 13 = .ok (.invokestatic 34, 3) := by decide +kernel
theorem dX7_chipMonth_16 : decode cX7_chipMonth 16 = .ok (.bipush 9, 2) := by decide +kernel
theorem dX7_chipMonth_18 : decode cX7_chipMonth 18 = .ok (.aload_n 0, 1) := by decide +kernel
theorem dX7_chipMonth_19 : decode cX7_chipMonth 19 = .ok (.iload_n 1, 1) := by decide +kernel
theorem dX7_chipMonth_20 : decode cX7_chipMonth 20 = .ok (.iconst 3, 1) := by decide +kernel
theorem dX7_chipMonth_21 : decode cX7_chipMonth 21 = .ok (.invokevirtual 41, 3) := by decide +kernel
theorem dX7_chipMonth_24 : decode cX7_chipMonth 24 = .ok (.iconst 1, 1) := by decide +kernel
theorem dX7_chipMonth_25 : decode cX7_chipMonth 25 = .ok (.iadd, 1) := by decide +kernel
theorem dX7_chipMonth_26 : decode cX7_chipMonth 26 = .ok (.invokestatic 44, 3) := by decide +kernel
theorem dX7_chipMonth_29 : decode cX7_chipMonth 29 = .ok (.invokevirtual 26, 3) := by decide +kernel
theorem dX7_chipMonth_32 : decode cX7_chipMonth 32 = .ok (.return_, 1) := by decide +kernel
theorem dX7_turnRound_0 : decode cX7_turnRound 0 = .ok (.aload_n 0, 1) := by decide +kernel
theorem dX7_turnRound_1 : decode cX7_turnRound 1 = .ok (.iconst 4, 1) := by decide +kernel
theorem dX7_turnRound_2 : decode cX7_turnRound 2 = .ok (.aload_n 0, 1) := by decide +kernel
theorem dX7_turnRound_3 : decode cX7_turnRound 3 = .ok (.iconst 4, 1) := by decide +kernel
theorem dX7_turnRound_4 : decode cX7_turnRound 4 = .ok (.invokevirtual 30, 3) := by decide +kernel
theorem dX7_turnRound_7 : decode cX7_turnRound 7 = .ok (.ifCond .ne 7, 3) := by decide +kernel
theorem dX7_turnRound_10 : decode cX7_turnRound 10 = .ok (.iconst 1, 1) := by decide +kernel
theorem dX7_turnRound_11 : decode cX7_turnRound 11 = .ok (.goto 4, 3) := by decide +kernel
theorem dX7_turnRound_14 : decode cX7_turnRound 14 = .ok (.iconst 0, 1) := by decide +kernel
theorem dX7_turnRound_15 : decode cX7_turnRound 15 = .ok (.invokevirtual 26, 3) := by decide +kernel
theorem dX7_turnRound_18 : decode cX7_turnRound 18 = .ok (.return_, 1) := by decide +kernel
theorem dX7_sowCrop_0 : decode cX7_sowCrop 0 = .ok (.aload_n 0, 1) := by decide +kernel
theorem dX7_sowCrop_1 : decode cX7_sowCrop 1 = .ok (.iload_n 1, 1) := by decide +kernel
theorem dX7_sowCrop_2 : decode cX7_sowCrop 2 = .ok (.iconst 3, 1) := by decide +kernel
theorem dX7_sowCrop_3 : decode cX7_sowCrop 3 = .ok (.invokestatic 38, 3) := by decide +kernel
theorem dX7_sowCrop_6 : decode cX7_sowCrop 6 = .ok (.iconst 0, 1) := by decide +kernel
theorem dX7_sowCrop_7 : decode cX7_sowCrop 7 = .ok (.invokevirtual 26, 3) := by decide +kernel
theorem dX7_sowCrop_10 : decode cX7_sowCrop 10 = .ok (.aload_n 0, 1) := by decide +kernel
theorem dX7_sowCrop_11 : decode cX7_sowCrop 11 = .ok (.iload_n 1, 1) := by decide +kernel
theorem dX7_sowCrop_12 : decode cX7_sowCrop 12 = .ok (.iconst 4, 1) := by decide +kernel
theorem dX7_sowCrop_13 : decode cX7_sowCrop 13 = .ok (.invokestatic 38, 3) := by decide +kernel
theorem dX7_sowCrop_16 : decode cX7_sowCrop 16 = .ok (.iconst 0, 1) := by decide +kernel
theorem dX7_sowCrop_17 : decode cX7_sowCrop 17 = .ok (.invokevirtual 26, 3) := by decide +kernel
theorem dX7_sowCrop_20 : decode cX7_sowCrop 20 = .ok (.aload_n 0, 1) := by decide +kernel
theorem dX7_sowCrop_21 : decode cX7_sowCrop 21 = .ok (.iload_n 1, 1) := by decide +kernel
theorem dX7_sowCrop_22 : decode cX7_sowCrop 22 = .ok (.iconst 5, 1) := by decide +kernel
theorem dX7_sowCrop_23 : decode cX7_sowCrop 23 = .ok (.invokestatic 38, 3) := by decide +kernel
theorem dX7_sowCrop_26 : decode cX7_sowCrop 26 = .ok (.iconst 0, 1) := by decide +kernel
theorem dX7_sowCrop_27 : decode cX7_sowCrop 27 = .ok (.invokevirtual 26, 3) := by decide +kernel
theorem dX7_sowCrop_30 : decode cX7_sowCrop 30 = .ok (.return_, 1) := by decide +kernel
theorem dX7_takeTurns_0 : decode cX7_takeTurns 0 = .ok (.iconst 0, 1) := by decide +kernel
theorem dX7_takeTurns_1 : decode cX7_takeTurns 1 = .ok (.istore_n 3, 1) := by decide +kernel
theorem dX7_takeTurns_2 : decode cX7_takeTurns 2 = .ok (.iload_n 3, 1) := by decide +kernel
theorem dX7_takeTurns_3 : decode cX7_takeTurns 3 = .ok (.iload_n 1, 1) := by decide +kernel
theorem dX7_takeTurns_4 : decode cX7_takeTurns 4 = .ok (.if_icmp .ge 72, 3) := by decide +kernel
theorem dX7_takeTurns_7 : decode cX7_takeTurns 7 = .ok (.aload_n 2, 1) := by decide +kernel
theorem dX7_takeTurns_8 : decode cX7_takeTurns 8 = .ok (.aload_n 0, 1) := by decide +kernel
theorem dX7_takeTurns_9 : decode cX7_takeTurns 9 = .ok (.invokevirtual 52, 3) := by decide +kernel
theorem dX7_takeTurns_12 : decode cX7_takeTurns 12 = .ok (.istore 4, 2) := by decide +kernel
theorem dX7_takeTurns_14 : decode cX7_takeTurns 14 = .ok (.iconst 0, 1) := by decide +kernel
theorem dX7_takeTurns_15 : decode cX7_takeTurns 15 = .ok (.istore 5, 2) := by decide +kernel
theorem dX7_takeTurns_17 : decode cX7_takeTurns 17 = .ok (.iconst 0, 1) := by decide +kernel
theorem dX7_takeTurns_18 : decode cX7_takeTurns 18 = .ok (.istore 6, 2) := by decide +kernel
theorem dX7_takeTurns_20 : decode cX7_takeTurns 20 = .ok (.iload 6, 2) := by decide +kernel
theorem dX7_takeTurns_22 : decode cX7_takeTurns 22 = .ok (.iload 4, 2) := by decide +kernel
theorem dX7_takeTurns_24 : decode cX7_takeTurns 24 = .ok (.if_icmp .ge 27, 3) := by decide +kernel
theorem dX7_takeTurns_27 : decode cX7_takeTurns 27 = .ok (.aload_n 0, 1) := by decide +kernel
theorem dX7_takeTurns_28 : decode cX7_takeTurns 28 = .ok (.invokevirtual 58, 3) := by decide +kernel
theorem dX7_takeTurns_31 : decode cX7_takeTurns 31 = .ok (.iload 5, 2) := by decide +kernel
theorem dX7_takeTurns_33 : decode cX7_takeTurns 33 = .ok (.aload_n 0, 1) := by decide +kernel
theorem dX7_takeTurns_34 : decode cX7_takeTurns 34 = .ok (.aload_n 0, 1) := by decide +kernel
theorem dX7_takeTurns_35 : decode cX7_takeTurns 35 = .ok (.iconst 5, 1) := by decide +kernel
theorem dX7_takeTurns_36 : decode cX7_takeTurns 36 = .ok (.invokevirtual 30, 3) := by decide +kernel
theorem dX7_takeTurns_39 : decode cX7_takeTurns 39 = .ok (.invokevirtual 61, 3) := by decide +kernel
theorem dX7_takeTurns_42 : decode cX7_takeTurns 42 = .ok (.ior, 1) := by decide +kernel
theorem dX7_takeTurns_43 : decode cX7_takeTurns 43 = .ok (.istore 5, 2) := by decide +kernel
theorem dX7_takeTurns_45 : decode cX7_takeTurns 45 = .ok (.iinc 6 1, 3) := by decide +kernel
theorem dX7_takeTurns_48 : decode cX7_takeTurns 48 = .ok (.goto (-28), 3) := by decide +kernel
theorem dX7_takeTurns_51 : decode cX7_takeTurns 51 = .ok (.aload_n 0, 1) := by decide +kernel
theorem dX7_takeTurns_52 : decode cX7_takeTurns 52 = .ok (.invokevirtual 64, 3) := by decide +kernel
theorem dX7_takeTurns_55 : decode cX7_takeTurns 55 = .ok (.aload_n 0, 1) := by decide +kernel
theorem dX7_takeTurns_56 : decode cX7_takeTurns 56 = .ok (.bipush 8, 2) := by decide +kernel
theorem dX7_takeTurns_58 : decode cX7_takeTurns 58 = .ok (.iconst 1, 1) := by decide +kernel
theorem dX7_takeTurns_59 : decode cX7_takeTurns 59 = .ok (.invokevirtual 49, 3) := by decide +kernel
theorem dX7_takeTurns_62 : decode cX7_takeTurns 62 = .ok (.aload_n 0, 1) := by decide +kernel
theorem dX7_takeTurns_63 : decode cX7_takeTurns 63 = .ok (.iload 4, 2) := by decide +kernel
theorem dX7_takeTurns_65 : decode cX7_takeTurns 65 = .ok (.iload 5, 2) := by decide +kernel
theorem dX7_takeTurns_67 : decode cX7_takeTurns 67 = .ok (.invokevirtual 67, 3) := by decide +kernel
theorem dX7_takeTurns_70 : decode cX7_takeTurns 70 = .ok (.iinc 3 1, 3) := by decide +kernel
theorem dX7_takeTurns_73 : decode cX7_takeTurns 73 = .ok (.goto (-71), 3) := by decide +kernel
theorem dX7_takeTurns_76 : decode cX7_takeTurns 76 = .ok (.return_, 1) := by decide +kernel
theorem dX7_takeDay_0 : decode cX7_takeDay 0 = .ok (.aload_n 0, 1) := by decide +kernel
theorem dX7_takeDay_1 : decode cX7_takeDay 1 = .ok (.bipush 9, 2) := by decide +kernel
theorem dX7_takeDay_3 : decode cX7_takeDay 3 = .ok (.invokevirtual 30, 3) := by decide +kernel
theorem dX7_takeDay_6 : decode cX7_takeDay 6 = .ok (.istore_n 1, 1) := by decide +kernel
theorem dX7_takeDay_7 : decode cX7_takeDay 7 = .ok (.aload_n 0, 1) := by decide +kernel
theorem dX7_takeDay_8 : decode cX7_takeDay 8 = .ok (.iconst 5, 1) := by decide +kernel
theorem dX7_takeDay_9 : decode cX7_takeDay 9 = .ok (.invokevirtual 30, 3) := by decide +kernel
theorem dX7_takeDay_12 : decode cX7_takeDay 12 = .ok (.istore_n 2, 1) := by decide +kernel
theorem dX7_takeDay_13 : decode cX7_takeDay 13 = .ok (.aload_n 0, 1) := by decide +kernel
theorem dX7_takeDay_14 : decode cX7_takeDay 14 = .ok (.bipush 6, 2) := by decide +kernel
theorem dX7_takeDay_16 : decode cX7_takeDay 16 = .ok (.invokevirtual 30, 3) := by decide +kernel
theorem dX7_takeDay_19 : decode cX7_takeDay 19 = .ok (.aload_n 0, 1) := by decide +kernel
theorem dX7_takeDay_20 : decode cX7_takeDay 20 = .ok (.iconst 4, 1) := by decide +kernel
theorem dX7_takeDay_21 : decode cX7_takeDay 21 = .ok (.invokevirtual 30, 3) := by decide +kernel
theorem dX7_takeDay_24 : decode cX7_takeDay 24 = .ok (.ifCond .ne 7, 3) := by decide +kernel
theorem dX7_takeDay_27 : decode cX7_takeDay 27 = .ok (.iconst 1, 1) := by decide +kernel
theorem dX7_takeDay_28 : decode cX7_takeDay 28 = .ok (.goto 4, 3) := by decide +kernel
theorem dX7_takeDay_31 : decode cX7_takeDay 31 = .ok (.iconst (-1), 1) := by decide +kernel
theorem dX7_takeDay_32 : decode cX7_takeDay 32 = .ok (.iadd, 1) := by decide +kernel
theorem dX7_takeDay_33 : decode cX7_takeDay 33 = .ok (.istore_n 3, 1) := by decide +kernel
theorem dX7_takeDay_34 : decode cX7_takeDay 34 = .ok (.iload_n 3, 1) := by decide +kernel
theorem dX7_takeDay_35 : decode cX7_takeDay 35 = .ok (.ifCond .ge 29, 3) := by decide +kernel
theorem dX7_takeDay_38 : decode cX7_takeDay 38 = .ok (.iload_n 2, 1) := by decide +kernel
theorem dX7_takeDay_39 : decode cX7_takeDay 39 = .ok (.ifCond .le 9, 3) := by decide +kernel
theorem dX7_takeDay_42 : decode cX7_takeDay 42 = .ok (.iload_n 2, 1) := by decide +kernel
theorem dX7_takeDay_43 : decode cX7_takeDay 43 = .ok (.iconst 1, 1) := by decide +kernel
theorem dX7_takeDay_44 : decode cX7_takeDay 44 = .ok (.isub, 1) := by decide +kernel
theorem dX7_takeDay_45 : decode cX7_takeDay 45 = .ok (.goto 6, 3) := by decide +kernel
theorem dX7_takeDay_48 : decode cX7_takeDay 48 = .ok (.iload_n 1, 1) := by decide +kernel
theorem dX7_takeDay_49 : decode cX7_takeDay 49 = .ok (.iconst 1, 1) := by decide +kernel
theorem dX7_takeDay_50 : decode cX7_takeDay 50 = .ok (.isub, 1) := by decide +kernel
theorem dX7_takeDay_51 : decode cX7_takeDay 51 = .ok (.istore_n 2, 1) := by decide +kernel
theorem dX7_takeDay_52 : decode cX7_takeDay 52 = .ok (.aload_n 0, 1) := by decide +kernel
theorem dX7_takeDay_53 : decode cX7_takeDay 53 = .ok (.iload_n 2, 1) := by decide +kernel
theorem dX7_takeDay_54 : decode cX7_takeDay 54 = .ok (.iconst 0, 1) := by decide +kernel
theorem dX7_takeDay_55 : decode cX7_takeDay 55 = .ok (.invokevirtual 41, 3) := by decide +kernel
theorem dX7_takeDay_58 : decode cX7_takeDay 58 = .ok (.iconst 1, 1) := by decide +kernel
theorem dX7_takeDay_59 : decode cX7_takeDay 59 = .ok (.isub, 1) := by decide +kernel
theorem dX7_takeDay_60 : decode cX7_takeDay 60 = .ok (.istore_n 3, 1) := by decide +kernel
theorem dX7_takeDay_61 : decode cX7_takeDay 61 = .ok (.goto 30, 3) := by decide +kernel
theorem dX7_takeDay_64 : decode cX7_takeDay 64 = .ok (.iload_n 3, 1) := by decide +kernel
theorem dX7_takeDay_65 : decode cX7_takeDay 65 = .ok (.aload_n 0, 1) := by decide +kernel
theorem dX7_takeDay_66 : decode cX7_takeDay 66 = .ok (.iload_n 2, 1) := by decide +kernel
theorem dX7_takeDay_67 : decode cX7_takeDay 67 = .ok (.iconst 0, 1) := by decide +kernel
theorem dX7_takeDay_68 : decode cX7_takeDay 68 = .ok (.invokevirtual 41, 3) := by decide +kernel
theorem dX7_takeDay_71 : decode cX7_takeDay 71 = .ok (.if_icmp .lt 20, 3) := by decide +kernel
theorem dX7_takeDay_74 : decode cX7_takeDay 74 = .ok (.iload_n 2, 1) := by decide +kernel
theorem dX7_takeDay_75 : decode cX7_takeDay 75 = .ok (.iload_n 1, 1) := by decide +kernel
theorem dX7_takeDay_76 : decode cX7_takeDay 76 = .ok (.iconst 1, 1) := by decide +kernel
theorem dX7_takeDay_77 : decode cX7_takeDay 77 = .ok (.isub, 1) := by decide +kernel
theorem dX7_takeDay_78 : decode cX7_takeDay 78 = .ok (.if_icmp .ge 9, 3) := by decide +kernel
theorem dX7_takeDay_81 : decode cX7_takeDay 81 = .ok (.iload_n 2, 1) := by decide +kernel
theorem dX7_takeDay_82 : decode cX7_takeDay 82 = .ok (.iconst 1, 1) := by decide +kernel
theorem dX7_takeDay_83 : decode cX7_takeDay 83 = .ok (.iadd, 1) := by decide +kernel
theorem dX7_takeDay_84 : decode cX7_takeDay 84 = .ok (.goto 4, 3) := by decide +kernel
theorem dX7_takeDay_87 : decode cX7_takeDay 87 = .ok (.iconst 0, 1) := by decide +kernel
theorem dX7_takeDay_88 : decode cX7_takeDay 88 = .ok (.istore_n 2, 1) := by decide +kernel
theorem dX7_takeDay_89 : decode cX7_takeDay 89 = .ok (.iconst 0, 1) := by decide +kernel
theorem dX7_takeDay_90 : decode cX7_takeDay 90 = .ok (.istore_n 3, 1) := by decide +kernel
theorem dX7_takeDay_91 : decode cX7_takeDay 91 = .ok (.aload_n 0, 1) := by decide +kernel
theorem dX7_takeDay_92 : decode cX7_takeDay 92 = .ok (.iconst 5, 1) := by decide +kernel
theorem dX7_takeDay_93 : decode cX7_takeDay 93 = .ok (.iload_n 2, 1) := by decide +kernel
theorem dX7_takeDay_94 : decode cX7_takeDay 94 = .ok (.invokevirtual 26, 3) := by decide +kernel
theorem dX7_takeDay_97 : decode cX7_takeDay 97 = .ok (.aload_n 0, 1) := by decide +kernel
theorem dX7_takeDay_98 : decode cX7_takeDay 98 = .ok (.bipush 6, 2) := by decide +kernel
theorem dX7_takeDay_100 : decode cX7_takeDay 100 = .ok (.iload_n 3, 1) := by decide +kernel
theorem dX7_takeDay_101 : decode cX7_takeDay 101 = .ok (.invokevirtual 26, 3) := by decide +kernel
theorem dX7_takeDay_104 : decode cX7_takeDay 104 = .ok (.aload_n 0, 1) := by decide +kernel
theorem dX7_takeDay_105 : decode cX7_takeDay 105 = .ok (.bipush 7, 2) := by decide +kernel
theorem dX7_takeDay_107 : decode cX7_takeDay 107 = .ok (.aload_n 0, 1) := by decide +kernel
theorem dX7_takeDay_108 : decode cX7_takeDay 108 = .ok (.bipush 7, 2) := by decide +kernel
theorem dX7_takeDay_110 : decode cX7_takeDay 110 = .ok (.invokevirtual 30, 3) := by decide +kernel
theorem dX7_takeDay_113 : decode cX7_takeDay 113 = .ok (.iconst 1, 1) := by decide +kernel
theorem dX7_takeDay_114 : decode cX7_takeDay 114 = .ok (.iadd, 1) := by decide +kernel
theorem dX7_takeDay_115 : decode cX7_takeDay 115 = .ok (.sipush 2520, 3) := by decide +kernel
theorem dX7_takeDay_118 : decode cX7_takeDay 118 = .ok (.irem, 1) := by decide +kernel
theorem dX7_takeDay_119 : decode cX7_takeDay 119 = .ok (.invokevirtual 26, 3) := by decide +kernel
theorem dX7_takeDay_122 : decode cX7_takeDay 122 = .ok (.aload_n 0, 1) := by decide +kernel
theorem dX7_takeDay_123 : decode cX7_takeDay 123 = .ok (.getfield 15, 3) := by decide +kernel
theorem dX7_takeDay_126 : decode cX7_takeDay 126 = .ok (.iload_n 2, 1) := by decide +kernel
theorem dX7_takeDay_127 : decode cX7_takeDay 127 = .ok (.aload_n 0, 1) := by decide +kernel
theorem dX7_takeDay_128 : decode cX7_takeDay 128 = .ok (.getfield 15, 3) := by decide +kernel
theorem dX7_takeDay_131 : decode cX7_takeDay 131 = .ok (.iload_n 2, 1) := by decide +kernel
theorem dX7_takeDay_132 : decode cX7_takeDay 132 = .ok (.invokestatic 18, 3) := by decide +kernel
theorem dX7_takeDay_135 : decode cX7_takeDay 135 = .ok (.iconst 1, 1) := by decide +kernel
theorem dX7_takeDay_136 : decode cX7_takeDay 136 = .ok (.iadd, 1) := by decide +kernel
theorem dX7_takeDay_137 : decode cX7_takeDay 137 = .ok (.invokestatic 22, 3) := by decide +kernel
theorem dX7_takeDay_140 : decode cX7_takeDay 140 = .ok (.return_, 1) := by decide +kernel
theorem dX7_growCrops_0 : decode cX7_growCrops 0 = .ok (.aload_n 0, 1) := by decide +kernel
theorem dX7_growCrops_1 : decode cX7_growCrops 1 = .ok (.iload_n 1, 1) := by decide +kernel
theorem dX7_growCrops_2 : decode cX7_growCrops 2 = .ok (.iconst 2, 1) := by decide +kernel
theorem dX7_growCrops_3 : decode cX7_growCrops 3 = .ok (.invokevirtual 41, 3) := by decide +kernel
theorem dX7_growCrops_6 : decode cX7_growCrops 6 = .ok (.istore_n 2, 1) := by decide +kernel
theorem dX7_growCrops_7 : decode cX7_growCrops 7 = .ok (.aload_n 0, 1) := by decide +kernel
theorem dX7_growCrops_8 : decode cX7_growCrops 8 = .ok (.iload_n 1, 1) := by decide +kernel
theorem dX7_growCrops_9 : decode cX7_growCrops 9 = .ok (.iconst 3, 1) := by decide +kernel
theorem dX7_growCrops_10 : decode cX7_growCrops 10 = .ok (.invokevirtual 41, 3) := by decide +kernel
theorem dX7_growCrops_13 : decode cX7_growCrops 13 = .ok (.istore_n 3, 1) := by decide +kernel
theorem dX7_growCrops_14 : decode cX7_growCrops 14 = .ok (.aload_n 0, 1) := by decide +kernel
theorem dX7_growCrops_15 : decode cX7_growCrops 15 = .ok (.bipush 10, 2) := by decide +kernel
theorem dX7_growCrops_17 : decode cX7_growCrops 17 = .ok (.invokevirtual 30, 3) := by decide +kernel
theorem dX7_growCrops_20 : decode cX7_growCrops 20 = .ok (.istore 4, 2) := by decide +kernel
theorem dX7_growCrops_22 : decode cX7_growCrops 22 = .ok (.iconst 0, 1) := by decide +kernel
theorem dX7_growCrops_23 : decode cX7_growCrops 23 = .ok (.istore 5, 2) := by decide +kernel
theorem dX7_growCrops_25 : decode cX7_growCrops 25 = .ok (.iconst 0, 1) := by decide +kernel
theorem dX7_growCrops_26 : decode cX7_growCrops 26 = .ok (.istore 6, 2) := by decide +kernel
theorem dX7_growCrops_28 : decode cX7_growCrops 28 = .ok (.iload 6, 2) := by decide +kernel
theorem dX7_growCrops_30 : decode cX7_growCrops 30 = .ok (.iload 4, 2) := by decide +kernel
theorem dX7_growCrops_32 : decode cX7_growCrops 32 = .ok (.if_icmp .ge 145, 3) := by decide +kernel
theorem dX7_growCrops_35 : decode cX7_growCrops 35 = .ok (.aload_n 0, 1) := by decide +kernel
theorem dX7_growCrops_36 : decode cX7_growCrops 36 = .ok (.iload 6, 2) := by decide +kernel
theorem dX7_growCrops_38 : decode cX7_growCrops 38 = .ok (.iconst 5, 1) := by decide +kernel
theorem dX7_growCrops_39 : decode cX7_growCrops 39 = .ok (.invokevirtual 70, 3) := by decide +kernel
theorem dX7_growCrops_42 : decode cX7_growCrops 42 = .ok (.ifCond .ne 129, 3) := by decide +kernel
theorem dX7_growCrops_45 : decode cX7_growCrops 45 = .ok (.sipush 999, 3) := by decide +kernel
theorem dX7_growCrops_48 : decode cX7_growCrops 48 = .ok (.aload_n 0, 1) := by decide +kernel
theorem dX7_growCrops_49 : decode cX7_growCrops 49 = .ok (.iload 6, 2) := by decide +kernel
theorem dX7_growCrops_51 : decode cX7_growCrops 51 = .ok (.iconst 3, 1) := by decide +kernel
theorem dX7_growCrops_52 : decode cX7_growCrops 52 = .ok (.invokevirtual 70, 3) := by decide +kernel
theorem dX7_growCrops_55 : decode cX7_growCrops 55 = .ok (.iload_n 2, 1) := by decide +kernel
theorem dX7_growCrops_56 : decode cX7_growCrops 56 = .ok (.iadd, 1) := by decide +kernel
theorem dX7_growCrops_57 : decode cX7_growCrops 57 = .ok (.invokestatic 44, 3) := by decide +kernel
theorem dX7_growCrops_60 : decode cX7_growCrops 60 = .ok (.istore 7, 2) := by decide +kernel
theorem dX7_growCrops_62 : decode cX7_growCrops 62 = .ok (.sipush 999, 3) := by decide +kernel
theorem dX7_growCrops_65 : decode cX7_growCrops 65 = .ok (.aload_n 0, 1) := by decide +kernel
theorem dX7_growCrops_66 : decode cX7_growCrops 66 = .ok (.iload 6, 2) := by decide +kernel
theorem dX7_growCrops_68 : decode cX7_growCrops 68 = .ok (.iconst 4, 1) := by decide +kernel
theorem dX7_growCrops_69 : decode cX7_growCrops 69 = .ok (.invokevirtual 70, 3) := by decide +kernel
theorem dX7_growCrops_72 : decode cX7_growCrops 72 = .ok (.iload_n 3, 1) := by decide +kernel
theorem dX7_growCrops_73 : decode cX7_growCrops 73 = .ok (.iadd, 1) := by decide +kernel
theorem dX7_growCrops_74 : decode cX7_growCrops 74 = .ok (.invokestatic 44, 3) := by decide +kernel
theorem dX7_growCrops_77 : decode cX7_growCrops 77 = .ok (.istore 8, 2) := by decide +kernel
theorem dX7_growCrops_79 : decode cX7_growCrops 79 = .ok (.aload_n 0, 1) := by decide +kernel
theorem dX7_growCrops_80 : decode cX7_growCrops 80 = .ok (.iload 6, 2) := by decide +kernel
theorem dX7_growCrops_82 : decode cX7_growCrops 82 = .ok (.iconst 3, 1) := by decide +kernel
theorem dX7_growCrops_83 : decode cX7_growCrops 83 = .ok (.invokestatic 38, 3) := by decide +kernel
theorem dX7_growCrops_86 : decode cX7_growCrops 86 = .ok (.iload 7, 2) := by decide +kernel
theorem dX7_growCrops_88 : decode cX7_growCrops 88 = .ok (.invokevirtual 26, 3) := by decide +kernel
theorem dX7_growCrops_91 : decode cX7_growCrops 91 = .ok (.aload_n 0, 1) := by decide +kernel
theorem dX7_growCrops_92 : decode cX7_growCrops 92 = .ok (.iload 6, 2) := by decide +kernel
theorem dX7_growCrops_94 : decode cX7_growCrops 94 = .ok (.iconst 4, 1) := by decide +kernel
theorem dX7_growCrops_95 : decode cX7_growCrops 95 = .ok (.invokestatic 38, 3) := by decide +kernel
theorem dX7_growCrops_98 : decode cX7_growCrops 98 = .ok (.iload 8, 2) := by decide +kernel
theorem dX7_growCrops_100 : decode cX7_growCrops 100 = .ok (.invokevirtual 26, 3) := by decide +kernel
theorem dX7_growCrops_103 : decode cX7_growCrops 103 = .ok (.iload 7, 2) := by decide +kernel
theorem dX7_growCrops_105 : decode cX7_growCrops 105 = .ok (.aload_n 0, 1) := by decide +kernel
theorem dX7_growCrops_106 : decode cX7_growCrops 106 = .ok (.iload 6, 2) := by decide +kernel
theorem dX7_growCrops_108 : decode cX7_growCrops 108 = .ok (.iconst 0, 1) := by decide +kernel
theorem dX7_growCrops_109 : decode cX7_growCrops 109 = .ok (.invokevirtual 70, 3) := by decide +kernel
theorem dX7_growCrops_112 : decode cX7_growCrops 112 = .ok (.if_icmp .lt 59, 3) := by decide +kernel
theorem dX7_growCrops_115 : decode cX7_growCrops 115 = .ok (.iload 8, 2) := by decide +kernel
theorem dX7_growCrops_117 : decode cX7_growCrops 117 = .ok (.aload_n 0, 1) := by decide +kernel
theorem dX7_growCrops_118 : decode cX7_growCrops 118 = .ok (.iload 6, 2) := by decide +kernel
theorem dX7_growCrops_120 : decode cX7_growCrops 120 = .ok (.iconst 1, 1) := by decide +kernel
theorem dX7_growCrops_121 : decode cX7_growCrops 121 = .ok (.invokevirtual 70, 3) := by decide +kernel
theorem dX7_growCrops_124 : decode cX7_growCrops 124 = .ok (.if_icmp .lt 47, 3) := by decide +kernel
theorem dX7_growCrops_127 : decode cX7_growCrops 127 = .ok (.aload_n 0, 1) := by decide +kernel
theorem dX7_growCrops_128 : decode cX7_growCrops 128 = .ok (.iload 6, 2) := by decide +kernel
theorem dX7_growCrops_130 : decode cX7_growCrops 130 = .ok (.iconst 5, 1) := by decide +kernel
theorem dX7_growCrops_131 : decode cX7_growCrops 131 = .ok (.invokestatic 38, 3) := by decide +kernel
theorem dX7_growCrops_134 : decode cX7_growCrops 134 = .ok (.iconst 1, 1) := by decide +kernel
theorem dX7_growCrops_135 : decode cX7_growCrops 135 = .ok (.invokevirtual 26, 3) := by decide +kernel
theorem dX7_growCrops_138 : decode cX7_growCrops 138 = .ok (.aload_n 0, 1) := by decide +kernel
theorem dX7_growCrops_139 : decode cX7_growCrops 139 = .ok (.iconst 3, 1) := by decide +kernel
theorem dX7_growCrops_140 : decode cX7_growCrops 140 = .ok (.sipush 999, 3) := by decide +kernel
theorem dX7_growCrops_143 : decode cX7_growCrops 143 = .ok (.aload_n 0, 1) := by decide +kernel
theorem dX7_growCrops_144 : decode cX7_growCrops 144 = .ok (.iconst 3, 1) := by decide +kernel
theorem dX7_growCrops_145 : decode cX7_growCrops 145 = .ok (.invokevirtual 30, 3) := by decide +kernel
theorem dX7_growCrops_148 : decode cX7_growCrops 148 = .ok (.aload_n 0, 1) := by decide +kernel
theorem dX7_growCrops_149 : decode cX7_growCrops 149 = .ok (.iload 6, 2) := by decide +kernel
theorem dX7_growCrops_151 : decode cX7_growCrops 151 = .ok (.iconst 2, 1) := by decide +kernel
theorem dX7_growCrops_152 : decode cX7_growCrops 152 = .ok (.invokevirtual 70, 3) := by decide +kernel
theorem dX7_growCrops_155 : decode cX7_growCrops 155 = .ok (.iadd, 1) := by decide +kernel
theorem dX7_growCrops_156 : decode cX7_growCrops 156 = .ok (.invokestatic 44, 3) := by decide +kernel
theorem dX7_growCrops_159 : decode cX7_growCrops 159 = .ok (.invokevirtual 26, 3) := by decide +kernel
theorem dX7_growCrops_162 : decode cX7_growCrops 162 = .ok (.iload 5, 2) := by decide +kernel
theorem dX7_growCrops_164 : decode cX7_growCrops 164 = .ok (.iconst 1, 1) := by decide +kernel
theorem dX7_growCrops_165 : decode cX7_growCrops 165 = .ok (.iload 6, 2) := by decide +kernel
theorem dX7_growCrops_167 : decode cX7_growCrops 167 = .ok (.ishl, 1) := by decide +kernel
theorem dX7_growCrops_168 : decode cX7_growCrops 168 = .ok (.ior, 1) := by decide +kernel
theorem dX7_growCrops_169 : decode cX7_growCrops 169 = .ok (.istore 5, 2) := by decide +kernel
theorem dX7_growCrops_171 : decode cX7_growCrops 171 = .ok (.iinc 6 1, 3) := by decide +kernel
theorem dX7_growCrops_174 : decode cX7_growCrops 174 = .ok (.goto (-146), 3) := by decide +kernel
theorem dX7_growCrops_177 : decode cX7_growCrops 177 = .ok (.iload 5, 2) := by decide +kernel
theorem dX7_growCrops_179 : decode cX7_growCrops 179 = .ok (.ireturn, 1) := by decide +kernel
theorem dX7_eatHay_0 : decode cX7_eatHay 0 = .ok (.aload_n 0, 1) := by decide +kernel
theorem dX7_eatHay_1 : decode cX7_eatHay 1 = .ok (.iconst 1, 1) := by decide +kernel
theorem dX7_eatHay_2 : decode cX7_eatHay 2 = .ok (.invokevirtual 30, 3) := by decide +kernel
theorem dX7_eatHay_5 : decode cX7_eatHay 5 = .ok (.aload_n 0, 1) := by decide +kernel
theorem dX7_eatHay_6 : decode cX7_eatHay 6 = .ok (.iconst 2, 1) := by decide +kernel
theorem dX7_eatHay_7 : decode cX7_eatHay 7 = .ok (.invokevirtual 30, 3) := by decide +kernel
theorem dX7_eatHay_10 : decode cX7_eatHay 10 = .ok (.isub, 1) := by decide +kernel
theorem dX7_eatHay_11 : decode cX7_eatHay 11 = .ok (.istore_n 1, 1) := by decide +kernel
theorem dX7_eatHay_12 : decode cX7_eatHay 12 = .ok (.aload_n 0, 1) := by decide +kernel
theorem dX7_eatHay_13 : decode cX7_eatHay 13 = .ok (.iconst 0, 1) := by decide +kernel
theorem dX7_eatHay_14 : decode cX7_eatHay 14 = .ok (.invokevirtual 30, 3) := by decide +kernel
theorem dX7_eatHay_17 : decode cX7_eatHay 17 = .ok (.iconst 1, 1) := by decide +kernel
theorem dX7_eatHay_18 : decode cX7_eatHay 18 = .ok (.if_icmp .ge 4, 3) := by decide +kernel
theorem dX7_eatHay_21 : decode cX7_eatHay 21 = .ok (.return_, 1) := by decide +kernel
theorem dX7_eatHay_22 : decode cX7_eatHay 22 = .ok (.aload_n 0, 1) := by decide +kernel
theorem dX7_eatHay_23 : decode cX7_eatHay 23 = .ok (.iconst 1, 1) := by decide +kernel
theorem dX7_eatHay_24 : decode cX7_eatHay 24 = .ok (.iconst 0, 1) := by decide +kernel
theorem dX7_eatHay_25 : decode cX7_eatHay 25 = .ok (.iload_n 1, 1) := by decide +kernel
theorem dX7_eatHay_26 : decode cX7_eatHay 26 = .ok (.invokestatic 73, 3) := by decide +kernel
theorem dX7_eatHay_29 : decode cX7_eatHay 29 = .ok (.invokevirtual 26, 3) := by decide +kernel
theorem dX7_eatHay_32 : decode cX7_eatHay 32 = .ok (.iload_n 1, 1) := by decide +kernel
theorem dX7_eatHay_33 : decode cX7_eatHay 33 = .ok (.ifCond .ge 9, 3) := by decide +kernel
theorem dX7_eatHay_36 : decode cX7_eatHay 36 = .ok (.aload_n 0, 1) := by decide +kernel
theorem dX7_eatHay_37 : decode cX7_eatHay 37 = .ok (.iconst 0, 1) := by decide +kernel
theorem dX7_eatHay_38 : decode cX7_eatHay 38 = .ok (.iconst (-1), 1) := by decide +kernel
theorem dX7_eatHay_39 : decode cX7_eatHay 39 = .ok (.invokevirtual 49, 3) := by decide +kernel
theorem dX7_eatHay_42 : decode cX7_eatHay 42 = .ok (.return_, 1) := by decide +kernel
theorem dX7_writeLog_0 : decode cX7_writeLog 0 = .ok (.aload_n 0, 1) := by decide +kernel
theorem dX7_writeLog_1 : decode cX7_writeLog 1 = .ok (.bipush 12, 2) := by decide +kernel
theorem dX7_writeLog_3 : decode cX7_writeLog 3 = .ok (.invokevirtual 30, 3) := by decide +kernel
theorem dX7_writeLog_6 : decode cX7_writeLog 6 = .ok (.istore_n 3, 1) := by decide +kernel
theorem dX7_writeLog_7 : decode cX7_writeLog 7 = .ok (.aload_n 0, 1) := by decide +kernel
theorem dX7_writeLog_8 : decode cX7_writeLog 8 = .ok (.bipush 83, 2) := by decide +kernel
theorem dX7_writeLog_10 : decode cX7_writeLog 10 = .ok (.iload_n 3, 1) := by decide +kernel
theorem dX7_writeLog_11 : decode cX7_writeLog 11 = .ok (.iadd, 1) := by decide +kernel
theorem dX7_writeLog_12 : decode cX7_writeLog 12 = .ok (.aload_n 0, 1) := by decide +kernel
theorem dX7_writeLog_13 : decode cX7_writeLog 13 = .ok (.iconst 5, 1) := by decide +kernel
theorem dX7_writeLog_14 : decode cX7_writeLog 14 = .ok (.invokevirtual 30, 3) := by decide +kernel
theorem dX7_writeLog_17 : decode cX7_writeLog 17 = .ok (.bipush 15, 2) := by decide +kernel
theorem dX7_writeLog_19 : decode cX7_writeLog 19 = .ok (.ishl, 1) := by decide +kernel
theorem dX7_writeLog_20 : decode cX7_writeLog 20 = .ok (.aload_n 0, 1) := by decide +kernel
theorem dX7_writeLog_21 : decode cX7_writeLog 21 = .ok (.bipush 6, 2) := by decide +kernel
theorem dX7_writeLog_23 : decode cX7_writeLog 23 = .ok (.invokevirtual 30, 3) := by decide +kernel
theorem dX7_writeLog_26 : decode cX7_writeLog 26 = .ok (.bipush 10, 2) := by decide +kernel
theorem dX7_writeLog_28 : decode cX7_writeLog 28 = .ok (.ishl, 1) := by decide +kernel
theorem dX7_writeLog_29 : decode cX7_writeLog 29 = .ok (.ior, 1) := by decide +kernel
theorem dX7_writeLog_30 : decode cX7_writeLog 30 = .ok (.iload_n 1, 1) := by decide +kernel
theorem dX7_writeLog_31 : decode cX7_writeLog 31 = .ok (.iconst 5, 1) := by decide +kernel
theorem dX7_writeLog_32 : decode cX7_writeLog 32 = .ok (.ishl, 1) := by decide +kernel
theorem dX7_writeLog_33 : decode cX7_writeLog 33 = .ok (.ior, 1) := by decide +kernel
theorem dX7_writeLog_34 : decode cX7_writeLog 34 = .ok (.iload_n 2, 1) := by decide +kernel
theorem dX7_writeLog_35 : decode cX7_writeLog 35 = .ok (.ior, 1) := by decide +kernel
theorem dX7_writeLog_36 : decode cX7_writeLog 36 = .ok (.invokevirtual 26, 3) := by decide +kernel
theorem dX7_writeLog_39 : decode cX7_writeLog 39 = .ok (.aload_n 0, 1) := by decide +kernel
theorem dX7_writeLog_40 : decode cX7_writeLog 40 = .ok (.bipush 12, 2) := by decide +kernel
theorem dX7_writeLog_42 : decode cX7_writeLog 42 = .ok (.iload_n 3, 1) := by decide +kernel
theorem dX7_writeLog_43 : decode cX7_writeLog 43 = .ok (.iconst 1, 1) := by decide +kernel
theorem dX7_writeLog_44 : decode cX7_writeLog 44 = .ok (.iadd, 1) := by decide +kernel
theorem dX7_writeLog_45 : decode cX7_writeLog 45 = .ok (.bipush 60, 2) := by decide +kernel
theorem dX7_writeLog_47 : decode cX7_writeLog 47 = .ok (.irem, 1) := by decide +kernel
theorem dX7_writeLog_48 : decode cX7_writeLog 48 = .ok (.invokevirtual 26, 3) := by decide +kernel
theorem dX7_writeLog_51 : decode cX7_writeLog 51 = .ok (.aload_n 0, 1) := by decide +kernel
theorem dX7_writeLog_52 : decode cX7_writeLog 52 = .ok (.bipush 11, 2) := by decide +kernel
theorem dX7_writeLog_54 : decode cX7_writeLog 54 = .ok (.bipush 60, 2) := by decide +kernel
theorem dX7_writeLog_56 : decode cX7_writeLog 56 = .ok (.aload_n 0, 1) := by decide +kernel
theorem dX7_writeLog_57 : decode cX7_writeLog 57 = .ok (.bipush 11, 2) := by decide +kernel
theorem dX7_writeLog_59 : decode cX7_writeLog 59 = .ok (.invokevirtual 30, 3) := by decide +kernel
theorem dX7_writeLog_62 : decode cX7_writeLog 62 = .ok (.iconst 1, 1) := by decide +kernel
theorem dX7_writeLog_63 : decode cX7_writeLog 63 = .ok (.iadd, 1) := by decide +kernel
theorem dX7_writeLog_64 : decode cX7_writeLog 64 = .ok (.invokestatic 44, 3) := by decide +kernel
theorem dX7_writeLog_67 : decode cX7_writeLog 67 = .ok (.invokevirtual 26, 3) := by decide +kernel
theorem dX7_writeLog_70 : decode cX7_writeLog 70 = .ok (.return_, 1) := by decide +kernel
theorem dX7_logged_0 : decode cX7_logged 0 = .ok (.aload_n 0, 1) := by decide +kernel
theorem dX7_logged_1 : decode cX7_logged 1 = .ok (.bipush 83, 2) := by decide +kernel
theorem dX7_logged_3 : decode cX7_logged 3 = .ok (.aload_n 0, 1) := by decide +kernel
theorem dX7_logged_4 : decode cX7_logged 4 = .ok (.bipush 12, 2) := by decide +kernel
theorem dX7_logged_6 : decode cX7_logged 6 = .ok (.invokevirtual 30, 3) := by decide +kernel
theorem dX7_logged_9 : decode cX7_logged 9 = .ok (.bipush 60, 2) := by decide +kernel
theorem dX7_logged_11 : decode cX7_logged 11 = .ok (.iadd, 1) := by decide +kernel
theorem dX7_logged_12 : decode cX7_logged 12 = .ok (.iconst 1, 1) := by decide +kernel
theorem dX7_logged_13 : decode cX7_logged 13 = .ok (.isub, 1) := by decide +kernel
theorem dX7_logged_14 : decode cX7_logged 14 = .ok (.iload_n 1, 1) := by decide +kernel
theorem dX7_logged_15 : decode cX7_logged 15 = .ok (.isub, 1) := by decide +kernel
theorem dX7_logged_16 : decode cX7_logged 16 = .ok (.bipush 60, 2) := by decide +kernel
theorem dX7_logged_18 : decode cX7_logged 18 = .ok (.irem, 1) := by decide +kernel
theorem dX7_logged_19 : decode cX7_logged 19 = .ok (.iadd, 1) := by decide +kernel
theorem dX7_logged_20 : decode cX7_logged 20 = .ok (.invokevirtual 30, 3) := by decide +kernel
theorem dX7_logged_23 : decode cX7_logged 23 = .ok (.istore_n 3, 1) := by decide +kernel
theorem dX7_logged_24 : decode cX7_logged 24 = .ok (.iload_n 3, 1) := by decide +kernel
theorem dX7_logged_25 : decode cX7_logged 25 = .ok (.iconst 3, 1) := by decide +kernel
theorem dX7_logged_26 : decode cX7_logged 26 = .ok (.iload_n 2, 1) := by decide +kernel
theorem dX7_logged_27 : decode cX7_logged 27 = .ok (.isub, 1) := by decide +kernel
theorem dX7_logged_28 : decode cX7_logged 28 = .ok (.iconst 5, 1) := by decide +kernel
theorem dX7_logged_29 : decode cX7_logged 29 = .ok (.imul, 1) := by decide +kernel
theorem dX7_logged_30 : decode cX7_logged 30 = .ok (.ishr, 1) := by decide +kernel
theorem dX7_logged_31 : decode cX7_logged 31 = .ok (.bipush 31, 2) := by decide +kernel
theorem dX7_logged_33 : decode cX7_logged 33 = .ok (.iand, 1) := by decide +kernel
theorem dX7_logged_34 : decode cX7_logged 34 = .ok (.ireturn, 1) := by decide +kernel
theorem dX7_came_0 : decode cX7_came 0 = .ok (.aload_n 0, 1) := by decide +kernel
theorem dX7_came_1 : decode cX7_came 1 = .ok (.getfield 15, 3) := by decide +kernel
theorem dX7_came_4 : decode cX7_came 4 = .ok (.iload_n 1, 1) := by decide +kernel
theorem dX7_came_5 : decode cX7_came 5 = .ok (.invokestatic 18, 3) := by decide +kernel
theorem dX7_came_8 : decode cX7_came 8 = .ok (.ireturn, 1) := by decide +kernel
theorem dX7_daysOfYear_0 : decode cX7_daysOfYear 0 = .ok (.iconst 0, 1) := by decide +kernel
theorem dX7_daysOfYear_1 : decode cX7_daysOfYear 1 = .ok (.istore_n 1, 1) := by decide +kernel
theorem dX7_daysOfYear_2 : decode cX7_daysOfYear 2 = .ok (.iconst 0, 1) := by decide +kernel
theorem dX7_daysOfYear_3 : decode cX7_daysOfYear 3 = .ok (.istore_n 2, 1) := by decide +kernel
theorem dX7_daysOfYear_4 : decode cX7_daysOfYear 4 = .ok (.iload_n 2, 1) := by decide +kernel
theorem dX7_daysOfYear_5 : decode cX7_daysOfYear 5 = .ok (.aload_n 0, 1) := by decide +kernel
theorem dX7_daysOfYear_6 : decode cX7_daysOfYear 6 = .ok (.bipush 9, 2) := by decide +kernel
theorem dX7_daysOfYear_8 : decode cX7_daysOfYear 8 = .ok (.invokevirtual 30, 3) := by decide +kernel
theorem dX7_daysOfYear_11 : decode cX7_daysOfYear 11 = .ok (.if_icmp .ge 18, 3) := by decide +kernel
theorem dX7_daysOfYear_14 : decode cX7_daysOfYear 14 = .ok (.iload_n 1, 1) := by decide +kernel
theorem dX7_daysOfYear_15 : decode cX7_daysOfYear 15 = .ok (.aload_n 0, 1) := by decide +kernel
theorem dX7_daysOfYear_16 : decode cX7_daysOfYear 16 = .ok (.iload_n 2, 1) := by decide +kernel
theorem dX7_daysOfYear_17 : decode cX7_daysOfYear 17 = .ok (.iconst 0, 1) := by decide +kernel
theorem dX7_daysOfYear_18 : decode cX7_daysOfYear 18 = .ok (.invokevirtual 41, 3) := by decide +kernel
theorem dX7_daysOfYear_21 : decode cX7_daysOfYear 21 = .ok (.iadd, 1) := by decide +kernel
theorem dX7_daysOfYear_22 : decode cX7_daysOfYear 22 = .ok (.istore_n 1, 1) := by decide +kernel
theorem dX7_daysOfYear_23 : decode cX7_daysOfYear 23 = .ok (.iinc 2 1, 3) := by decide +kernel
theorem dX7_daysOfYear_26 : decode cX7_daysOfYear 26 = .ok (.goto (-22), 3) := by decide +kernel
theorem dX7_daysOfYear_29 : decode cX7_daysOfYear 29 = .ok (.iload_n 1, 1) := by decide +kernel
theorem dX7_daysOfYear_30 : decode cX7_daysOfYear 30 = .ok (.ireturn, 1) := by decide +kernel
theorem dX7_firstLevel_0 : decode cX7_firstLevel 0 = .ok (.aload_n 0, 1) := by decide +kernel
theorem dX7_firstLevel_1 : decode cX7_firstLevel 1 = .ok (.iload_n 1, 1) := by decide +kernel
theorem dX7_firstLevel_2 : decode cX7_firstLevel 2 = .ok (.iconst 4, 1) := by decide +kernel
theorem dX7_firstLevel_3 : decode cX7_firstLevel 3 = .ok (.invokevirtual 41, 3) := by decide +kernel
theorem dX7_firstLevel_6 : decode cX7_firstLevel 6 = .ok (.istore_n 3, 1) := by decide +kernel
theorem dX7_firstLevel_7 : decode cX7_firstLevel 7 = .ok (.aload_n 0, 1) := by decide +kernel
theorem dX7_firstLevel_8 : decode cX7_firstLevel 8 = .ok (.iload_n 2, 1) := by decide +kernel
theorem dX7_firstLevel_9 : decode cX7_firstLevel 9 = .ok (.iconst 4, 1) := by decide +kernel
theorem dX7_firstLevel_10 : decode cX7_firstLevel 10 = .ok (.invokevirtual 41, 3) := by decide +kernel
theorem dX7_firstLevel_13 : decode cX7_firstLevel 13 = .ok (.istore 4, 2) := by decide +kernel
theorem dX7_firstLevel_15 : decode cX7_firstLevel 15 = .ok (.iload_n 3, 1) := by decide +kernel
theorem dX7_firstLevel_16 : decode cX7_firstLevel 16 = .ok (.iconst 1, 1) := by decide +kernel
theorem dX7_firstLevel_17 : decode cX7_firstLevel 17 = .ok (.if_icmp .lt 9, 3) := by decide +kernel
theorem dX7_firstLevel_20 : decode cX7_firstLevel 20 = .ok (.iload 4, 2) := by decide +kernel
theorem dX7_firstLevel_22 : decode cX7_firstLevel 22 = .ok (.iconst 1, 1) := by decide +kernel
theorem dX7_firstLevel_23 : decode cX7_firstLevel 23 = .ok (.if_icmp .ge 5, 3) := by decide +kernel
theorem dX7_firstLevel_26 : decode cX7_firstLevel 26 = .ok (.iconst (-1), 1) := by decide +kernel
theorem dX7_firstLevel_27 : decode cX7_firstLevel 27 = .ok (.ireturn, 1) := by decide +kernel
theorem dX7_firstLevel_28 : decode cX7_firstLevel 28 = .ok (.iconst 0, 1) := by decide +kernel
theorem dX7_firstLevel_29 : decode cX7_firstLevel 29 = .ok (.istore 5, 2) := by decide +kernel
theorem dX7_firstLevel_31 : decode cX7_firstLevel 31 = .ok (.iload 5, 2) := by decide +kernel
theorem dX7_firstLevel_33 : decode cX7_firstLevel 33 = .ok (.bipush 100, 2) := by decide +kernel
theorem dX7_firstLevel_35 : decode cX7_firstLevel 35 = .ok (.if_icmp .ge 38, 3) := by decide +kernel
theorem dX7_firstLevel_38 : decode cX7_firstLevel 38 = .ok (.aload_n 0, 1) := by decide +kernel
theorem dX7_firstLevel_39 : decode cX7_firstLevel 39 = .ok (.bipush 7, 2) := by decide +kernel
theorem dX7_firstLevel_41 : decode cX7_firstLevel 41 = .ok (.invokevirtual 30, 3) := by decide +kernel
theorem dX7_firstLevel_44 : decode cX7_firstLevel 44 = .ok (.iload 5, 2) := by decide +kernel
theorem dX7_firstLevel_46 : decode cX7_firstLevel 46 = .ok (.iadd, 1) := by decide +kernel
theorem dX7_firstLevel_47 : decode cX7_firstLevel 47 = .ok (.istore 6, 2) := by decide +kernel
theorem dX7_firstLevel_49 : decode cX7_firstLevel 49 = .ok (.iload 6, 2) := by decide +kernel
theorem dX7_firstLevel_51 : decode cX7_firstLevel 51 = .ok (.iload_n 3, 1) := by decide +kernel
theorem dX7_firstLevel_52 : decode cX7_firstLevel 52 = .ok (.irem, 1) := by decide +kernel
theorem dX7_firstLevel_53 : decode cX7_firstLevel 53 = .ok (.ifCond .ne 14, 3) := by decide +kernel
theorem dX7_firstLevel_56 : decode cX7_firstLevel 56 = .ok (.iload 6, 2) := by decide +kernel
theorem dX7_firstLevel_58 : decode cX7_firstLevel 58 = .ok (.iload 4, 2) := by decide +kernel
theorem dX7_firstLevel_60 : decode cX7_firstLevel 60 = .ok (.irem, 1) := by decide +kernel
theorem dX7_firstLevel_61 : decode cX7_firstLevel 61 = .ok (.ifCond .ne 6, 3) := by decide +kernel
theorem dX7_firstLevel_64 : decode cX7_firstLevel 64 = .ok (.iload 5, 2) := by decide +kernel
theorem dX7_firstLevel_66 : decode cX7_firstLevel 66 = .ok (.ireturn, 1) := by decide +kernel
theorem dX7_firstLevel_67 : decode cX7_firstLevel 67 = .ok (.iinc 5 1, 3) := by decide +kernel
theorem dX7_firstLevel_70 : decode cX7_firstLevel 70 = .ok (.goto (-39), 3) := by decide +kernel
theorem dX7_firstLevel_73 : decode cX7_firstLevel 73 = .ok (.iconst (-1), 1) := by decide +kernel
theorem dX7_firstLevel_74 : decode cX7_firstLevel 74 = .ok (.ireturn, 1) := by decide +kernel
theorem dX7_richest_0 : decode cX7_richest 0 = .ok (.iconst (-1), 1) := by decide +kernel
theorem dX7_richest_1 : decode cX7_richest 1 = .ok (.istore_n 1, 1) := by decide +kernel
theorem dX7_richest_2 : decode cX7_richest 2 = .ok (.iconst (-1), 1) := by decide +kernel
theorem dX7_richest_3 : decode cX7_richest 3 = .ok (.istore_n 2, 1) := by decide +kernel
theorem dX7_richest_4 : decode cX7_richest 4 = .ok (.iconst 0, 1) := by decide +kernel
theorem dX7_richest_5 : decode cX7_richest 5 = .ok (.istore_n 3, 1) := by decide +kernel
theorem dX7_richest_6 : decode cX7_richest 6 = .ok (.iload_n 3, 1) := by decide +kernel
theorem dX7_richest_7 : decode cX7_richest 7 = .ok (.aload_n 0, 1) := by decide +kernel
theorem dX7_richest_8 : decode cX7_richest 8 = .ok (.bipush 9, 2) := by decide +kernel
theorem dX7_richest_10 : decode cX7_richest 10 = .ok (.invokevirtual 30, 3) := by decide +kernel
theorem dX7_richest_13 : decode cX7_richest 13 = .ok (.if_icmp .ge 35, 3) := by decide +kernel
theorem dX7_richest_16 : decode cX7_richest 16 = .ok (.aload_n 0, 1) := by decide +kernel
theorem dX7_richest_17 : decode cX7_richest 17 = .ok (.iload_n 3, 1) := by decide +kernel
theorem dX7_richest_18 : decode cX7_richest 18 = .ok (.iconst 2, 1) := by decide +kernel
theorem dX7_richest_19 : decode cX7_richest 19 = .ok (.invokevirtual 41, 3) := by decide +kernel
theorem dX7_richest_22 : decode cX7_richest 22 = .ok (.aload_n 0, 1) := by decide +kernel
theorem dX7_richest_23 : decode cX7_richest 23 = .ok (.iload_n 3, 1) := by decide +kernel
theorem dX7_richest_24 : decode cX7_richest 24 = .ok (.iconst 3, 1) := by decide +kernel
theorem dX7_richest_25 : decode cX7_richest 25 = .ok (.invokevirtual 41, 3) := by decide +kernel
theorem dX7_richest_28 : decode cX7_richest 28 = .ok (.iadd, 1) := by decide +kernel
theorem dX7_richest_29 : decode cX7_richest 29 = .ok (.istore 4, 2) := by decide +kernel
theorem dX7_richest_31 : decode cX7_richest 31 = .ok (.iload 4, 2) := by decide +kernel
theorem dX7_richest_33 : decode cX7_richest 33 = .ok (.iload_n 2, 1) := by decide +kernel
theorem dX7_richest_34 : decode cX7_richest 34 = .ok (.if_icmp .le 8, 3) := by decide +kernel
theorem dX7_richest_37 : decode cX7_richest 37 = .ok (.iload 4, 2) := by decide +kernel
theorem dX7_richest_39 : decode cX7_richest 39 = .ok (.istore_n 2, 1) := by decide +kernel
theorem dX7_richest_40 : decode cX7_richest 40 = .ok (.iload_n 3, 1) := by decide +kernel
theorem dX7_richest_41 : decode cX7_richest 41 = .ok (.istore_n 1, 1) := by decide +kernel
theorem dX7_richest_42 : decode cX7_richest 42 = .ok (.iinc 3 1, 3) := by decide +kernel
theorem dX7_richest_45 : decode cX7_richest 45 = .ok (.goto (-39), 3) := by decide +kernel
theorem dX7_richest_48 : decode cX7_richest 48 = .ok (.iload_n 1, 1) := by decide +kernel
theorem dX7_richest_49 : decode cX7_richest 49 = .ok (.ireturn, 1) := by decide +kernel
theorem dX7_driest_0 : decode cX7_driest 0 = .ok (.iconst (-1), 1) := by decide +kernel
theorem dX7_driest_1 : decode cX7_driest 1 = .ok (.istore_n 1, 1) := by decide +kernel
theorem dX7_driest_2 : decode cX7_driest 2 = .ok (.bipush 10, 2) := by decide +kernel
theorem dX7_driest_4 : decode cX7_driest 4 = .ok (.istore_n 2, 1) := by decide +kernel
theorem dX7_driest_5 : decode cX7_driest 5 = .ok (.iconst 0, 1) := by decide +kernel
theorem dX7_driest_6 : decode cX7_driest 6 = .ok (.istore_n 3, 1) := by decide +kernel
theorem dX7_driest_7 : decode cX7_driest 7 = .ok (.iload_n 3, 1) := by decide +kernel
theorem dX7_driest_8 : decode cX7_driest 8 = .ok (.aload_n 0, 1) := by decide +kernel
theorem dX7_driest_9 : decode cX7_driest 9 = .ok (.bipush 9, 2) := by decide +kernel
theorem dX7_driest_11 : decode cX7_driest 11 = .ok (.invokevirtual 30, 3) := by decide +kernel
theorem dX7_driest_14 : decode cX7_driest 14 = .ok (.if_icmp .ge 28, 3) := by decide +kernel
theorem dX7_driest_17 : decode cX7_driest 17 = .ok (.aload_n 0, 1) := by decide +kernel
theorem dX7_driest_18 : decode cX7_driest 18 = .ok (.iload_n 3, 1) := by decide +kernel
theorem dX7_driest_19 : decode cX7_driest 19 = .ok (.iconst 3, 1) := by decide +kernel
theorem dX7_driest_20 : decode cX7_driest 20 = .ok (.invokevirtual 41, 3) := by decide +kernel
theorem dX7_driest_23 : decode cX7_driest 23 = .ok (.iload_n 2, 1) := by decide +kernel
theorem dX7_driest_24 : decode cX7_driest 24 = .ok (.if_icmp .ge 12, 3) := by decide +kernel
theorem dX7_driest_27 : decode cX7_driest 27 = .ok (.aload_n 0, 1) := by decide +kernel
theorem dX7_driest_28 : decode cX7_driest 28 = .ok (.iload_n 3, 1) := by decide +kernel
theorem dX7_driest_29 : decode cX7_driest 29 = .ok (.iconst 3, 1) := by decide +kernel
theorem dX7_driest_30 : decode cX7_driest 30 = .ok (.invokevirtual 41, 3) := by decide +kernel
theorem dX7_driest_33 : decode cX7_driest 33 = .ok (.istore_n 2, 1) := by decide +kernel
theorem dX7_driest_34 : decode cX7_driest 34 = .ok (.iload_n 3, 1) := by decide +kernel
theorem dX7_driest_35 : decode cX7_driest 35 = .ok (.istore_n 1, 1) := by decide +kernel
theorem dX7_driest_36 : decode cX7_driest 36 = .ok (.iinc 3 1, 3) := by decide +kernel
theorem dX7_driest_39 : decode cX7_driest 39 = .ok (.goto (-32), 3) := by decide +kernel
theorem dX7_driest_42 : decode cX7_driest 42 = .ok (.iload_n 1, 1) := by decide +kernel
theorem dX7_driest_43 : decode cX7_driest 43 = .ok (.ireturn, 1) := by decide +kernel
theorem dX7_neediest_0 : decode cX7_neediest 0 = .ok (.iconst (-1), 1) := by decide +kernel
theorem dX7_neediest_1 : decode cX7_neediest 1 = .ok (.istore_n 1, 1) := by decide +kernel
theorem dX7_neediest_2 : decode cX7_neediest 2 = .ok (.iconst (-1), 1) := by decide +kernel
theorem dX7_neediest_3 : decode cX7_neediest 3 = .ok (.istore_n 2, 1) := by decide +kernel
theorem dX7_neediest_4 : decode cX7_neediest 4 = .ok (.iconst 0, 1) := by decide +kernel
theorem dX7_neediest_5 : decode cX7_neediest 5 = .ok (.istore_n 3, 1) := by decide +kernel
theorem dX7_neediest_6 : decode cX7_neediest 6 = .ok (.iload_n 3, 1) := by decide +kernel
theorem dX7_neediest_7 : decode cX7_neediest 7 = .ok (.aload_n 0, 1) := by decide +kernel
theorem dX7_neediest_8 : decode cX7_neediest 8 = .ok (.bipush 10, 2) := by decide +kernel
theorem dX7_neediest_10 : decode cX7_neediest 10 = .ok (.invokevirtual 30, 3) := by decide +kernel
theorem dX7_neediest_13 : decode cX7_neediest 13 = .ok (.if_icmp .ge 73, 3) := by decide +kernel
theorem dX7_neediest_16 : decode cX7_neediest 16 = .ok (.iconst 0, 1) := by decide +kernel
theorem dX7_neediest_17 : decode cX7_neediest 17 = .ok (.aload_n 0, 1) := by decide +kernel
theorem dX7_neediest_18 : decode cX7_neediest 18 = .ok (.iload_n 3, 1) := by decide +kernel
theorem dX7_neediest_19 : decode cX7_neediest 19 = .ok (.iconst 0, 1) := by decide +kernel
theorem dX7_neediest_20 : decode cX7_neediest 20 = .ok (.invokevirtual 70, 3) := by decide +kernel
theorem dX7_neediest_23 : decode cX7_neediest 23 = .ok (.aload_n 0, 1) := by decide +kernel
theorem dX7_neediest_24 : decode cX7_neediest 24 = .ok (.iload_n 3, 1) := by decide +kernel
theorem dX7_neediest_25 : decode cX7_neediest 25 = .ok (.iconst 3, 1) := by decide +kernel
theorem dX7_neediest_26 : decode cX7_neediest 26 = .ok (.invokevirtual 70, 3) := by decide +kernel
theorem dX7_neediest_29 : decode cX7_neediest 29 = .ok (.isub, 1) := by decide +kernel
theorem dX7_neediest_30 : decode cX7_neediest 30 = .ok (.invokestatic 73, 3) := by decide +kernel
theorem dX7_neediest_33 : decode cX7_neediest 33 = .ok (.istore 4, 2) := by decide +kernel
theorem dX7_neediest_35 : decode cX7_neediest 35 = .ok (.iconst 0, 1) := by decide +kernel
theorem dX7_neediest_36 : decode cX7_neediest 36 = .ok (.aload_n 0, 1) := by decide +kernel
theorem dX7_neediest_37 : decode cX7_neediest 37 = .ok (.iload_n 3, 1) := by decide +kernel
theorem dX7_neediest_38 : decode cX7_neediest 38 = .ok (.iconst 1, 1) := by decide +kernel
theorem dX7_neediest_39 : decode cX7_neediest 39 = .ok (.invokevirtual 70, 3) := by decide +kernel
theorem dX7_neediest_42 : decode cX7_neediest 42 = .ok (.aload_n 0, 1) := by decide +kernel
theorem dX7_neediest_43 : decode cX7_neediest 43 = .ok (.iload_n 3, 1) := by decide +kernel
theorem dX7_neediest_44 : decode cX7_neediest 44 = .ok (.iconst 4, 1) := by decide +kernel
theorem dX7_neediest_45 : decode cX7_neediest 45 = .ok (.invokevirtual 70, 3) := by decide +kernel
theorem dX7_neediest_48 : decode cX7_neediest 48 = .ok (.isub, 1) := by decide +kernel
theorem dX7_neediest_49 : decode cX7_neediest 49 = .ok (.invokestatic 73, 3) := by decide +kernel
theorem dX7_neediest_52 : decode cX7_neediest 52 = .ok (.istore 5, 2) := by decide +kernel
theorem dX7_neediest_54 : decode cX7_neediest 54 = .ok (.aload_n 0, 1) := by decide +kernel
theorem dX7_neediest_55 : decode cX7_neediest 55 = .ok (.iload_n 3, 1) := by decide +kernel
theorem dX7_neediest_56 : decode cX7_neediest 56 = .ok (.iconst 5, 1) := by decide +kernel
theorem dX7_neediest_57 : decode cX7_neediest 57 = .ok (.invokevirtual 70, 3) := by decide +kernel
theorem dX7_neediest_60 : decode cX7_neediest 60 = .ok (.ifCond .ne 20, 3) := by decide +kernel
theorem dX7_neediest_63 : decode cX7_neediest 63 = .ok (.iload 4, 2) := by decide +kernel
theorem dX7_neediest_65 : decode cX7_neediest 65 = .ok (.iload 5, 2) := by decide +kernel
theorem dX7_neediest_67 : decode cX7_neediest 67 = .ok (.iadd, 1) := by decide +kernel
theorem dX7_neediest_68 : decode cX7_neediest 68 = .ok (.iload_n 2, 1) := by decide +kernel
theorem dX7_neediest_69 : decode cX7_neediest 69 = .ok (.if_icmp .le 11, 3) := by decide +kernel
theorem dX7_neediest_72 : decode cX7_neediest 72 = .ok (.iload 4, 2) := by decide +kernel
theorem dX7_neediest_74 : decode cX7_neediest 74 = .ok (.iload 5, 2) := by decide +kernel
theorem dX7_neediest_76 : decode cX7_neediest 76 = .ok (.iadd, 1) := by decide +kernel
theorem dX7_neediest_77 : decode cX7_neediest 77 = .ok (.istore_n 2, 1) := by decide +kernel
theorem dX7_neediest_78 : decode cX7_neediest 78 = .ok (.iload_n 3, 1) := by decide +kernel
theorem dX7_neediest_79 : decode cX7_neediest 79 = .ok (.istore_n 1, 1) := by decide +kernel
theorem dX7_neediest_80 : decode cX7_neediest 80 = .ok (.iinc 3 1, 3) := by decide +kernel
theorem dX7_neediest_83 : decode cX7_neediest 83 = .ok (.goto (-77), 3) := by decide +kernel
theorem dX7_neediest_86 : decode cX7_neediest 86 = .ok (.iload_n 1, 1) := by decide +kernel
theorem dX7_neediest_87 : decode cX7_neediest 87 = .ok (.ireturn, 1) := by decide +kernel
theorem dX7_ripeBits_0 : decode cX7_ripeBits 0 = .ok (.iconst 0, 1) := by decide +kernel
theorem dX7_ripeBits_1 : decode cX7_ripeBits 1 = .ok (.istore_n 1, 1) := by decide +kernel
theorem dX7_ripeBits_2 : decode cX7_ripeBits 2 = .ok (.iconst 0, 1) := by decide +kernel
theorem dX7_ripeBits_3 : decode cX7_ripeBits 3 = .ok (.istore_n 2, 1) := by decide +kernel
theorem dX7_ripeBits_4 : decode cX7_ripeBits 4 = .ok (.iload_n 2, 1) := by decide +kernel
theorem dX7_ripeBits_5 : decode cX7_ripeBits 5 = .ok (.aload_n 0, 1) := by decide +kernel
theorem dX7_ripeBits_6 : decode cX7_ripeBits 6 = .ok (.bipush 10, 2) := by decide +kernel
theorem dX7_ripeBits_8 : decode cX7_ripeBits 8 = .ok (.invokevirtual 30, 3) := by decide +kernel
theorem dX7_ripeBits_11 : decode cX7_ripeBits 11 = .ok (.if_icmp .ge 20, 3) := by decide +kernel
theorem dX7_ripeBits_14 : decode cX7_ripeBits 14 = .ok (.iload_n 1, 1) := by decide +kernel
theorem dX7_ripeBits_15 : decode cX7_ripeBits 15 = .ok (.aload_n 0, 1) := by decide +kernel
theorem dX7_ripeBits_16 : decode cX7_ripeBits 16 = .ok (.iload_n 2, 1) := by decide +kernel
theorem dX7_ripeBits_17 : decode cX7_ripeBits 17 = .ok (.iconst 5, 1) := by decide +kernel
theorem dX7_ripeBits_18 : decode cX7_ripeBits 18 = .ok (.invokevirtual 70, 3) := by decide +kernel
theorem dX7_ripeBits_21 : decode cX7_ripeBits 21 = .ok (.iload_n 2, 1) := by decide +kernel
theorem dX7_ripeBits_22 : decode cX7_ripeBits 22 = .ok (.ishl, 1) := by decide +kernel
theorem dX7_ripeBits_23 : decode cX7_ripeBits 23 = .ok (.ior, 1) := by decide +kernel
theorem dX7_ripeBits_24 : decode cX7_ripeBits 24 = .ok (.istore_n 1, 1) := by decide +kernel
theorem dX7_ripeBits_25 : decode cX7_ripeBits 25 = .ok (.iinc 2 1, 3) := by decide +kernel
theorem dX7_ripeBits_28 : decode cX7_ripeBits 28 = .ok (.goto (-24), 3) := by decide +kernel
theorem dX7_ripeBits_31 : decode cX7_ripeBits 31 = .ok (.iload_n 1, 1) := by decide +kernel
theorem dX7_ripeBits_32 : decode cX7_ripeBits 32 = .ok (.ireturn, 1) := by decide +kernel
theorem dX7_allRipe_0 : decode cX7_allRipe 0 = .ok (.aload_n 0, 1) := by decide +kernel
theorem dX7_allRipe_1 : decode cX7_allRipe 1 = .ok (.invokevirtual 76, 3) := by decide +kernel
theorem dX7_allRipe_4 : decode cX7_allRipe 4 = .ok (.iconst 1, 1) := by decide +kernel
theorem dX7_allRipe_5 : decode cX7_allRipe 5 = .ok (.aload_n 0, 1) := by decide +kernel
theorem dX7_allRipe_6 : decode cX7_allRipe 6 = .ok (.bipush 10, 2) := by decide +kernel
theorem dX7_allRipe_8 : decode cX7_allRipe 8 = .ok (.invokevirtual 30, 3) := by decide +kernel
theorem dX7_allRipe_11 : decode cX7_allRipe 11 = .ok (.ishl, 1) := by decide +kernel
theorem dX7_allRipe_12 : decode cX7_allRipe 12 = .ok (.iconst 1, 1) := by decide +kernel
theorem dX7_allRipe_13 : decode cX7_allRipe 13 = .ok (.isub, 1) := by decide +kernel
theorem dX7_allRipe_14 : decode cX7_allRipe 14 = .ok (.if_icmp .ne 7, 3) := by decide +kernel
theorem dX7_allRipe_17 : decode cX7_allRipe 17 = .ok (.iconst 1, 1) := by decide +kernel
theorem dX7_allRipe_18 : decode cX7_allRipe 18 = .ok (.goto 4, 3) := by decide +kernel
theorem dX7_allRipe_21 : decode cX7_allRipe 21 = .ok (.iconst 0, 1) := by decide +kernel
theorem dX7_allRipe_22 : decode cX7_allRipe 22 = .ok (.ireturn, 1) := by decide +kernel
theorem dX7_unripeValue_0 : decode cX7_unripeValue 0 = .ok (.iconst 0, 1) := by decide +kernel
theorem dX7_unripeValue_1 : decode cX7_unripeValue 1 = .ok (.istore_n 1, 1) := by decide +kernel
theorem dX7_unripeValue_2 : decode cX7_unripeValue 2 = .ok (.iconst 0, 1) := by decide +kernel
theorem dX7_unripeValue_3 : decode cX7_unripeValue 3 = .ok (.istore_n 2, 1) := by decide +kernel
theorem dX7_unripeValue_4 : decode cX7_unripeValue 4 = .ok (.iload_n 2, 1) := by decide +kernel
theorem dX7_unripeValue_5 : decode cX7_unripeValue 5 = .ok (.aload_n 0, 1) := by decide +kernel
theorem dX7_unripeValue_6 : decode cX7_unripeValue 6 = .ok (.bipush 10, 2) := by decide +kernel
theorem dX7_unripeValue_8 : decode cX7_unripeValue 8 = .ok (.invokevirtual 30, 3) := by decide +kernel
theorem dX7_unripeValue_11 : decode cX7_unripeValue 11 = .ok (.if_icmp .ge 31, 3) := by decide +kernel
theorem dX7_unripeValue_14 : decode cX7_unripeValue 14 = .ok (.iload_n 1, 1) := by decide +kernel
theorem dX7_unripeValue_15 : decode cX7_unripeValue 15 = .ok (.aload_n 0, 1) := by decide +kernel
theorem dX7_unripeValue_16 : decode cX7_unripeValue 16 = .ok (.iload_n 2, 1) := by decide +kernel
theorem dX7_unripeValue_17 : decode cX7_unripeValue 17 = .ok (.iconst 5, 1) := by decide +kernel
theorem dX7_unripeValue_18 : decode cX7_unripeValue 18 = .ok (.invokevirtual 70, 3) := by decide +kernel
theorem dX7_unripeValue_21 : decode cX7_unripeValue 21 = .ok (.ifCond .ne 12, 3) := by decide +kernel
theorem dX7_unripeValue_24 : decode cX7_unripeValue 24 = .ok (.aload_n 0, 1) := by decide +kernel
theorem dX7_unripeValue_25 : decode cX7_unripeValue 25 = .ok (.iload_n 2, 1) := by decide +kernel
theorem dX7_unripeValue_26 : decode cX7_unripeValue 26 = .ok (.iconst 2, 1) := by decide +kernel
theorem dX7_unripeValue_27 : decode cX7_unripeValue 27 = .ok (.invokevirtual 70, 3) := by decide +kernel
theorem dX7_unripeValue_30 : decode cX7_unripeValue 30 = .ok (.goto 4, 3) := by decide +kernel
theorem dX7_unripeValue_33 : decode cX7_unripeValue 33 = .ok (.iconst 0, 1) := by decide +kernel
theorem dX7_unripeValue_34 : decode cX7_unripeValue 34 = .ok (.iadd, 1) := by decide +kernel
theorem dX7_unripeValue_35 : decode cX7_unripeValue 35 = .ok (.istore_n 1, 1) := by decide +kernel
theorem dX7_unripeValue_36 : decode cX7_unripeValue 36 = .ok (.iinc 2 1, 3) := by decide +kernel
theorem dX7_unripeValue_39 : decode cX7_unripeValue 39 = .ok (.goto (-35), 3) := by decide +kernel
theorem dX7_unripeValue_42 : decode cX7_unripeValue 42 = .ok (.iload_n 1, 1) := by decide +kernel
theorem dX7_unripeValue_43 : decode cX7_unripeValue 43 = .ok (.ireturn, 1) := by decide +kernel
theorem dX8_init_0 : decode cX8_init 0 = .ok (.aload_n 0, 1) := by decide +kernel
theorem dX8_init_1 : decode cX8_init 1 = .ok (.invokespecial 3, 3) := by decide +kernel
theorem dX8_init_4 : decode cX8_init 4 = .ok (.aload_n 0, 1) := by decide +kernel
theorem dX8_init_5 : decode cX8_init 5 = .ok (.sipush 240, 3) := by decide +kernel
theorem dX8_init_8 : decode cX8_init 8 = .ok (.newarray .int, 2) := by decide +kernel
theorem dX8_init_10 : decode cX8_init 10 = .ok (.putfield 9, 3) := by decide +kernel
theorem dX8_init_13 : decode cX8_init 13 = .ok (.return_, 1) := by decide +kernel
theorem dX8_bytesIn_0 : decode cX8_bytesIn 0 = .ok (.iconst 0, 1) := by decide +kernel
theorem dX8_bytesIn_1 : decode cX8_bytesIn 1 = .ok (.istore_n 1, 1) := by decide +kernel
theorem dX8_bytesIn_2 : decode cX8_bytesIn 2 = .ok (.bipush 24, 2) := by decide +kernel
theorem dX8_bytesIn_4 : decode cX8_bytesIn 4 = .ok (.istore_n 2, 1) := by decide +kernel
theorem dX8_bytesIn_5 : decode cX8_bytesIn 5 = .ok (.iload_n 2, 1) := by decide +kernel
theorem dX8_bytesIn_6 : decode cX8_bytesIn 6 = .ok (.ifCond .lt 27, 3) := by decide +kernel
theorem dX8_bytesIn_9 : decode cX8_bytesIn 9 = .ok (.iload_n 1, 1) := by decide +kernel
theorem dX8_bytesIn_10 : decode cX8_bytesIn 10 = .ok (.iload_n 0, 1) := by decide +kernel
theorem dX8_bytesIn_11 : decode cX8_bytesIn 11 = .ok (.iload_n 2, 1) := by decide +kernel
theorem dX8_bytesIn_12 : decode cX8_bytesIn 12 = .ok (.iushr, 1) := by decide +kernel
theorem dX8_bytesIn_13 : decode cX8_bytesIn 13 = .ok (.sipush 255, 3) := by decide +kernel
theorem dX8_bytesIn_16 : decode cX8_bytesIn 16 = .ok (.iand, 1) := by decide +kernel
theorem dX8_bytesIn_17 : decode cX8_bytesIn 17 = .ok (.ifCond .ne 7, 3) := by decide +kernel
theorem dX8_bytesIn_20 : decode cX8_bytesIn 20 = .ok (.iconst 0, 1) := by decide +kernel
theorem dX8_bytesIn_21 : decode cX8_bytesIn 21 = .ok (.goto 4, 3) := by decide +kernel
theorem dX8_bytesIn_24 : decode cX8_bytesIn 24 = .ok (.iconst 1, 1) := by decide +kernel
theorem dX8_bytesIn_25 : decode cX8_bytesIn 25 = .ok (.iadd, 1) := by decide +kernel
theorem dX8_bytesIn_26 : decode cX8_bytesIn 26 = .ok (.istore_n 1, 1) := by decide +kernel
theorem dX8_bytesIn_27 : decode cX8_bytesIn 27 = .ok (.iinc 2 (-8), 3) := by decide +kernel
theorem dX8_bytesIn_30 : decode cX8_bytesIn 30 = .ok (.goto (-25), 3) := by decide +kernel
theorem dX8_bytesIn_33 : decode cX8_bytesIn 33 = .ok (.iload_n 1, 1) := by decide +kernel
theorem dX8_bytesIn_34 : decode cX8_bytesIn 34 = .ok (.ireturn, 1) := by decide +kernel
theorem dX8_addNumber_0 : decode cX8_addNumber 0 = .ok (.bipush 24, 2) := by decide +kernel
theorem dX8_addNumber_2 : decode cX8_addNumber 2 = .ok (.istore_n 2, 1) := by decide +kernel
theorem dX8_addNumber_3 : decode cX8_addNumber 3 = .ok (.iload_n 2, 1) := by decide +kernel
theorem dX8_addNumber_4 : decode cX8_addNumber 4 = .ok (.ifCond .lt 53, 3) := by decide +kernel
theorem dX8_addNumber_7 : decode cX8_addNumber 7 = .ok (.iload_n 1, 1) := by decide +kernel
theorem dX8_addNumber_8 : decode cX8_addNumber 8 = .ok (.iload_n 2, 1) := by decide +kernel
theorem dX8_addNumber_9 : decode cX8_addNumber 9 = .ok (.iushr, 1) := by decide +kernel
theorem dX8_addNumber_10 : decode cX8_addNumber 10 = .ok (.sipush 255, 3) := by decide +kernel
theorem dX8_addNumber_13 : decode cX8_addNumber 13 = .ok (.iand, 1) := by decide +kernel
theorem dX8_addNumber_14 : decode cX8_addNumber 14 = .ok (.istore_n 3, 1) := by decide +kernel
theorem dX8_addNumber_15 : decode cX8_addNumber 15 = .ok (.iload_n 3, 1) := by decide +kernel
theorem dX8_addNumber_16 : decode cX8_addNumber 16 = .ok (.ifCond .eq 35, 3) := by decide +kernel
theorem dX8_addNumber_19 : decode cX8_addNumber 19 = .ok (.aload_n 0, 1) := by decide +kernel
theorem dX8_addNumber_20 : decode cX8_addNumber 20 = .ok (.getfield 15, 3) := by decide +kernel
theorem dX8_addNumber_23 : decode cX8_addNumber 23 = .ok (.sipush 240, 3) := by decide +kernel
theorem dX8_addNumber_26 : decode cX8_addNumber 26 = .ok (.if_icmp .ge 25, 3) := by decide +kernel
theorem dX8_addNumber_29 : decode cX8_addNumber 29 = .ok (.aload_n 0, 1) := by decide +kernel
theorem dX8_addNumber_30 : decode cX8_addNumber 30 = .ok (.getfield 9, 3) := by decide +kernel
theorem dX8_addNumber_33 : decode cX8_addNumber 33 = .ok (.aload_n 0, 1) := by decide +kernel
theorem dX8_addNumber_34 : decode cX8_addNumber 34 = .ok (.getfield 15, 3) := by decide +kernel
theorem dX8_addNumber_37 : decode cX8_addNumber 37 = .ok (.iload_n 3, 1) := by decide +kernel
theorem dX8_addNumber_38 : decode cX8_addNumber 38 = .ok (.invokestatic 19, 3) := by decide +kernel
theorem dX8_addNumber_41 : decode cX8_addNumber 41 = .ok (.aload_n 0, 1) := by decide +kernel
theorem dX8_addNumber_42 : decode cX8_addNumber 42 = .ok (.dup, 1) := by decide +kernel
theorem dX8_addNumber_43 : decode cX8_addNumber 43 = .ok (.getfield 15, 3) := by decide +kernel
theorem dX8_addNumber_46 : decode cX8_addNumber 46 = .ok (.iconst 1, 1) := by decide +kernel
theorem dX8_addNumber_47 : decode cX8_addNumber 47 = .ok (.iadd, 1) := by decide +kernel
theorem dX8_addNumber_48 : decode cX8_addNumber 48 = .ok (.putfield 15, 3) := by decide +kernel
theorem dX8_addNumber_51 : decode cX8_addNumber 51 = .ok (.iinc 2 (-8), 3) := by decide +kernel
theorem dX8_addNumber_54 : decode cX8_addNumber 54 = .ok (.goto (-51), 3) := by decide +kernel
theorem dX8_addNumber_57 : decode cX8_addNumber 57 = .ok (.return_, 1) := by decide +kernel
theorem dX8_size_0 : decode cX8_size 0 = .ok (.aload_n 0, 1) := by decide +kernel
theorem dX8_size_1 : decode cX8_size 1 = .ok (.getfield 15, 3) := by decide +kernel
theorem dX8_size_4 : decode cX8_size 4 = .ok (.ireturn, 1) := by decide +kernel
theorem dX8_byteAt_0 : decode cX8_byteAt 0 = .ok (.iload_n 1, 1) := by decide +kernel
theorem dX8_byteAt_1 : decode cX8_byteAt 1 = .ok (.ifCond .lt 20, 3) := by decide +kernel
theorem dX8_byteAt_4 : decode cX8_byteAt 4 = .ok (.iload_n 1, 1) := by decide +kernel
theorem dX8_byteAt_5 : decode cX8_byteAt 5 = .ok (.aload_n 0, 1) := by decide +kernel
theorem dX8_byteAt_6 : decode cX8_byteAt 6 = .ok (.getfield 15, 3) := by decide +kernel
theorem dX8_byteAt_9 : decode cX8_byteAt 9 = .ok (.if_icmp .ge 12, 3) := by decide +kernel
theorem dX8_byteAt_12 : decode cX8_byteAt 12 = .ok (.iload_n 1, 1) := by decide +kernel
theorem dX8_byteAt_13 : decode cX8_byteAt 13 = .ok (.aload_n 0, 1) := by decide +kernel
theorem dX8_byteAt_14 : decode cX8_byteAt 14 = .ok (.getfield 9, 3) := by decide +kernel
theorem dX8_byteAt_17 : decode cX8_byteAt 17 = .ok (.arraylength, 1) := by decide +kernel
theorem dX8_byteAt_18 : decode cX8_byteAt 18 = .ok (.if_icmp .lt 7, 3) := by decide +kernel
theorem dX8_byteAt_21 : decode cX8_byteAt 21 = .ok (.iconst (-1), 1) := by decide +kernel
theorem dX8_byteAt_22 : decode cX8_byteAt 22 = .ok (.goto 9, 3) := by decide +kernel
theorem dX8_byteAt_25 : decode cX8_byteAt 25 = .ok (.aload_n 0, 1) := by decide +kernel
theorem dX8_byteAt_26 : decode cX8_byteAt 26 = .ok (.getfield 9, 3) := by decide +kernel
theorem dX8_byteAt_29 : decode cX8_byteAt 29 = .ok (.iload_n 1, 1) := by decide +kernel
theorem dX8_byteAt_30 : decode cX8_byteAt 30 = .ok (.iaload, 1) := by decide +kernel
theorem dX8_byteAt_31 : decode cX8_byteAt 31 = .ok (.ireturn, 1) := by decide +kernel
theorem dX8_cut_0 : decode cX8_cut 0 = .ok (.aload_n 0, 1) := by decide +kernel
theorem dX8_cut_1 : decode cX8_cut 1 = .ok (.iload_n 1, 1) := by decide +kernel
theorem dX8_cut_2 : decode cX8_cut 2 = .ok (.putfield 15, 3) := by decide +kernel
theorem dX8_cut_5 : decode cX8_cut 5 = .ok (.return_, 1) := by decide +kernel
theorem dX9_init_0 : decode cX9_init 0 = .ok (.aload_n 0, 1) := by decide +kernel
theorem dX9_init_1 : decode cX9_init 1 = .ok (.invokespecial 3, 3) := by decide +kernel
theorem dX9_init_4 : decode cX9_init 4 = .ok (.aload_n 0, 1) := by decide +kernel
theorem dX9_init_5 : decode cX9_init 5 = .ok (.new 9, 3) := by decide +kernel
theorem dX9_init_8 : decode cX9_init 8 = .ok (.dup, 1) := by decide +kernel
theorem dX9_init_9 : decode cX9_init 9 = .ok (.invokespecial 11, 3) := by decide +kernel
theorem dX9_init_12 : decode cX9_init 12 = .ok (.putfield 12, 3) := by decide +kernel
theorem dX9_init_15 : decode cX9_init 15 = .ok (.aload_n 0, 1) := by decide +kernel
theorem dX9_init_16 : decode cX9_init 16 = .ok (.bipush 10, 2) := by decide +kernel
theorem dX9_init_18 : decode cX9_init 18 = .ok (.newarray .int, 2) := by decide +kernel
theorem dX9_init_20 : decode cX9_init 20 = .ok (.putfield 18, 3) := by decide +kernel
theorem dX9_init_23 : decode cX9_init 23 = .ok (.aload_n 0, 1) := by decide +kernel
theorem dX9_init_24 : decode cX9_init 24 = .ok (.bipush 10, 2) := by decide +kernel
theorem dX9_init_26 : decode cX9_init 26 = .ok (.newarray .int, 2) := by decide +kernel
theorem dX9_init_28 : decode cX9_init 28 = .ok (.putfield 22, 3) := by decide +kernel
theorem dX9_init_31 : decode cX9_init 31 = .ok (.aload_n 0, 1) := by decide +kernel
theorem dX9_init_32 : decode cX9_init 32 = .ok (.bipush 10, 2) := by decide +kernel
theorem dX9_init_34 : decode cX9_init 34 = .ok (.newarray .int, 2) := by decide +kernel
theorem dX9_init_36 : decode cX9_init 36 = .ok (.putfield 25, 3) := by decide +kernel
theorem dX9_init_39 : decode cX9_init 39 = .ok (.aload_n 0, 1) := by decide +kernel
theorem dX9_init_40 : decode cX9_init 40 = .ok (.sipush 369, 3) := by decide +kernel
theorem dX9_init_43 : decode cX9_init 43 = .ok (.newarray .int, 2) := by decide +kernel
theorem dX9_init_45 : decode cX9_init 45 = .ok (.putfield 28, 3) := by decide +kernel
theorem dX9_init_48 : decode cX9_init 48 = .ok (.aload_n 0, 1) := by decide +kernel
theorem dX9_init_49 : decode cX9_init 49 = .ok (.bipush 9, 2) := by decide +kernel
theorem dX9_init_51 : decode cX9_init 51 = .ok (.newarray .int, 2) := by decide +kernel
theorem dX9_init_53 : decode cX9_init 53 = .ok (.putfield 31, 3) := by decide +kernel
theorem dX9_init_56 : decode cX9_init 56 = .ok (.aload_n 0, 1) := by decide +kernel
theorem dX9_init_57 : decode cX9_init 57 = .ok (.bipush 8, 2) := by decide +kernel
theorem dX9_init_59 : decode cX9_init 59 = .ok (.newarray .int, 2) := by decide +kernel
theorem dX9_init_61 : decode cX9_init 61 = .ok (.putfield 34, 3) := by decide +kernel
theorem dX9_init_64 : decode cX9_init 64 = .ok (.aload_n 0, 1) := by decide +kernel
theorem dX9_init_65 : decode cX9_init 65 = .ok (.aload_n 1, 1) := by decide +kernel
theorem dX9_init_66 : decode cX9_init 66 = .ok (.putfield 37, 3) := by decide +kernel
theorem dX9_init_69 : decode cX9_init 69 = .ok (.aload_n 0, 1) := by decide +kernel
theorem dX9_init_70 : decode cX9_init 70 = .ok (.aload_n 2, 1) := by decide +kernel
theorem dX9_init_71 : decode cX9_init 71 = .ok (.putfield 40, 3) := by decide +kernel
theorem dX9_init_74 : decode cX9_init 74 = .ok (.return_, 1) := by decide +kernel
theorem dX9_forget_0 : decode cX9_forget 0 = .ok (.aload_n 0, 1) := by decide +kernel
theorem dX9_forget_1 : decode cX9_forget 1 = .ok (.iconst 0, 1) := by decide +kernel
theorem dX9_forget_2 : decode cX9_forget 2 = .ok (.putfield 44, 3) := by decide +kernel
theorem dX9_forget_5 : decode cX9_forget 5 = .ok (.return_, 1) := by decide +kernel
theorem dX9_addSeen_0 : decode cX9_addSeen 0 = .ok (.aload_n 0, 1) := by decide +kernel
theorem dX9_addSeen_1 : decode cX9_addSeen 1 = .ok (.getfield 18, 3) := by decide +kernel
theorem dX9_addSeen_4 : decode cX9_addSeen 4 = .ok (.aload_n 0, 1) := by decide +kernel
theorem dX9_addSeen_5 : decode cX9_addSeen 5 = .ok (.getfield 44, 3) := by decide +kernel
theorem dX9_addSeen_8 : decode cX9_addSeen 8 = .ok (.iload_n 1, 1) := by decide +kernel
theorem dX9_addSeen_9 : decode cX9_addSeen 9 = .ok (.invokestatic 48, 3) := by decide +kernel
theorem dX9_addSeen_12 : decode cX9_addSeen 12 = .ok (.aload_n 0, 1) := by decide +kernel
theorem dX9_addSeen_13 : decode cX9_addSeen 13 = .ok (.getfield 22, 3) := by decide +kernel
theorem dX9_addSeen_16 : decode cX9_addSeen 16 = .ok (.aload_n 0, 1) := by decide +kernel
theorem dX9_addSeen_17 : decode cX9_addSeen 17 = .ok (.getfield 44, 3) := by decide +kernel
theorem dX9_addSeen_20 : decode cX9_addSeen 20 = .ok (.iload_n 2, 1) := by decide +kernel
theorem dX9_addSeen_21 : decode cX9_addSeen 21 = .ok (.invokestatic 48, 3) := by decide +kernel
theorem dX9_addSeen_24 : decode cX9_addSeen 24 = .ok (.aload_n 0, 1) := by decide +kernel
theorem dX9_addSeen_25 : decode cX9_addSeen 25 = .ok (.getfield 25, 3) := by decide +kernel
theorem dX9_addSeen_28 : decode cX9_addSeen 28 = .ok (.aload_n 0, 1) := by decide +kernel
theorem dX9_addSeen_29 : decode cX9_addSeen 29 = .ok (.getfield 44, 3) := by decide +kernel
theorem dX9_addSeen_32 : decode cX9_addSeen 32 = .ok (.iload_n 3, 1) := by decide +kernel
theorem dX9_addSeen_33 : decode cX9_addSeen 33 = .ok (.ifCond .eq 7, 3) := by decide +kernel
theorem dX9_addSeen_36 : decode cX9_addSeen 36 = .ok (.iconst 1, 1) := by decide +kernel
theorem dX9_addSeen_37 : decode cX9_addSeen 37 = .ok (.goto 4, 3) := by decide +kernel
theorem dX9_addSeen_40 : decode cX9_addSeen 40 = .ok (.iconst 0, 1) := by decide +kernel
theorem dX9_addSeen_41 : decode cX9_addSeen 41 = .ok (.invokestatic 48, 3) := by decide +kernel
theorem dX9_addSeen_44 : decode cX9_addSeen 44 = .ok (.aload_n 0, 1) := by decide +kernel
theorem dX9_addSeen_45 : decode cX9_addSeen 45 = .ok (.dup, 1) := by decide +kernel
theorem dX9_addSeen_46 : decode cX9_addSeen 46 = .ok (.getfield 44, 3) := by decide +kernel
theorem dX9_addSeen_49 : decode cX9_addSeen 49 = .ok (.iconst 1, 1) := by decide +kernel
theorem dX9_addSeen_50 : decode cX9_addSeen 50 = .ok (.iadd, 1) := by decide +kernel
theorem dX9_addSeen_51 : decode cX9_addSeen 51 = .ok (.putfield 44, 3) := by decide +kernel
theorem dX9_addSeen_54 : decode cX9_addSeen 54 = .ok (.aload_n 0, 1) := by decide +kernel
theorem dX9_addSeen_55 : decode cX9_addSeen 55 = .ok (.getfield 44, 3) := by decide +kernel
theorem dX9_addSeen_58 : decode cX9_addSeen 58 = .ok (.ireturn, 1) := by decide +kernel
theorem dX9_pathAt_0 : decode cX9_pathAt 0 = .ok (.aload_n 0, 1) := by decide +kernel
theorem dX9_pathAt_1 : decode cX9_pathAt 1 = .ok (.getfield 28, 3) := by decide +kernel
theorem dX9_pathAt_4 : decode cX9_pathAt 4 = .ok (.iload_n 1, 1) := by decide +kernel
theorem dX9_pathAt_5 : decode cX9_pathAt 5 = .ok (.bipush 41, 2) := by decide +kernel
theorem dX9_pathAt_7 : decode cX9_pathAt 7 = .ok (.imul, 1) := by decide +kernel
theorem dX9_pathAt_8 : decode cX9_pathAt 8 = .ok (.iload_n 2, 1) := by decide +kernel
theorem dX9_pathAt_9 : decode cX9_pathAt 9 = .ok (.iadd, 1) := by decide +kernel
theorem dX9_pathAt_10 : decode cX9_pathAt 10 = .ok (.invokestatic 52, 3) := by decide +kernel
theorem dX9_pathAt_13 : decode cX9_pathAt 13 = .ok (.ireturn, 1) := by decide +kernel
theorem dX9_walk_0 : decode cX9_walk 0 = .ok (.aload_n 0, 1) := by decide +kernel
theorem dX9_walk_1 : decode cX9_walk 1 = .ok (.getfield 12, 3) := by decide +kernel
theorem dX9_walk_4 : decode cX9_walk 4 = .ok (.aload_n 0, 1) := by decide +kernel
theorem dX9_walk_5 : decode cX9_walk 5 = .ok (.getfield 37, 3) := by decide +kernel
theorem dX9_walk_8 : decode cX9_walk 8 = .ok (.invokevirtual 56, 3) := by decide +kernel
theorem dX9_walk_11 : decode cX9_walk 11 = .ok (.iload_n 1, 1) := by decide +kernel
theorem dX9_walk_12 : decode cX9_walk 12 = .ok (.bipush 8, 2) := by decide +kernel
theorem dX9_walk_14 : decode cX9_walk 14 = .ok (.if_icmp .eq 12, 3) := by decide +kernel
theorem dX9_walk_17 : decode cX9_walk 17 = .ok (.aload_n 0, 1) := by decide +kernel
theorem dX9_walk_18 : decode cX9_walk 18 = .ok (.getfield 12, 3) := by decide +kernel
theorem dX9_walk_21 : decode cX9_walk 21 = .ok (.iload_n 1, 1) := by decide +kernel
theorem dX9_walk_22 : decode cX9_walk 22 = .ok (.iload_n 2, 1) := by decide +kernel
theorem dX9_walk_23 : decode cX9_walk 23 = .ok (.invokevirtual 60, 3) := by decide +kernel
theorem dX9_walk_26 : decode cX9_walk 26 = .ok (.iconst 1, 1) := by decide +kernel
theorem dX9_walk_27 : decode cX9_walk 27 = .ok (.istore_n 3, 1) := by decide +kernel
theorem dX9_walk_28 : decode cX9_walk 28 = .ok (.iload_n 3, 1) := by decide +kernel
theorem dX9_walk_29 : decode cX9_walk 29 = .ok (.bipush 40, 2) := by decide +kernel
theorem dX9_walk_31 : decode cX9_walk 31 = .ok (.if_icmp .gt 42, 3) := by decide +kernel
theorem dX9_walk_34 : decode cX9_walk 34 = .ok (.aload_n 0, 1) := by decide +kernel
theorem dX9_walk_35 : decode cX9_walk 35 = .ok (.getfield 12, 3) := by decide +kernel
theorem dX9_walk_38 : decode cX9_walk 38 = .ok (.iconst 1, 1) := by decide +kernel
theorem dX9_walk_39 : decode cX9_walk 39 = .ok (.aload_n 0, 1) := by decide +kernel
theorem dX9_walk_40 : decode cX9_walk 40 = .ok (.getfield 40, 3) := by decide +kernel
theorem dX9_walk_43 : decode cX9_walk 43 = .ok (.invokevirtual 64, 3) := by decide +kernel
theorem dX9_walk_46 : decode cX9_walk 46 = .ok (.aload_n 0, 1) := by decide +kernel
theorem dX9_walk_47 : decode cX9_walk 47 = .ok (.getfield 28, 3) := by decide +kernel
theorem dX9_walk_50 : decode cX9_walk 50 = .ok (.iload_n 1, 1) := by decide +kernel
theorem dX9_walk_51 : decode cX9_walk 51 = .ok (.bipush 41, 2) := by decide +kernel
theorem dX9_walk_53 : decode cX9_walk 53 = .ok (.imul, 1) := by decide +kernel
theorem dX9_walk_54 : decode cX9_walk 54 = .ok (.iload_n 3, 1) := by decide +kernel
theorem dX9_walk_55 : decode cX9_walk 55 = .ok (.iadd, 1) := by decide +kernel
theorem dX9_walk_56 : decode cX9_walk 56 = .ok (.aload_n 0, 1) := by decide +kernel
theorem dX9_walk_57 : decode cX9_walk 57 = .ok (.getfield 12, 3) := by decide +kernel
theorem dX9_walk_60 : decode cX9_walk 60 = .ok (.iconst 5, 1) := by decide +kernel
theorem dX9_walk_61 : decode cX9_walk 61 = .ok (.invokevirtual 68, 3) := by decide +kernel
theorem dX9_walk_64 : decode cX9_walk 64 = .ok (.invokestatic 48, 3) := by decide +kernel
theorem dX9_walk_67 : decode cX9_walk 67 = .ok (.iinc 3 1, 3) := by decide +kernel
theorem dX9_walk_70 : decode cX9_walk 70 = .ok (.goto (-42), 3) := by decide +kernel
theorem dX9_walk_73 : decode cX9_walk 73 = .ok (.return_, 1) := by decide +kernel
theorem dX9_fitsAll_0 : decode cX9_fitsAll 0 = .ok (.iconst 0, 1) := by decide +kernel
theorem dX9_fitsAll_1 : decode cX9_fitsAll 1 = .ok (.istore_n 2, 1) := by decide +kernel
theorem dX9_fitsAll_2 : decode cX9_fitsAll 2 = .ok (.iload_n 2, 1) := by decide +kernel
theorem dX9_fitsAll_3 : decode cX9_fitsAll 3 = .ok (.aload_n 0, 1) := by decide +kernel
theorem dX9_fitsAll_4 : decode cX9_fitsAll 4 = .ok (.getfield 44, 3) := by decide +kernel
theorem dX9_fitsAll_7 : decode cX9_fitsAll 7 = .ok (.if_icmp .ge 62, 3) := by decide +kernel
theorem dX9_fitsAll_10 : decode cX9_fitsAll 10 = .ok (.aload_n 0, 1) := by decide +kernel
theorem dX9_fitsAll_11 : decode cX9_fitsAll 11 = .ok (.iload_n 1, 1) := by decide +kernel
theorem dX9_fitsAll_12 : decode cX9_fitsAll 12 = .ok (.aload_n 0, 1) := by decide +kernel
theorem dX9_fitsAll_13 : decode cX9_fitsAll 13 = .ok (.getfield 18, 3) := by decide +kernel
theorem dX9_fitsAll_16 : decode cX9_fitsAll 16 = .ok (.iload_n 2, 1) := by decide +kernel
theorem dX9_fitsAll_17 : decode cX9_fitsAll 17 = .ok (.invokestatic 52, 3) := by decide +kernel
theorem dX9_fitsAll_20 : decode cX9_fitsAll 20 = .ok (.invokevirtual 72, 3) := by decide +kernel
theorem dX9_fitsAll_23 : decode cX9_fitsAll 23 = .ok (.aload_n 0, 1) := by decide +kernel
theorem dX9_fitsAll_24 : decode cX9_fitsAll 24 = .ok (.getfield 22, 3) := by decide +kernel
theorem dX9_fitsAll_27 : decode cX9_fitsAll 27 = .ok (.iload_n 2, 1) := by decide +kernel
theorem dX9_fitsAll_28 : decode cX9_fitsAll 28 = .ok (.invokestatic 52, 3) := by decide +kernel
theorem dX9_fitsAll_31 : decode cX9_fitsAll 31 = .ok (.if_icmp .ne 7, 3) := by decide +kernel
theorem dX9_fitsAll_34 : decode cX9_fitsAll 34 = .ok (.iconst 1, 1) := by decide +kernel
theorem dX9_fitsAll_35 : decode cX9_fitsAll 35 = .ok (.goto 4, 3) := by decide +kernel
theorem dX9_fitsAll_38 : decode cX9_fitsAll 38 = .ok (.iconst 0, 1) := by decide +kernel
theorem dX9_fitsAll_39 : decode cX9_fitsAll 39 = .ok (.istore_n 3, 1) := by decide +kernel
theorem dX9_fitsAll_40 : decode cX9_fitsAll 40 = .ok (.iload_n 3, 1) := by decide +kernel
theorem dX9_fitsAll_41 : decode cX9_fitsAll 41 = .ok (.aload_n 0, 1) := by decide +kernel
theorem dX9_fitsAll_42 : decode cX9_fitsAll 42 = .ok (.getfield 25, 3) := by decide +kernel
theorem dX9_fitsAll_45 : decode cX9_fitsAll 45 = .ok (.iload_n 2, 1) := by decide +kernel
theorem dX9_fitsAll_46 : decode cX9_fitsAll 46 = .ok (.invokestatic 52, 3) := by decide +kernel
theorem dX9_fitsAll_49 : decode cX9_fitsAll 49 = .ok (.iconst 1, 1) := by decide +kernel
theorem dX9_fitsAll_50 : decode cX9_fitsAll 50 = .ok (.if_icmp .ne 7, 3) := by decide +kernel
theorem dX9_fitsAll_53 : decode cX9_fitsAll 53 = .ok (.iconst 1, 1) := by decide +kernel
theorem dX9_fitsAll_54 : decode cX9_fitsAll 54 = .ok (.goto 4, 3) := by decide +kernel
theorem dX9_fitsAll_57 : decode cX9_fitsAll 57 = .ok (.iconst 0, 1) := by decide +kernel
theorem dX9_fitsAll_58 : decode cX9_fitsAll 58 = .ok (.if_icmp .eq 5, 3) := by decide +kernel
theorem dX9_fitsAll_61 : decode cX9_fitsAll 61 = .ok (.iconst 0, 1) := by decide +kernel
theorem dX9_fitsAll_62 : decode cX9_fitsAll 62 = .ok (.ireturn, 1) := by decide +kernel
theorem dX9_fitsAll_63 : decode cX9_fitsAll 63 = .ok (.iinc 2 1, 3) := by decide +kernel
theorem dX9_fitsAll_66 : decode cX9_fitsAll 66 = .ok (.goto (-64), 3) := by decide +kernel
theorem dX9_fitsAll_69 : decode cX9_fitsAll 69 = .ok (.iconst 1, 1) := by decide +kernel
theorem dX9_fitsAll_70 : decode cX9_fitsAll 70 = .ok (.ireturn, 1) := by decide +kernel
theorem dX9_tryAll_0 : decode cX9_tryAll 0 = .ok (.iconst 0, 1) := by decide +kernel
theorem dX9_tryAll_1 : decode cX9_tryAll 1 = .ok (.istore_n 2, 1) := by decide +kernel
theorem dX9_tryAll_2 : decode cX9_tryAll 2 = .ok (.iload_n 2, 1) := by decide +kernel
theorem dX9_tryAll_3 : decode cX9_tryAll 3 = .ok (.bipush 9, 2) := by decide +kernel
theorem dX9_tryAll_5 : decode cX9_tryAll 5 = .ok (.if_icmp .ge 57, 3) := by decide +kernel
theorem dX9_tryAll_8 : decode cX9_tryAll 8 = .ok (.iconst 0, 1) := by decide +kernel
theorem dX9_tryAll_9 : decode cX9_tryAll 9 = .ok (.istore_n 3, 1) := by decide +kernel
theorem dX9_tryAll_10 : decode cX9_tryAll 10 = .ok (.iload_n 2, 1) := by decide +kernel
theorem dX9_tryAll_11 : decode cX9_tryAll 11 = .ok (.bipush 8, 2) := by decide +kernel
theorem dX9_tryAll_13 : decode cX9_tryAll 13 = .ok (.if_icmp .eq 14, 3) := by decide +kernel
theorem dX9_tryAll_16 : decode cX9_tryAll 16 = .ok (.aload_n 0, 1) := by decide +kernel
theorem dX9_tryAll_17 : decode cX9_tryAll 17 = .ok (.getfield 37, 3) := by decide +kernel
theorem dX9_tryAll_20 : decode cX9_tryAll 20 = .ok (.iload_n 2, 1) := by decide +kernel
theorem dX9_tryAll_21 : decode cX9_tryAll 21 = .ok (.invokevirtual 76, 3) := by decide +kernel
theorem dX9_tryAll_24 : decode cX9_tryAll 24 = .ok (.ifCond .eq 15, 3) := by decide +kernel
theorem dX9_tryAll_27 : decode cX9_tryAll 27 = .ok (.aload_n 0, 1) := by decide +kernel
theorem dX9_tryAll_28 : decode cX9_tryAll 28 = .ok (.iload_n 2, 1) := by decide +kernel
theorem dX9_tryAll_29 : decode cX9_tryAll 29 = .ok (.iload_n 1, 1) := by decide +kernel
theorem dX9_tryAll_30 : decode cX9_tryAll 30 = .ok (.invokevirtual 80, 3) := by decide +kernel
theorem dX9_tryAll_33 : decode cX9_tryAll 33 = .ok (.aload_n 0, 1) := by decide +kernel
theorem dX9_tryAll_34 : decode cX9_tryAll 34 = .ok (.iload_n 2, 1) := by decide +kernel
theorem dX9_tryAll_35 : decode cX9_tryAll 35 = .ok (.invokevirtual 83, 3) := by decide +kernel
theorem dX9_tryAll_38 : decode cX9_tryAll 38 = .ok (.istore_n 3, 1) := by decide +kernel
theorem dX9_tryAll_39 : decode cX9_tryAll 39 = .ok (.aload_n 0, 1) := by decide +kernel
theorem dX9_tryAll_40 : decode cX9_tryAll 40 = .ok (.getfield 31, 3) := by decide +kernel
theorem dX9_tryAll_43 : decode cX9_tryAll 43 = .ok (.iload_n 2, 1) := by decide +kernel
theorem dX9_tryAll_44 : decode cX9_tryAll 44 = .ok (.iload_n 3, 1) := by decide +kernel
theorem dX9_tryAll_45 : decode cX9_tryAll 45 = .ok (.ifCond .eq 7, 3) := by decide +kernel
theorem dX9_tryAll_48 : decode cX9_tryAll 48 = .ok (.iconst 1, 1) := by decide +kernel
theorem dX9_tryAll_49 : decode cX9_tryAll 49 = .ok (.goto 4, 3) := by decide +kernel
theorem dX9_tryAll_52 : decode cX9_tryAll 52 = .ok (.iconst 0, 1) := by decide +kernel
theorem dX9_tryAll_53 : decode cX9_tryAll 53 = .ok (.invokestatic 48, 3) := by decide +kernel
theorem dX9_tryAll_56 : decode cX9_tryAll 56 = .ok (.iinc 2 1, 3) := by decide +kernel
theorem dX9_tryAll_59 : decode cX9_tryAll 59 = .ok (.goto (-57), 3) := by decide +kernel
theorem dX9_tryAll_62 : decode cX9_tryAll 62 = .ok (.return_, 1) := by decide +kernel
theorem dX9_suspectAt_0 : decode cX9_suspectAt 0 = .ok (.iconst 0, 1) := by decide +kernel
theorem dX9_suspectAt_1 : decode cX9_suspectAt 1 = .ok (.istore_n 2, 1) := by decide +kernel
theorem dX9_suspectAt_2 : decode cX9_suspectAt 2 = .ok (.iconst 0, 1) := by decide +kernel
theorem dX9_suspectAt_3 : decode cX9_suspectAt 3 = .ok (.istore_n 3, 1) := by decide +kernel
theorem dX9_suspectAt_4 : decode cX9_suspectAt 4 = .ok (.iload_n 3, 1) := by decide +kernel
theorem dX9_suspectAt_5 : decode cX9_suspectAt 5 = .ok (.bipush 9, 2) := by decide +kernel
theorem dX9_suspectAt_7 : decode cX9_suspectAt 7 = .ok (.if_icmp .ge 42, 3) := by decide +kernel
theorem dX9_suspectAt_10 : decode cX9_suspectAt 10 = .ok (.aload_n 0, 1) := by decide +kernel
theorem dX9_suspectAt_11 : decode cX9_suspectAt 11 = .ok (.getfield 31, 3) := by decide +kernel
theorem dX9_suspectAt_14 : decode cX9_suspectAt 14 = .ok (.iload_n 3, 1) := by decide +kernel
theorem dX9_suspectAt_15 : decode cX9_suspectAt 15 = .ok (.invokestatic 52, 3) := by decide +kernel
theorem dX9_suspectAt_18 : decode cX9_suspectAt 18 = .ok (.iconst 1, 1) := by decide +kernel
theorem dX9_suspectAt_19 : decode cX9_suspectAt 19 = .ok (.if_icmp .ne 24, 3) := by decide +kernel
theorem dX9_suspectAt_22 : decode cX9_suspectAt 22 = .ok (.iload_n 2, 1) := by decide +kernel
theorem dX9_suspectAt_23 : decode cX9_suspectAt 23 = .ok (.iload_n 1, 1) := by decide +kernel
theorem dX9_suspectAt_24 : decode cX9_suspectAt 24 = .ok (.if_icmp .ne 16, 3) := by decide +kernel
theorem dX9_suspectAt_27 : decode cX9_suspectAt 27 = .ok (.iload_n 3, 1) := by decide +kernel
theorem dX9_suspectAt_28 : decode cX9_suspectAt 28 = .ok (.bipush 8, 2) := by decide +kernel
theorem dX9_suspectAt_30 : decode cX9_suspectAt 30 = .ok (.if_icmp .ne 8, 3) := by decide +kernel
theorem dX9_suspectAt_33 : decode cX9_suspectAt 33 = .ok (.bipush 9, 2) := by decide +kernel
theorem dX9_suspectAt_35 : decode cX9_suspectAt 35 = .ok (.goto 4, 3) := by decide +kernel
theorem dX9_suspectAt_38 : decode cX9_suspectAt 38 = .ok (.iload_n 3, 1) := by decide +kernel
theorem dX9_suspectAt_39 : decode cX9_suspectAt 39 = .ok (.ireturn, 1) := by decide +kernel
theorem dX9_suspectAt_40 : decode cX9_suspectAt 40 = .ok (.iinc 2 1, 3) := by decide +kernel
theorem dX9_suspectAt_43 : decode cX9_suspectAt 43 = .ok (.iinc 3 1, 3) := by decide +kernel
theorem dX9_suspectAt_46 : decode cX9_suspectAt 46 = .ok (.goto (-42), 3) := by decide +kernel
theorem dX9_suspectAt_49 : decode cX9_suspectAt 49 = .ok (.iload_n 1, 1) := by decide +kernel
theorem dX9_suspectAt_50 : decode cX9_suspectAt 50 = .ok (.iconst (-1), 1) := by decide +kernel
theorem dX9_suspectAt_51 : decode cX9_suspectAt 51 = .ok (.if_icmp .ne 7, 3) := by decide +kernel
theorem dX9_suspectAt_54 : decode cX9_suspectAt 54 = .ok (.iload_n 2, 1) := by decide +kernel
theorem dX9_suspectAt_55 : decode cX9_suspectAt 55 = .ok (.goto 4, 3) := by decide +kernel
theorem dX9_suspectAt_58 : decode cX9_suspectAt 58 = .ok (.iconst (-1), 1) := by decide +kernel
theorem dX9_suspectAt_59 : decode cX9_suspectAt 59 = .ok (.ireturn, 1) := by decide +kernel
theorem dX9_whenToLook_0 : decode cX9_whenToLook 0 = .ok (.iconst (-1), 1) := by decide +kernel
theorem dX9_whenToLook_1 : decode cX9_whenToLook 1 = .ok (.istore_n 1, 1) := by decide +kernel
theorem dX9_whenToLook_2 : decode cX9_whenToLook 2 = .ok (.bipush 10, 2) := by decide +kernel
theorem dX9_whenToLook_4 : decode cX9_whenToLook 4 = .ok (.istore_n 2, 1) := by decide +kernel
theorem dX9_whenToLook_5 : decode cX9_whenToLook 5 = .ok (.iconst 1, 1) := by decide +kernel
theorem dX9_whenToLook_6 : decode cX9_whenToLook 6 = .ok (.istore_n 3, 1) := by decide +kernel
theorem dX9_whenToLook_7 : decode cX9_whenToLook 7 = .ok (.iload_n 3, 1) := by decide +kernel
theorem dX9_whenToLook_8 : decode cX9_whenToLook 8 = .ok (.bipush 40, 2) := by decide +kernel
theorem dX9_whenToLook_10 : decode cX9_whenToLook 10 = .ok (.if_icmp .gt 32, 3) := by decide +kernel
theorem dX9_whenToLook_13 : decode cX9_whenToLook 13 = .ok (.aload_n 0, 1) := by decide +kernel
theorem dX9_whenToLook_14 : decode cX9_whenToLook 14 = .ok (.iload_n 3, 1) := by decide +kernel
theorem dX9_whenToLook_15 : decode cX9_whenToLook 15 = .ok (.invokevirtual 86, 3) := by decide +kernel
theorem dX9_whenToLook_18 : decode cX9_whenToLook 18 = .ok (.istore 4, 2) := by decide +kernel
theorem dX9_whenToLook_20 : decode cX9_whenToLook 20 = .ok (.iload 4, 2) := by decide +kernel
theorem dX9_whenToLook_22 : decode cX9_whenToLook 22 = .ok (.ifCond .le 14, 3) := by decide +kernel
theorem dX9_whenToLook_25 : decode cX9_whenToLook 25 = .ok (.iload 4, 2) := by decide +kernel
theorem dX9_whenToLook_27 : decode cX9_whenToLook 27 = .ok (.iload_n 2, 1) := by decide +kernel
theorem dX9_whenToLook_28 : decode cX9_whenToLook 28 = .ok (.if_icmp .ge 8, 3) := by decide +kernel
theorem dX9_whenToLook_31 : decode cX9_whenToLook 31 = .ok (.iload 4, 2) := by decide +kernel
theorem dX9_whenToLook_33 : decode cX9_whenToLook 33 = .ok (.istore_n 2, 1) := by decide +kernel
theorem dX9_whenToLook_34 : decode cX9_whenToLook 34 = .ok (.iload_n 3, 1) := by decide +kernel
theorem dX9_whenToLook_35 : decode cX9_whenToLook 35 = .ok (.istore_n 1, 1) := by decide +kernel
theorem dX9_whenToLook_36 : decode cX9_whenToLook 36 = .ok (.iinc 3 1, 3) := by decide +kernel
theorem dX9_whenToLook_39 : decode cX9_whenToLook 39 = .ok (.goto (-32), 3) := by decide +kernel
theorem dX9_whenToLook_42 : decode cX9_whenToLook 42 = .ok (.iload_n 1, 1) := by decide +kernel
theorem dX9_whenToLook_43 : decode cX9_whenToLook 43 = .ok (.ireturn, 1) := by decide +kernel
theorem dX9_mostAlike_0 : decode cX9_mostAlike 0 = .ok (.iconst 0, 1) := by decide +kernel
theorem dX9_mostAlike_1 : decode cX9_mostAlike 1 = .ok (.istore_n 2, 1) := by decide +kernel
theorem dX9_mostAlike_2 : decode cX9_mostAlike 2 = .ok (.iconst 0, 1) := by decide +kernel
theorem dX9_mostAlike_3 : decode cX9_mostAlike 3 = .ok (.istore_n 3, 1) := by decide +kernel
theorem dX9_mostAlike_4 : decode cX9_mostAlike 4 = .ok (.iload_n 3, 1) := by decide +kernel
theorem dX9_mostAlike_5 : decode cX9_mostAlike 5 = .ok (.bipush 8, 2) := by decide +kernel
theorem dX9_mostAlike_7 : decode cX9_mostAlike 7 = .ok (.if_icmp .ge 18, 3) := by decide +kernel
theorem dX9_mostAlike_10 : decode cX9_mostAlike 10 = .ok (.aload_n 0, 1) := by decide +kernel
theorem dX9_mostAlike_11 : decode cX9_mostAlike 11 = .ok (.getfield 34, 3) := by decide +kernel
theorem dX9_mostAlike_14 : decode cX9_mostAlike 14 = .ok (.iload_n 3, 1) := by decide +kernel
theorem dX9_mostAlike_15 : decode cX9_mostAlike 15 = .ok (.iconst 0, 1) := by decide +kernel
theorem dX9_mostAlike_16 : decode cX9_mostAlike 16 = .ok (.invokestatic 48, 3) := by decide +kernel
theorem dX9_mostAlike_19 : decode cX9_mostAlike 19 = .ok (.iinc 3 1, 3) := by decide +kernel
theorem dX9_mostAlike_22 : decode cX9_mostAlike 22 = .ok (.goto (-18), 3) := by decide +kernel
theorem dX9_mostAlike_25 : decode cX9_mostAlike 25 = .ok (.iconst 0, 1) := by decide +kernel
theorem dX9_mostAlike_26 : decode cX9_mostAlike 26 = .ok (.istore_n 3, 1) := by decide +kernel
theorem dX9_mostAlike_27 : decode cX9_mostAlike 27 = .ok (.iload_n 3, 1) := by decide +kernel
theorem dX9_mostAlike_28 : decode cX9_mostAlike 28 = .ok (.bipush 9, 2) := by decide +kernel
theorem dX9_mostAlike_30 : decode cX9_mostAlike 30 = .ok (.if_icmp .ge 63, 3) := by decide +kernel
theorem dX9_mostAlike_33 : decode cX9_mostAlike 33 = .ok (.aload_n 0, 1) := by decide +kernel
theorem dX9_mostAlike_34 : decode cX9_mostAlike 34 = .ok (.getfield 31, 3) := by decide +kernel
theorem dX9_mostAlike_37 : decode cX9_mostAlike 37 = .ok (.iload_n 3, 1) := by decide +kernel
theorem dX9_mostAlike_38 : decode cX9_mostAlike 38 = .ok (.invokestatic 52, 3) := by decide +kernel
theorem dX9_mostAlike_41 : decode cX9_mostAlike 41 = .ok (.iconst 1, 1) := by decide +kernel
theorem dX9_mostAlike_42 : decode cX9_mostAlike 42 = .ok (.if_icmp .ne 45, 3) := by decide +kernel
theorem dX9_mostAlike_45 : decode cX9_mostAlike 45 = .ok (.aload_n 0, 1) := by decide +kernel
theorem dX9_mostAlike_46 : decode cX9_mostAlike 46 = .ok (.iload_n 3, 1) := by decide +kernel
theorem dX9_mostAlike_47 : decode cX9_mostAlike 47 = .ok (.iload_n 1, 1) := by decide +kernel
theorem dX9_mostAlike_48 : decode cX9_mostAlike 48 = .ok (.invokevirtual 72, 3) := by decide +kernel
theorem dX9_mostAlike_51 : decode cX9_mostAlike 51 = .ok (.istore 4, 2) := by decide +kernel
theorem dX9_mostAlike_53 : decode cX9_mostAlike 53 = .ok (.aload_n 0, 1) := by decide +kernel
theorem dX9_mostAlike_54 : decode cX9_mostAlike 54 = .ok (.getfield 34, 3) := by decide +kernel
theorem dX9_mostAlike_57 : decode cX9_mostAlike 57 = .ok (.iload 4, 2) := by decide +kernel
theorem dX9_mostAlike_59 : decode cX9_mostAlike 59 = .ok (.aload_n 0, 1) := by decide +kernel
theorem dX9_mostAlike_60 : decode cX9_mostAlike 60 = .ok (.getfield 34, 3) := by decide +kernel
theorem dX9_mostAlike_63 : decode cX9_mostAlike 63 = .ok (.iload 4, 2) := by decide +kernel
theorem dX9_mostAlike_65 : decode cX9_mostAlike 65 = .ok (.invokestatic 52, 3) := by decide +kernel
theorem dX9_mostAlike_68 : decode cX9_mostAlike 68 = .ok (.iconst 1, 1) := by decide +kernel
theorem dX9_mostAlike_69 : decode cX9_mostAlike 69 = .ok (.iadd, 1) := by decide +kernel
theorem dX9_mostAlike_70 : decode cX9_mostAlike 70 = .ok (.invokestatic 48, 3) := by decide +kernel
theorem dX9_mostAlike_73 : decode cX9_mostAlike 73 = .ok (.iload_n 2, 1) := by decide +kernel
theorem dX9_mostAlike_74 : decode cX9_mostAlike 74 = .ok (.aload_n 0, 1) := by decide +kernel
theorem dX9_mostAlike_75 : decode cX9_mostAlike 75 = .ok (.getfield 34, 3) := by decide +kernel
theorem dX9_mostAlike_78 : decode cX9_mostAlike 78 = .ok (.iload 4, 2) := by decide +kernel
theorem dX9_mostAlike_80 : decode cX9_mostAlike 80 = .ok (.invokestatic 52, 3) := by decide +kernel
theorem dX9_mostAlike_83 : decode cX9_mostAlike 83 = .ok (.invokestatic 89, 3) := by decide +kernel
theorem dX9_mostAlike_86 : decode cX9_mostAlike 86 = .ok (.istore_n 2, 1) := by decide +kernel
theorem dX9_mostAlike_87 : decode cX9_mostAlike 87 = .ok (.iinc 3 1, 3) := by decide +kernel
theorem dX9_mostAlike_90 : decode cX9_mostAlike 90 = .ok (.goto (-63), 3) := by decide +kernel
theorem dX9_mostAlike_93 : decode cX9_mostAlike 93 = .ok (.iload_n 2, 1) := by decide +kernel
theorem dX9_mostAlike_94 : decode cX9_mostAlike 94 = .ok (.ireturn, 1) := by decide +kernel
theorem dX10_init_0 : decode cX10_init 0 = .ok (.aload_n 0, 1) := by decide +kernel
theorem dX10_init_1 : decode cX10_init 1 = .ok (.invokespecial 3, 3) := by decide +kernel
theorem dX10_init_4 : decode cX10_init 4 = .ok (.aload_n 0, 1) := by decide +kernel
theorem dX10_init_5 : decode cX10_init 5 = .ok (.new 9, 3) := by decide +kernel
theorem dX10_init_8 : decode cX10_init 8 = .ok (.dup, 1) := by decide +kernel
theorem dX10_init_9 : decode cX10_init 9 = .ok (.invokespecial 11, 3) := by decide +kernel
theorem dX10_init_12 : decode cX10_init 12 = .ok (.putfield 12, 3) := by decide +kernel
theorem dX10_init_15 : decode cX10_init 15 = .ok (.aload_n 0, 1) := by decide +kernel
theorem dX10_init_16 : decode cX10_init 16 = .ok (.new 16, 3) := by decide +kernel
theorem dX10_init_19 : decode cX10_init 19 = .ok (.dup, 1) := by decide +kernel
theorem dX10_init_20 : decode cX10_init 20 = .ok (.aload_n 0, 1) := by decide +kernel
theorem dX10_init_21 : decode cX10_init 21 = .ok (.getfield 12, 3) := by decide +kernel
theorem dX10_init_24 : decode cX10_init 24 = .ok (.invokespecial 18, 3) := by decide +kernel
theorem dX10_init_27 : decode cX10_init 27 = .ok (.putfield 21, 3) := by decide +kernel
theorem dX10_init_30 : decode cX10_init 30 = .ok (.aload_n 0, 1) := by decide +kernel
theorem dX10_init_31 : decode cX10_init 31 = .ok (.new 25, 3) := by decide +kernel
theorem dX10_init_34 : decode cX10_init 34 = .ok (.dup, 1) := by decide +kernel
theorem dX10_init_35 : decode cX10_init 35 = .ok (.aload_n 0, 1) := by decide +kernel
theorem dX10_init_36 : decode cX10_init 36 = .ok (.getfield 12, 3) := by decide +kernel
theorem dX10_init_39 : decode cX10_init 39 = .ok (.invokespecial 27, 3) := by decide +kernel
theorem dX10_init_42 : decode cX10_init 42 = .ok (.putfield 28, 3) := by decide +kernel
theorem dX10_init_45 : decode cX10_init 45 = .ok (.aload_n 0, 1) := by decide +kernel
theorem dX10_init_46 : decode cX10_init 46 = .ok (.new 32, 3) := by decide +kernel
theorem dX10_init_49 : decode cX10_init 49 = .ok (.dup, 1) := by decide +kernel
theorem dX10_init_50 : decode cX10_init 50 = .ok (.invokespecial 34, 3) := by decide +kernel
theorem dX10_init_53 : decode cX10_init 53 = .ok (.putfield 35, 3) := by decide +kernel
theorem dX10_init_56 : decode cX10_init 56 = .ok (.aload_n 0, 1) := by decide +kernel
theorem dX10_init_57 : decode cX10_init 57 = .ok (.new 39, 3) := by decide +kernel
theorem dX10_init_60 : decode cX10_init 60 = .ok (.dup, 1) := by decide +kernel
theorem dX10_init_61 : decode cX10_init 61 = .ok (.invokespecial 41, 3) := by decide +kernel
theorem dX10_init_64 : decode cX10_init 64 = .ok (.putfield 42, 3) := by decide +kernel
theorem dX10_init_67 : decode cX10_init 67 = .ok (.aload_n 0, 1) := by decide +kernel
theorem dX10_init_68 : decode cX10_init 68 = .ok (.new 39, 3) := by decide +kernel
theorem dX10_init_71 : decode cX10_init 71 = .ok (.dup, 1) := by decide +kernel
theorem dX10_init_72 : decode cX10_init 72 = .ok (.invokespecial 41, 3) := by decide +kernel
theorem dX10_init_75 : decode cX10_init 75 = .ok (.putfield 46, 3) := by decide +kernel
theorem dX10_init_78 : decode cX10_init 78 = .ok (.aload_n 0, 1) := by decide +kernel
theorem dX10_init_79 : decode cX10_init 79 = .ok (.new 39, 3) := by decide +kernel
theorem dX10_init_82 : decode cX10_init 82 = .ok (.dup, 1) := by decide +kernel
theorem dX10_init_83 : decode cX10_init 83 = .ok (.invokespecial 41, 3) := by decide +kernel
theorem dX10_init_86 : decode cX10_init 86 = .ok (.putfield 49, 3) := by decide +kernel
theorem dX10_init_89 : decode cX10_init 89 = .ok (.aload_n 0, 1) := by decide +kernel
theorem dX10_init_90 : decode cX10_init 90 = .ok (.new 52, 3) := by decide +kernel
theorem dX10_init_93 : decode cX10_init 93 = .ok (.dup, 1) := by decide +kernel
theorem dX10_init_94 : decode cX10_init 94 = .ok (.invokespecial 54, 3) := by decide +kernel
theorem dX10_init_97 : decode cX10_init 97 = .ok (.putfield 55, 3) := by decide +kernel
theorem dX10_init_100 : decode cX10_init 100 = .ok (.aload_n 0, 1) := by decide +kernel
theorem dX10_init_101 : decode cX10_init 101 = .ok (.new 59, 3) := by decide +kernel
theorem dX10_init_104 : decode cX10_init 104 = .ok (.dup, 1) := by decide +kernel
theorem dX10_init_105 : decode cX10_init 105 = .ok (.aload_n 0, 1) := by decide +kernel
theorem dX10_init_106 : decode cX10_init 106 = .ok (.getfield 46, 3) := by decide +kernel
theorem dX10_init_109 : decode cX10_init 109 = .ok (.aload_n 0, 1) := by decide +kernel
theorem dX10_init_110 : decode cX10_init 110 = .ok (.getfield 35, 3) := by decide +kernel
theorem dX10_init_113 : decode cX10_init 113 = .ok (.invokespecial 61, 3) := by decide +kernel
theorem dX10_init_116 : decode cX10_init 116 = .ok (.putfield 64, 3) := by decide +kernel
theorem dX10_init_119 : decode cX10_init 119 = .ok (.aload_n 0, 1) := by decide +kernel
theorem dX10_init_120 : decode cX10_init 120 = .ok (.new 68, 3) := by decide +kernel
theorem dX10_init_123 : decode cX10_init 123 = .ok (.dup, 1) := by decide +kernel
theorem dX10_init_124 : decode cX10_init 124 = .ok (.aload_n 0, 1) := by decide +kernel
theorem dX10_init_125 : decode cX10_init 125 = .ok (.getfield 42, 3) := by decide +kernel
theorem dX10_init_128 : decode cX10_init 128 = .ok (.aload_n 0, 1) := by decide +kernel
theorem dX10_init_129 : decode cX10_init 129 = .ok (.getfield 35, 3) := by decide +kernel
theorem dX10_init_132 : decode cX10_init 132 = .ok (.invokespecial 70, 3) := by decide +kernel
theorem dX10_init_135 : decode cX10_init 135 = .ok (.putfield 71, 3) := by decide +kernel
theorem dX10_init_138 : decode cX10_init 138 = .ok (.aload_n 0, 1) := by decide +kernel
theorem dX10_init_139 : decode cX10_init 139 = .ok (.new 75, 3) := by decide +kernel
theorem dX10_init_142 : decode cX10_init 142 = .ok (.dup, 1) := by decide +kernel
theorem dX10_init_143 : decode cX10_init 143 = .ok (.invokespecial 77, 3) := by decide +kernel
theorem dX10_init_146 : decode cX10_init 146 = .ok (.putfield 78, 3) := by decide +kernel
theorem dX10_init_149 : decode cX10_init 149 = .ok (.aload_n 0, 1) := by decide +kernel
theorem dX10_init_150 : decode cX10_init 150 = .ok (.iconst 5, 1) := by decide +kernel
theorem dX10_init_151 : decode cX10_init 151 = .ok (.newarray .int, 2) := by decide +kernel
theorem dX10_init_153 : decode cX10_init 153 = .ok (.putfield 82, 3) := by decide +kernel
theorem dX10_init_156 : decode cX10_init 156 = .ok (.return_, 1) := by decide +kernel
theorem dX10_feed_0 : decode cX10_feed 0 = .ok (.iload_n 1, 1) := by decide +kernel
theorem dX10_feed_1 : decode cX10_feed 1 = .ok (.invokestatic 86, 3) := by decide +kernel
theorem dX10_feed_4 : decode cX10_feed 4 = .ok (.iload_n 2, 1) := by decide +kernel
theorem dX10_feed_5 : decode cX10_feed 5 = .ok (.invokestatic 86, 3) := by decide +kernel
theorem dX10_feed_8 : decode cX10_feed 8 = .ok (.iadd, 1) := by decide +kernel
theorem dX10_feed_9 : decode cX10_feed 9 = .ok (.iload_n 3, 1) := by decide +kernel
theorem dX10_feed_10 : decode cX10_feed 10 = .ok (.invokestatic 86, 3) := by decide +kernel
theorem dX10_feed_13 : decode cX10_feed 13 = .ok (.iadd, 1) := by decide +kernel
theorem dX10_feed_14 : decode cX10_feed 14 = .ok (.iload 4, 2) := by decide +kernel
theorem dX10_feed_16 : decode cX10_feed 16 = .ok (.invokestatic 86, 3) := by decide +kernel
theorem dX10_feed_19 : decode cX10_feed 19 = .ok (.iadd, 1) := by decide +kernel
theorem dX10_feed_20 : decode cX10_feed 20 = .ok (.iload 5, 2) := by decide +kernel
theorem dX10_feed_22 : decode cX10_feed 22 = .ok (.invokestatic 86, 3) := by decide +kernel
theorem dX10_feed_25 : decode cX10_feed 25 = .ok (.iadd, 1) := by decide +kernel
theorem dX10_feed_26 : decode cX10_feed 26 = .ok (.istore 6, 2) := by decide +kernel
theorem dX10_feed_28 : decode cX10_feed 28 = .ok (.aload_n 0, 1) := by decide +kernel
theorem dX10_feed_29 : decode cX10_feed 29 = .ok (.getfield 12, 3) := by decide +kernel
theorem dX10_feed_32 : decode cX10_feed 32 = .ok (.invokevirtual 90, 3) := by decide +kernel
theorem dX10_feed_35 : decode cX10_feed 35 = .ok (.iload 6, 2) := by decide +kernel
theorem dX10_feed_37 : decode cX10_feed 37 = .ok (.iadd, 1) := by decide +kernel
theorem dX10_feed_38 : decode cX10_feed 38 = .ok (.sipush 240, 3) := by decide +kernel
theorem dX10_feed_41 : decode cX10_feed 41 = .ok (.if_icmp .le 5, 3) := by decide +kernel
theorem dX10_feed_44 : decode cX10_feed 44 = .ok (.iconst (-1), 1) := by decide +kernel
theorem dX10_feed_45 : decode cX10_feed 45 = .ok (.ireturn, 1) := by decide +kernel
theorem dX10_feed_46 : decode cX10_feed 46 = .ok (.aload_n 0, 1) := by decide +kernel
theorem dX10_feed_47 : decode cX10_feed 47 = .ok (.getfield 12, 3) := by decide +kernel
theorem dX10_feed_50 : decode cX10_feed 50 = .ok (.iload_n 1, 1) := by decide +kernel
theorem dX10_feed_51 : decode cX10_feed 51 = .ok (.invokevirtual 94, 3) := by decide +kernel
theorem dX10_feed_54 : decode cX10_feed 54 = .ok (.aload_n 0, 1) := by decide +kernel
theorem dX10_feed_55 : decode cX10_feed 55 = .ok (.getfield 12, 3) := by decide +kernel
theorem dX10_feed_58 : decode cX10_feed 58 = .ok (.iload_n 2, 1) := by decide +kernel
theorem dX10_feed_59 : decode cX10_feed 59 = .ok (.invokevirtual 94, 3) := by decide +kernel
theorem dX10_feed_62 : decode cX10_feed 62 = .ok (.aload_n 0, 1) := by decide +kernel
theorem dX10_feed_63 : decode cX10_feed 63 = .ok (.getfield 12, 3) := by decide +kernel
theorem dX10_feed_66 : decode cX10_feed 66 = .ok (.iload_n 3, 1) := by decide +kernel
theorem dX10_feed_67 : decode cX10_feed 67 = .ok (.invokevirtual 94, 3) := by decide +kernel
theorem dX10_feed_70 : decode cX10_feed 70 = .ok (.aload_n 0, 1) := by decide +kernel
theorem dX10_feed_71 : decode cX10_feed 71 = .ok (.getfield 12, 3) := by decide +kernel
theorem dX10_feed_74 : decode cX10_feed 74 = .ok (.iload 4, 2) := by decide +kernel
theorem dX10_feed_76 : decode cX10_feed 76 = .ok (.invokevirtual 94, 3) := by decide +kernel
theorem dX10_feed_79 : decode cX10_feed 79 = .ok (.aload_n 0, 1) := by decide +kernel
theorem dX10_feed_80 : decode cX10_feed 80 = .ok (.getfield 12, 3) := by decide +kernel
theorem dX10_feed_83 : decode cX10_feed 83 = .ok (.iload 5, 2) := by decide +kernel
theorem dX10_feed_85 : decode cX10_feed 85 = .ok (.invokevirtual 94, 3) := by decide +kernel
theorem dX10_feed_88 : decode cX10_feed 88 = .ok (.aload_n 0, 1) := by decide +kernel
theorem dX10_feed_89 : decode cX10_feed 89 = .ok (.getfield 12, 3) := by decide +kernel
theorem dX10_feed_92 : decode cX10_feed 92 = .ok (.invokevirtual 90, 3) := by decide +kernel
theorem dX10_feed_95 : decode cX10_feed 95 = .ok (.ireturn, 1) := by decide +kernel
theorem dX10_end_0 : decode cX10_end 0 = .ok (.iload_n 1, 1) := by decide +kernel
theorem dX10_end_1 : decode cX10_end 1 = .ok (.ifCond .lt 14, 3) := by decide +kernel
theorem dX10_end_4 : decode cX10_end 4 = .ok (.iload_n 1, 1) := by decide +kernel
theorem dX10_end_5 : decode cX10_end 5 = .ok (.aload_n 0, 1) := by decide +kernel
theorem dX10_end_6 : decode cX10_end 6 = .ok (.getfield 12, 3) := by decide +kernel
theorem dX10_end_9 : decode cX10_end 9 = .ok (.invokevirtual 90, 3) := by decide +kernel
theorem dX10_end_12 : decode cX10_end 12 = .ok (.if_icmp .le 5, 3) := by decide +kernel
theorem dX10_end_15 : decode cX10_end 15 = .ok (.iconst 0, 1) := by decide +kernel
theorem dX10_end_16 : decode cX10_end 16 = .ok (.ireturn, 1) := by decide +kernel
theorem dX10_end_17 : decode cX10_end 17 = .ok (.aload_n 0, 1) := by decide +kernel
theorem dX10_end_18 : decode cX10_end 18 = .ok (.getfield 12, 3) := by decide +kernel
theorem dX10_end_21 : decode cX10_end 21 = .ok (.iload_n 1, 1) := by decide +kernel
theorem dX10_end_22 : decode cX10_end 22 = .ok (.invokevirtual 98, 3) := by decide +kernel
theorem dX10_end_25 : decode cX10_end 25 = .ok (.iconst 1, 1) := by decide +kernel
theorem dX10_end_26 : decode cX10_end 26 = .ok (.ireturn, 1) := by decide +kernel
theorem dX10_fault_0 : decode cX10_fault 0 = .ok (.iload_n 1, 1) := by decide +kernel
theorem dX10_fault_1 : decode cX10_fault 1 = .ok (.lookupswitch 43 #[(0, 27), (1, 35)], 27) := by decide +kernel
theorem dX10_fault_28 : decode cX10_fault 28 = .ok (.aload_n 0, 1) := by decide +kernel
theorem dX10_fault_29 : decode cX10_fault 29 = .ok (.getfield 21, 3) := by decide +kernel
theorem dX10_fault_32 : decode cX10_fault 32 = .ok (.invokevirtual 101, 3) := by decide +kernel
theorem dX10_fault_35 : decode cX10_fault 35 = .ok (.ireturn, 1) := by decide +kernel
theorem dX10_fault_36 : decode cX10_fault 36 = .ok (.aload_n 0, 1) := by decide +kernel
theorem dX10_fault_37 : decode cX10_fault 37 = .ok (.getfield 28, 3) := by decide +kernel
theorem dX10_fault_40 : decode cX10_fault 40 = .ok (.invokevirtual 104, 3) := by decide +kernel
theorem dX10_fault_43 : decode cX10_fault 43 = .ok (.ireturn, 1) := by decide +kernel
theorem dX10_fault_44 : decode cX10_fault 44 = .ok (.bipush (-2), 2) := by decide +kernel
theorem dX10_fault_46 : decode cX10_fault 46 = .ok (.ireturn, 1) := by decide +kernel
theorem dX10_text_0 : decode cX10_text 0 = .ok (.iload_n 1, 1) := by decide +kernel
theorem dX10_text_1 : decode cX10_text 1 = .ok (.ifCond .ne 23, 3) := by decide +kernel
theorem dX10_text_4 : decode cX10_text 4 = .ok (.aload_n 0, 1) := by decide +kernel
theorem dX10_text_5 : decode cX10_text 5 = .ok (.getfield 21, 3) := by decide +kernel
theorem dX10_text_8 : decode cX10_text 8 = .ok (.invokevirtual 101, 3) := by decide +kernel
theorem dX10_text_11 : decode cX10_text 11 = .ok (.iconst (-1), 1) := by decide +kernel
theorem dX10_text_12 : decode cX10_text 12 = .ok (.if_icmp .ne 10, 3) := by decide +kernel
theorem dX10_text_15 : decode cX10_text 15 = .ok (.aload_n 0, 1) := by decide +kernel
theorem dX10_text_16 : decode cX10_text 16 = .ok (.invokevirtual 107, 3) := by decide +kernel
theorem dX10_text_19 : decode cX10_text 19 = .ok (.goto 4, 3) := by decide +kernel
theorem dX10_text_22 : decode cX10_text 22 = .ok (.iconst (-1), 1) := by decide +kernel
theorem dX10_text_23 : decode cX10_text 23 = .ok (.ireturn, 1) := by decide +kernel
theorem dX10_text_24 : decode cX10_text 24 = .ok (.iload_n 1, 1) := by decide +kernel
theorem dX10_text_25 : decode cX10_text 25 = .ok (.iconst 1, 1) := by decide +kernel
theorem dX10_text_26 : decode cX10_text 26 = .ok (.if_icmp .ne 34, 3) := by decide +kernel
theorem dX10_text_29 : decode cX10_text 29 = .ok (.aload_n 0, 1) := by decide +kernel
theorem dX10_text_30 : decode cX10_text 30 = .ok (.getfield 35, 3) := by decide +kernel
theorem dX10_text_33 : decode cX10_text 33 = .ok (.getfield 110, 3) := by decide +kernel
theorem dX10_text_36 : decode cX10_text 36 = .ok (.iconst 4, 1) := by decide +kernel
theorem dX10_text_37 : decode cX10_text 37 = .ok (.if_icmp .ge 23, 3) := by decide +kernel
theorem dX10_text_40 : decode cX10_text 40 = .ok (.aload_n 0, 1) := by decide +kernel
theorem dX10_text_41 : decode cX10_text 41 = .ok (.getfield 28, 3) := by decide +kernel
theorem dX10_text_44 : decode cX10_text 44 = .ok (.invokevirtual 104, 3) := by decide +kernel
theorem dX10_text_47 : decode cX10_text 47 = .ok (.iconst (-1), 1) := by decide +kernel
theorem dX10_text_48 : decode cX10_text 48 = .ok (.if_icmp .ne 10, 3) := by decide +kernel
theorem dX10_text_51 : decode cX10_text 51 = .ok (.aload_n 0, 1) := by decide +kernel
theorem dX10_text_52 : decode cX10_text 52 = .ok (.invokevirtual 114, 3) := by decide +kernel
theorem dX10_text_55 : decode cX10_text 55 = .ok (.goto 4, 3) := by decide +kernel
theorem dX10_text_58 : decode cX10_text 58 = .ok (.iconst (-1), 1) := by decide +kernel
theorem dX10_text_59 : decode cX10_text 59 = .ok (.ireturn, 1) := by decide +kernel
theorem dX10_text_60 : decode cX10_text 60 = .ok (.iconst (-1), 1) := by decide +kernel
theorem dX10_text_61 : decode cX10_text 61 = .ok (.ireturn, 1) := by decide +kernel
theorem dX10_takePlain_0 : decode cX10_takePlain 0 = .ok (.aload_n 0, 1) := by decide +kernel
theorem dX10_takePlain_1 : decode cX10_takePlain 1 = .ok (.getfield 42, 3) := by decide +kernel
theorem dX10_takePlain_4 : decode cX10_takePlain 4 = .ok (.aload_n 0, 1) := by decide +kernel
theorem dX10_takePlain_5 : decode cX10_takePlain 5 = .ok (.getfield 21, 3) := by decide +kernel
theorem dX10_takePlain_8 : decode cX10_takePlain 8 = .ok (.getfield 117, 3) := by decide +kernel
theorem dX10_takePlain_11 : decode cX10_takePlain 11 = .ok (.invokevirtual 120, 3) := by decide +kernel
theorem dX10_takePlain_14 : decode cX10_takePlain 14 = .ok (.aload_n 0, 1) := by decide +kernel
theorem dX10_takePlain_15 : decode cX10_takePlain 15 = .ok (.getfield 46, 3) := by decide +kernel
theorem dX10_takePlain_18 : decode cX10_takePlain 18 = .ok (.aload_n 0, 1) := by decide +kernel
theorem dX10_takePlain_19 : decode cX10_takePlain 19 = .ok (.getfield 42, 3) := by decide +kernel
theorem dX10_takePlain_22 : decode cX10_takePlain 22 = .ok (.invokevirtual 120, 3) := by decide +kernel
theorem dX10_takePlain_25 : decode cX10_takePlain 25 = .ok (.aload_n 0, 1) := by decide +kernel
theorem dX10_takePlain_26 : decode cX10_takePlain 26 = .ok (.getfield 55, 3) := by decide +kernel
theorem dX10_takePlain_29 : decode cX10_takePlain 29 = .ok (.invokevirtual 124, 3) := by decide +kernel
theorem dX10_takePlain_32 : decode cX10_takePlain 32 = .ok (.aload_n 0, 1) := by decide +kernel
theorem dX10_takePlain_33 : decode cX10_takePlain 33 = .ok (.getfield 71, 3) := by decide +kernel
theorem dX10_takePlain_36 : decode cX10_takePlain 36 = .ok (.invokevirtual 127, 3) := by decide +kernel
theorem dX10_takePlain_39 : decode cX10_takePlain 39 = .ok (.aload_n 0, 1) := by decide +kernel
theorem dX10_takePlain_40 : decode cX10_takePlain 40 = .ok (.iconst 1, 1) := by decide +kernel
theorem dX10_takePlain_41 : decode cX10_takePlain 41 = .ok (.putfield 128, 3) := by decide +kernel
theorem dX10_takePlain_44 : decode cX10_takePlain 44 = .ok (.aload_n 0, 1) := by decide +kernel
theorem dX10_takePlain_45 : decode cX10_takePlain 45 = .ok (.iconst 0, 1) := by decide +kernel
theorem dX10_takePlain_46 : decode cX10_takePlain 46 = .ok (.putfield 132, 3) := by decide +kernel
theorem dX10_takePlain_49 : decode cX10_takePlain 49 = .ok (.aload_n 0, 1) := by decide +kernel
theorem dX10_takePlain_50 : decode cX10_takePlain 50 = .ok (.getfield 12, 3) := by decide +kernel
theorem dX10_takePlain_53 : decode cX10_takePlain 53 = .ok (.iconst 0, 1) := by decide +kernel
theorem dX10_takePlain_54 : decode cX10_takePlain 54 = .ok (.invokevirtual 98, 3) := by decide +kernel
theorem dX10_takePlain_57 : decode cX10_takePlain 57 = .ok (.aload_n 0, 1) := by decide +kernel
theorem dX10_takePlain_58 : decode cX10_takePlain 58 = .ok (.getfield 46, 3) := by decide +kernel
theorem dX10_takePlain_61 : decode cX10_takePlain 61 = .ok (.bipush 9, 2) := by decide +kernel
theorem dX10_takePlain_63 : decode cX10_takePlain 63 = .ok (.invokevirtual 135, 3) := by decide +kernel
theorem dX10_takePlain_66 : decode cX10_takePlain 66 = .ok (.ireturn, 1) := by decide +kernel
theorem dX10_takeLaw_0 : decode cX10_takeLaw 0 = .ok (.aload_n 0, 1) := by decide +kernel
theorem dX10_takeLaw_1 : decode cX10_takeLaw 1 = .ok (.getfield 35, 3) := by decide +kernel
theorem dX10_takeLaw_4 : decode cX10_takeLaw 4 = .ok (.aload_n 0, 1) := by decide +kernel
theorem dX10_takeLaw_5 : decode cX10_takeLaw 5 = .ok (.getfield 28, 3) := by decide +kernel
theorem dX10_takeLaw_8 : decode cX10_takeLaw 8 = .ok (.getfield 138, 3) := by decide +kernel
theorem dX10_takeLaw_11 : decode cX10_takeLaw 11 = .ok (.aload_n 0, 1) := by decide +kernel
theorem dX10_takeLaw_12 : decode cX10_takeLaw 12 = .ok (.getfield 28, 3) := by decide +kernel
theorem dX10_takeLaw_15 : decode cX10_takeLaw 15 = .ok (.getfield 141, 3) := by decide +kernel
theorem dX10_takeLaw_18 : decode cX10_takeLaw 18 = .ok (.invokevirtual 143, 3) := by decide +kernel
theorem dX10_takeLaw_21 : decode cX10_takeLaw 21 = .ok (.istore_n 1, 1) := by decide +kernel
theorem dX10_takeLaw_22 : decode cX10_takeLaw 22 = .ok (.aload_n 0, 1) := by decide +kernel
theorem dX10_takeLaw_23 : decode cX10_takeLaw 23 = .ok (.getfield 12, 3) := by decide +kernel
theorem dX10_takeLaw_26 : decode cX10_takeLaw 26 = .ok (.iconst 0, 1) := by decide +kernel
theorem dX10_takeLaw_27 : decode cX10_takeLaw 27 = .ok (.invokevirtual 98, 3) := by decide +kernel
theorem dX10_takeLaw_30 : decode cX10_takeLaw 30 = .ok (.iload_n 1, 1) := by decide +kernel
theorem dX10_takeLaw_31 : decode cX10_takeLaw 31 = .ok (.ireturn, 1) := by decide +kernel
theorem dX10_rule_0 : decode cX10_rule 0 = .ok (.aload_n 0, 1) := by decide +kernel
theorem dX10_rule_1 : decode cX10_rule 1 = .ok (.getfield 128, 3) := by decide +kernel
theorem dX10_rule_4 : decode cX10_rule 4 = .ok (.ifCond .eq 23, 3) := by decide +kernel
theorem dX10_rule_7 : decode cX10_rule 7 = .ok (.iload_n 1, 1) := by decide +kernel
theorem dX10_rule_8 : decode cX10_rule 8 = .ok (.ifCond .lt 19, 3) := by decide +kernel
theorem dX10_rule_11 : decode cX10_rule 11 = .ok (.iload_n 1, 1) := by decide +kernel
theorem dX10_rule_12 : decode cX10_rule 12 = .ok (.iconst 3, 1) := by decide +kernel
theorem dX10_rule_13 : decode cX10_rule 13 = .ok (.if_icmp .gt 14, 3) := by decide +kernel
theorem dX10_rule_16 : decode cX10_rule 16 = .ok (.aload_n 0, 1) := by decide +kernel
theorem dX10_rule_17 : decode cX10_rule 17 = .ok (.getfield 46, 3) := by decide +kernel
theorem dX10_rule_20 : decode cX10_rule 20 = .ok (.iload_n 1, 1) := by decide +kernel
theorem dX10_rule_21 : decode cX10_rule 21 = .ok (.invokevirtual 135, 3) := by decide +kernel
theorem dX10_rule_24 : decode cX10_rule 24 = .ok (.goto 4, 3) := by decide +kernel
theorem dX10_rule_27 : decode cX10_rule 27 = .ok (.iconst (-1), 1) := by decide +kernel
theorem dX10_rule_28 : decode cX10_rule 28 = .ok (.ireturn, 1) := by decide +kernel
theorem dX10_month_0 : decode cX10_month 0 = .ok (.aload_n 0, 1) := by decide +kernel
theorem dX10_month_1 : decode cX10_month 1 = .ok (.getfield 46, 3) := by decide +kernel
theorem dX10_month_4 : decode cX10_month 4 = .ok (.iload_n 1, 1) := by decide +kernel
theorem dX10_month_5 : decode cX10_month 5 = .ok (.invokevirtual 147, 3) := by decide +kernel
theorem dX10_month_8 : decode cX10_month 8 = .ok (.ifCond .eq 24, 3) := by decide +kernel
theorem dX10_month_11 : decode cX10_month 11 = .ok (.iload_n 2, 1) := by decide +kernel
theorem dX10_month_12 : decode cX10_month 12 = .ok (.ifCond .lt 20, 3) := by decide +kernel
theorem dX10_month_15 : decode cX10_month 15 = .ok (.iload_n 2, 1) := by decide +kernel
theorem dX10_month_16 : decode cX10_month 16 = .ok (.iconst 4, 1) := by decide +kernel
theorem dX10_month_17 : decode cX10_month 17 = .ok (.if_icmp .gt 15, 3) := by decide +kernel
theorem dX10_month_20 : decode cX10_month 20 = .ok (.aload_n 0, 1) := by decide +kernel
theorem dX10_month_21 : decode cX10_month 21 = .ok (.getfield 46, 3) := by decide +kernel
theorem dX10_month_24 : decode cX10_month 24 = .ok (.iload_n 1, 1) := by decide +kernel
theorem dX10_month_25 : decode cX10_month 25 = .ok (.iload_n 2, 1) := by decide +kernel
theorem dX10_month_26 : decode cX10_month 26 = .ok (.invokevirtual 151, 3) := by decide +kernel
theorem dX10_month_29 : decode cX10_month 29 = .ok (.goto 4, 3) := by decide +kernel
theorem dX10_month_32 : decode cX10_month 32 = .ok (.iconst (-1), 1) := by decide +kernel
theorem dX10_month_33 : decode cX10_month 33 = .ok (.ireturn, 1) := by decide +kernel
theorem dX10_crop_0 : decode cX10_crop 0 = .ok (.aload_n 0, 1) := by decide +kernel
theorem dX10_crop_1 : decode cX10_crop 1 = .ok (.getfield 46, 3) := by decide +kernel
theorem dX10_crop_4 : decode cX10_crop 4 = .ok (.iload_n 1, 1) := by decide +kernel
theorem dX10_crop_5 : decode cX10_crop 5 = .ok (.invokevirtual 155, 3) := by decide +kernel
theorem dX10_crop_8 : decode cX10_crop 8 = .ok (.ifCond .eq 12, 3) := by decide +kernel
theorem dX10_crop_11 : decode cX10_crop 11 = .ok (.iload_n 2, 1) := by decide +kernel
theorem dX10_crop_12 : decode cX10_crop 12 = .ok (.ifCond .lt 8, 3) := by decide +kernel
theorem dX10_crop_15 : decode cX10_crop 15 = .ok (.iload_n 2, 1) := by decide +kernel
theorem dX10_crop_16 : decode cX10_crop 16 = .ok (.iconst 5, 1) := by decide +kernel
theorem dX10_crop_17 : decode cX10_crop 17 = .ok (.if_icmp .le 13, 3) := by decide +kernel
theorem dX10_crop_20 : decode cX10_crop 20 = .ok (.new 158, 3) := by decide +kernel
theorem dX10_crop_23 : decode cX10_crop 23 = .ok (.dup, 1) := by decide +kernel
theorem dX10_crop_24 : decode cX10_crop 24 = .ok (.ldc 160, 2) := by decide +kernel
theorem dX10_crop_26 : decode cX10_crop 26 = .ok (.invokespecial 162, 3) := by decide +kernel
theorem dX10_crop_29 : decode cX10_crop 29 = .ok (.athrow, 1) := by decide +kernel
theorem dX10_crop_30 : decode cX10_crop 30 = .ok (.aload_n 0, 1) := by decide +kernel
theorem dX10_crop_31 : decode cX10_crop 31 = .ok (.getfield 46, 3) := by decide +kernel
theorem dX10_crop_34 : decode cX10_crop 34 = .ok (.iload_n 1, 1) := by decide +kernel
theorem dX10_crop_35 : decode cX10_crop 35 = .ok (.iload_n 2, 1) := by decide +kernel
theorem dX10_crop_36 : decode cX10_crop 36 = .ok (.invokevirtual 165, 3) := by decide +kernel
theorem dX10_crop_39 : decode cX10_crop 39 = .ok (.ireturn, 1) := by decide +kernel
theorem dX10_law_0 : decode cX10_law 0 = .ok (.iload_n 1, 1) := by decide +kernel
theorem dX10_law_1 : decode cX10_law 1 = .ok (.iconst (-1), 1) := by decide +kernel
theorem dX10_law_2 : decode cX10_law 2 = .ok (.if_icmp .lt 14, 3) := by decide +kernel
theorem dX10_law_5 : decode cX10_law 5 = .ok (.iload_n 1, 1) := by decide +kernel
theorem dX10_law_6 : decode cX10_law 6 = .ok (.aload_n 0, 1) := by decide +kernel
theorem dX10_law_7 : decode cX10_law 7 = .ok (.getfield 35, 3) := by decide +kernel
theorem dX10_law_10 : decode cX10_law 10 = .ok (.getfield 110, 3) := by decide +kernel
theorem dX10_law_13 : decode cX10_law 13 = .ok (.if_icmp .lt 5, 3) := by decide +kernel
theorem dX10_law_16 : decode cX10_law 16 = .ok (.iconst 0, 1) := by decide +kernel
theorem dX10_law_17 : decode cX10_law 17 = .ok (.ireturn, 1) := by decide +kernel
theorem dX10_law_18 : decode cX10_law 18 = .ok (.aload_n 0, 1) := by decide +kernel
theorem dX10_law_19 : decode cX10_law 19 = .ok (.getfield 35, 3) := by decide +kernel
theorem dX10_law_22 : decode cX10_law 22 = .ok (.iload_n 1, 1) := by decide +kernel
theorem dX10_law_23 : decode cX10_law 23 = .ok (.putfield 168, 3) := by decide +kernel
theorem dX10_law_26 : decode cX10_law 26 = .ok (.iconst 1, 1) := by decide +kernel
theorem dX10_law_27 : decode cX10_law 27 = .ok (.ireturn, 1) := by decide +kernel
theorem dX10_pull_0 : decode cX10_pull 0 = .ok (.aload_n 0, 1) := by decide +kernel
theorem dX10_pull_1 : decode cX10_pull 1 = .ok (.getfield 128, 3) := by decide +kernel
theorem dX10_pull_4 : decode cX10_pull 4 = .ok (.ifCond .eq 17, 3) := by decide +kernel
theorem dX10_pull_7 : decode cX10_pull 7 = .ok (.aload_n 0, 1) := by decide +kernel
theorem dX10_pull_8 : decode cX10_pull 8 = .ok (.getfield 35, 3) := by decide +kernel
theorem dX10_pull_11 : decode cX10_pull 11 = .ok (.aload_n 0, 1) := by decide +kernel
theorem dX10_pull_12 : decode cX10_pull 12 = .ok (.getfield 46, 3) := by decide +kernel
theorem dX10_pull_15 : decode cX10_pull 15 = .ok (.invokevirtual 171, 3) := by decide +kernel
theorem dX10_pull_18 : decode cX10_pull 18 = .ok (.goto 4, 3) := by decide +kernel
theorem dX10_pull_21 : decode cX10_pull 21 = .ok (.iconst (-1), 1) := by decide +kernel
theorem dX10_pull_22 : decode cX10_pull 22 = .ok (.ireturn, 1) := by decide +kernel
theorem dX10_status_0 : decode cX10_status 0 = .ok (.iload_n 1, 1) := by decide +kernel
theorem dX10_status_1 : decode cX10_status 1 = .ok (.ifCond .lt 19, 3) := by decide +kernel
theorem dX10_status_4 : decode cX10_status 4 = .ok (.iload_n 1, 1) := by decide +kernel
theorem dX10_status_5 : decode cX10_status 5 = .ok (.iconst 5, 1) := by decide +kernel
theorem dX10_status_6 : decode cX10_status 6 = .ok (.if_icmp .ge 14, 3) := by decide +kernel
theorem dX10_status_9 : decode cX10_status 9 = .ok (.aload_n 0, 1) := by decide +kernel
theorem dX10_status_10 : decode cX10_status 10 = .ok (.getfield 82, 3) := by decide +kernel
theorem dX10_status_13 : decode cX10_status 13 = .ok (.iload_n 1, 1) := by decide +kernel
theorem dX10_status_14 : decode cX10_status 14 = .ok (.invokestatic 175, 3) := by decide +kernel
theorem dX10_status_17 : decode cX10_status 17 = .ok (.goto 4, 3) := by decide +kernel
theorem dX10_status_20 : decode cX10_status 20 = .ok (.iconst (-1), 1) := by decide +kernel
theorem dX10_status_21 : decode cX10_status 21 = .ok (.ireturn, 1) := by decide +kernel
theorem dX10_log_0 : decode cX10_log 0 = .ok (.iload_n 1, 1) := by decide +kernel
theorem dX10_log_1 : decode cX10_log 1 = .ok (.ifCond .lt 37, 3) := by decide +kernel
theorem dX10_log_4 : decode cX10_log 4 = .ok (.iload_n 1, 1) := by decide +kernel
theorem dX10_log_5 : decode cX10_log 5 = .ok (.aload_n 0, 1) := by decide +kernel
theorem dX10_log_6 : decode cX10_log 6 = .ok (.getfield 46, 3) := by decide +kernel
theorem dX10_log_9 : decode cX10_log 9 = .ok (.bipush 11, 2) := by decide +kernel
theorem dX10_log_11 : decode cX10_log 11 = .ok (.invokevirtual 135, 3) := by decide +kernel
theorem dX10_log_14 : decode cX10_log 14 = .ok (.if_icmp .ge 24, 3) := by decide +kernel
theorem dX10_log_17 : decode cX10_log 17 = .ok (.iload_n 2, 1) := by decide +kernel
theorem dX10_log_18 : decode cX10_log 18 = .ok (.ifCond .lt 20, 3) := by decide +kernel
theorem dX10_log_21 : decode cX10_log 21 = .ok (.iload_n 2, 1) := by decide +kernel
theorem dX10_log_22 : decode cX10_log 22 = .ok (.iconst 3, 1) := by decide +kernel
theorem dX10_log_23 : decode cX10_log 23 = .ok (.if_icmp .gt 15, 3) := by decide +kernel
theorem dX10_log_26 : decode cX10_log 26 = .ok (.aload_n 0, 1) := by decide +kernel
theorem dX10_log_27 : decode cX10_log 27 = .ok (.getfield 46, 3) := by decide +kernel
theorem dX10_log_30 : decode cX10_log 30 = .ok (.iload_n 1, 1) := by decide +kernel
theorem dX10_log_31 : decode cX10_log 31 = .ok (.iload_n 2, 1) := by decide +kernel
theorem dX10_log_32 : decode cX10_log 32 = .ok (.invokevirtual 178, 3) := by decide +kernel
theorem dX10_log_35 : decode cX10_log 35 = .ok (.goto 4, 3) := by decide +kernel
theorem dX10_log_38 : decode cX10_log 38 = .ok (.iconst (-1), 1) := by decide +kernel
theorem dX10_log_39 : decode cX10_log 39 = .ok (.ireturn, 1) := by decide +kernel
theorem dX10_year_0 : decode cX10_year 0 = .ok (.aload_n 0, 1) := by decide +kernel
theorem dX10_year_1 : decode cX10_year 1 = .ok (.getfield 128, 3) := by decide +kernel
theorem dX10_year_4 : decode cX10_year 4 = .ok (.ifCond .eq 13, 3) := by decide +kernel
theorem dX10_year_7 : decode cX10_year 7 = .ok (.aload_n 0, 1) := by decide +kernel
theorem dX10_year_8 : decode cX10_year 8 = .ok (.getfield 46, 3) := by decide +kernel
theorem dX10_year_11 : decode cX10_year 11 = .ok (.invokevirtual 181, 3) := by decide +kernel
theorem dX10_year_14 : decode cX10_year 14 = .ok (.goto 4, 3) := by decide +kernel
theorem dX10_year_17 : decode cX10_year 17 = .ok (.iconst (-1), 1) := by decide +kernel
theorem dX10_year_18 : decode cX10_year 18 = .ok (.ireturn, 1) := by decide +kernel
theorem dX10_level_0 : decode cX10_level 0 = .ok (.aload_n 0, 1) := by decide +kernel
theorem dX10_level_1 : decode cX10_level 1 = .ok (.getfield 46, 3) := by decide +kernel
theorem dX10_level_4 : decode cX10_level 4 = .ok (.iload_n 1, 1) := by decide +kernel
theorem dX10_level_5 : decode cX10_level 5 = .ok (.invokevirtual 147, 3) := by decide +kernel
theorem dX10_level_8 : decode cX10_level 8 = .ok (.ifCond .eq 26, 3) := by decide +kernel
theorem dX10_level_11 : decode cX10_level 11 = .ok (.aload_n 0, 1) := by decide +kernel
theorem dX10_level_12 : decode cX10_level 12 = .ok (.getfield 46, 3) := by decide +kernel
theorem dX10_level_15 : decode cX10_level 15 = .ok (.iload_n 2, 1) := by decide +kernel
theorem dX10_level_16 : decode cX10_level 16 = .ok (.invokevirtual 147, 3) := by decide +kernel
theorem dX10_level_19 : decode cX10_level 19 = .ok (.ifCond .eq 15, 3) := by decide +kernel
theorem dX10_level_22 : decode cX10_level 22 = .ok (.aload_n 0, 1) := by decide +kernel
theorem dX10_level_23 : decode cX10_level 23 = .ok (.getfield 46, 3) := by decide +kernel
theorem dX10_level_26 : decode cX10_level 26 = .ok (.iload_n 1, 1) := by decide +kernel
theorem dX10_level_27 : decode cX10_level 27 = .ok (.iload_n 2, 1) := by decide +kernel
theorem dX10_level_28 : decode cX10_level 28 = .ok (.invokevirtual 184, 3) := by decide +kernel
theorem dX10_level_31 : decode cX10_level 31 = .ok (.goto 4, 3) := by decide +kernel
theorem dX10_level_34 : decode cX10_level 34 = .ok (.iconst (-1), 1) := by decide +kernel
theorem dX10_level_35 : decode cX10_level 35 = .ok (.ireturn, 1) := by decide +kernel
theorem dX10_most_0 : decode cX10_most 0 = .ok (.aload_n 0, 1) := by decide +kernel
theorem dX10_most_1 : decode cX10_most 1 = .ok (.getfield 128, 3) := by decide +kernel
theorem dX10_most_4 : decode cX10_most 4 = .ok (.ifCond .ne 5, 3) := by decide +kernel
theorem dX10_most_7 : decode cX10_most 7 = .ok (.iconst (-1), 1) := by decide +kernel
theorem dX10_most_8 : decode cX10_most 8 = .ok (.ireturn, 1) := by decide +kernel
theorem dX10_most_9 : decode cX10_most 9 = .ok (.iload_n 1, 1) := by decide +kernel
theorem dX10_most_10 : decode cX10_most 10 = .ok (.tableswitch 50 0 2 #[26, 34, 42], 26) := by decide +kernel
theorem dX10_most_36 : decode cX10_most 36 = .ok (.aload_n 0, 1) := by decide +kernel
theorem dX10_most_37 : decode cX10_most 37 = .ok (.getfield 46, 3) := by decide +kernel
theorem dX10_most_40 : decode cX10_most 40 = .ok (.invokevirtual 187, 3) := by decide +kernel
theorem dX10_most_43 : decode cX10_most 43 = .ok (.ireturn, 1) := by decide +kernel
theorem dX10_most_44 : decode cX10_most 44 = .ok (.aload_n 0, 1) := by decide +kernel
theorem dX10_most_45 : decode cX10_most 45 = .ok (.getfield 46, 3) := by decide +kernel
theorem dX10_most_48 : decode cX10_most 48 = .ok (.invokevirtual 190, 3) := by decide +kernel
theorem dX10_most_51 : decode cX10_most 51 = .ok (.ireturn, 1) := by decide +kernel
theorem dX10_most_52 : decode cX10_most 52 = .ok (.aload_n 0, 1) := by decide +kernel
theorem dX10_most_53 : decode cX10_most 53 = .ok (.getfield 46, 3) := by decide +kernel
theorem dX10_most_56 : decode cX10_most 56 = .ok (.invokevirtual 193, 3) := by decide +kernel
theorem dX10_most_59 : decode cX10_most 59 = .ok (.ireturn, 1) := by decide +kernel
theorem dX10_most_60 : decode cX10_most 60 = .ok (.iconst (-1), 1) := by decide +kernel
theorem dX10_most_61 : decode cX10_most 61 = .ok (.ireturn, 1) := by decide +kernel
theorem dX10_worths_0 : decode cX10_worths 0 = .ok (.aload_n 0, 1) := by decide +kernel
theorem dX10_worths_1 : decode cX10_worths 1 = .ok (.getfield 128, 3) := by decide +kernel
theorem dX10_worths_4 : decode cX10_worths 4 = .ok (.ifCond .eq 13, 3) := by decide +kernel
theorem dX10_worths_7 : decode cX10_worths 7 = .ok (.aload_n 0, 1) := by decide +kernel
theorem dX10_worths_8 : decode cX10_worths 8 = .ok (.getfield 46, 3) := by decide +kernel
theorem dX10_worths_11 : decode cX10_worths 11 = .ok (.invokevirtual 196, 3) := by decide +kernel
theorem dX10_worths_14 : decode cX10_worths 14 = .ok (.goto 4, 3) := by decide +kernel
theorem dX10_worths_17 : decode cX10_worths 17 = .ok (.iconst (-1), 1) := by decide +kernel
theorem dX10_worths_18 : decode cX10_worths 18 = .ok (.ireturn, 1) := by decide +kernel
theorem dX10_count_0 : decode cX10_count 0 = .ok (.iload_n 1, 1) := by decide +kernel
theorem dX10_count_1 : decode cX10_count 1 = .ok (.tableswitch 215 0 15 #[79, 89, 99, 107, 115, 123, 133, 142, 152, 161, 169, 179, 184, 189, 197, 207], 79) := by decide +kernel
theorem dX10_count_80 : decode cX10_count 80 = .ok (.aload_n 0, 1) := by decide +kernel
theorem dX10_count_81 : decode cX10_count 81 = .ok (.getfield 46, 3) := by decide +kernel
theorem dX10_count_84 : decode cX10_count 84 = .ok (.bipush 9, 2) := by decide +kernel
theorem dX10_count_86 : decode cX10_count 86 = .ok (.invokevirtual 135, 3) := by decide +kernel
theorem dX10_count_89 : decode cX10_count 89 = .ok (.ireturn, 1) := by decide +kernel
theorem dX10_count_90 : decode cX10_count 90 = .ok (.aload_n 0, 1) := by decide +kernel
theorem dX10_count_91 : decode cX10_count 91 = .ok (.getfield 46, 3) := by decide +kernel
theorem dX10_count_94 : decode cX10_count 94 = .ok (.bipush 10, 2) := by decide +kernel
theorem dX10_count_96 : decode cX10_count 96 = .ok (.invokevirtual 135, 3) := by decide +kernel
theorem dX10_count_99 : decode cX10_count 99 = .ok (.ireturn, 1) := by decide +kernel
theorem dX10_count_100 : decode cX10_count 100 = .ok (.aload_n 0, 1) := by decide +kernel
theorem dX10_count_101 : decode cX10_count 101 = .ok (.getfield 35, 3) := by decide +kernel
theorem dX10_count_104 : decode cX10_count 104 = .ok (.getfield 110, 3) := by decide +kernel
theorem dX10_count_107 : decode cX10_count 107 = .ok (.ireturn, 1) := by decide +kernel
theorem dX10_count_108 : decode cX10_count 108 = .ok (.aload_n 0, 1) := by decide +kernel
theorem dX10_count_109 : decode cX10_count 109 = .ok (.getfield 12, 3) := by decide +kernel
theorem dX10_count_112 : decode cX10_count 112 = .ok (.invokevirtual 90, 3) := by decide +kernel
theorem dX10_count_115 : decode cX10_count 115 = .ok (.ireturn, 1) := by decide +kernel
theorem dX10_count_116 : decode cX10_count 116 = .ok (.aload_n 0, 1) := by decide +kernel
theorem dX10_count_117 : decode cX10_count 117 = .ok (.getfield 35, 3) := by decide +kernel
theorem dX10_count_120 : decode cX10_count 120 = .ok (.getfield 168, 3) := by decide +kernel
theorem dX10_count_123 : decode cX10_count 123 = .ok (.ireturn, 1) := by decide +kernel
theorem dX10_count_124 : decode cX10_count 124 = .ok (.aload_n 0, 1) := by decide +kernel
theorem dX10_count_125 : decode cX10_count 125 = .ok (.getfield 46, 3) := by decide +kernel
theorem dX10_count_128 : decode cX10_count 128 = .ok (.bipush 8, 2) := by decide +kernel
theorem dX10_count_130 : decode cX10_count 130 = .ok (.invokevirtual 135, 3) := by decide +kernel
theorem dX10_count_133 : decode cX10_count 133 = .ok (.ireturn, 1) := by decide +kernel
theorem dX10_count_134 : decode cX10_count 134 = .ok (.aload_n 0, 1) := by decide +kernel
theorem dX10_count_135 : decode cX10_count 135 = .ok (.getfield 46, 3) := by decide +kernel
theorem dX10_count_138 : decode cX10_count 138 = .ok (.iconst 5, 1) := by decide +kernel
theorem dX10_count_139 : decode cX10_count 139 = .ok (.invokevirtual 135, 3) := by decide +kernel
theorem dX10_count_142 : decode cX10_count 142 = .ok (.ireturn, 1) := by decide +kernel
theorem dX10_count_143 : decode cX10_count 143 = .ok (.aload_n 0, 1) := by decide +kernel
theorem dX10_count_144 : decode cX10_count 144 = .ok (.getfield 46, 3) := by decide +kernel
theorem dX10_count_147 : decode cX10_count 147 = .ok (.bipush 6, 2) := by decide +kernel
theorem dX10_count_149 : decode cX10_count 149 = .ok (.invokevirtual 135, 3) := by decide +kernel
theorem dX10_count_152 : decode cX10_count 152 = .ok (.ireturn, 1) := by decide +kernel
theorem dX10_count_153 : decode cX10_count 153 = .ok (.aload_n 0, 1) := by decide +kernel
theorem dX10_count_154 : decode cX10_count 154 = .ok (.getfield 46, 3) := by decide +kernel
theorem dX10_count_157 : decode cX10_count 157 = .ok (.iconst 4, 1) := by decide +kernel
theorem dX10_count_158 : decode cX10_count 158 = .ok (.invokevirtual 135, 3) := by decide +kernel
theorem dX10_count_161 : decode cX10_count 161 = .ok (.ireturn, 1) := by decide +kernel
theorem dX10_count_162 : decode cX10_count 162 = .ok (.aload_n 0, 1) := by decide +kernel
theorem dX10_count_163 : decode cX10_count 163 = .ok (.getfield 46, 3) := by decide +kernel
theorem dX10_count_166 : decode cX10_count 166 = .ok (.invokevirtual 199, 3) := by decide +kernel
theorem dX10_count_169 : decode cX10_count 169 = .ok (.ireturn, 1) := by decide +kernel
theorem dX10_count_170 : decode cX10_count 170 = .ok (.aload_n 0, 1) := by decide +kernel
theorem dX10_count_171 : decode cX10_count 171 = .ok (.getfield 46, 3) := by decide +kernel
theorem dX10_count_174 : decode cX10_count 174 = .ok (.bipush 7, 2) := by decide +kernel
theorem dX10_count_176 : decode cX10_count 176 = .ok (.invokevirtual 135, 3) := by decide +kernel
theorem dX10_count_179 : decode cX10_count 179 = .ok (.ireturn, 1) := by decide +kernel
theorem dX10_count_180 : decode cX10_count 180 = .ok (.aload_n 0, 1) := by decide +kernel
theorem dX10_count_181 : decode cX10_count 181 = .ok (.getfield 202, 3) := by decide +kernel
theorem dX10_count_184 : decode cX10_count 184 = .ok (.ireturn, 1) := by decide +kernel
theorem dX10_count_185 : decode cX10_count 185 = .ok (.aload_n 0, 1) := by decide +kernel
theorem dX10_count_186 : decode cX10_count 186 = .ok (.getfield 205, 3) := by decide +kernel
theorem dX10_count_189 : decode cX10_count 189 = .ok (.ireturn, 1) := by decide +kernel
theorem dX10_count_190 : decode cX10_count 190 = .ok (.aload_n 0, 1) := by decide +kernel
theorem dX10_count_191 : decode cX10_count 191 = .ok (.getfield 71, 3) := by decide +kernel
theorem dX10_count_194 : decode cX10_count 194 = .ok (.getfield 208, 3) := by decide +kernel
theorem dX10_count_197 : decode cX10_count 197 = .ok (.ireturn, 1) := by decide +kernel
theorem dX10_count_198 : decode cX10_count 198 = .ok (.aload_n 0, 1) := by decide +kernel
theorem dX10_count_199 : decode cX10_count 199 = .ok (.getfield 46, 3) := by decide +kernel
theorem dX10_count_202 : decode cX10_count 202 = .ok (.bipush 11, 2) := by decide +kernel
theorem dX10_count_204 : decode cX10_count 204 = .ok (.invokevirtual 135, 3) := by decide +kernel
theorem dX10_count_207 : decode cX10_count 207 = .ok (.ireturn, 1) := by decide +kernel
theorem dX10_count_208 : decode cX10_count 208 = .ok (.aload_n 0, 1) := by decide +kernel
theorem dX10_count_209 : decode cX10_count 209 = .ok (.getfield 55, 3) := by decide +kernel
theorem dX10_count_212 : decode cX10_count 212 = .ok (.getfield 209, 3) := by decide +kernel
theorem dX10_count_215 : decode cX10_count 215 = .ok (.ireturn, 1) := by decide +kernel
theorem dX10_count_216 : decode cX10_count 216 = .ok (.ldc 210, 2) := by decide +kernel
theorem dX10_count_218 : decode cX10_count 218 = .ok (.ireturn, 1) := by decide +kernel
theorem dX10_refuse_0 : decode cX10_refuse 0 = .ok (.aload_n 0, 1) := by decide +kernel
theorem dX10_refuse_1 : decode cX10_refuse 1 = .ok (.getfield 82, 3) := by decide +kernel
theorem dX10_refuse_4 : decode cX10_refuse 4 = .ok (.iload_n 1, 1) := by decide +kernel
theorem dX10_refuse_5 : decode cX10_refuse 5 = .ok (.aload_n 0, 1) := by decide +kernel
theorem dX10_refuse_6 : decode cX10_refuse 6 = .ok (.getfield 82, 3) := by decide +kernel
theorem dX10_refuse_9 : decode cX10_refuse 9 = .ok (.iload_n 1, 1) := by decide +kernel
theorem dX10_refuse_10 : decode cX10_refuse 10 = .ok (.invokestatic 175, 3) := by decide +kernel
theorem dX10_refuse_13 : decode cX10_refuse 13 = .ok (.iconst 1, 1) := by decide +kernel
theorem dX10_refuse_14 : decode cX10_refuse 14 = .ok (.iadd, 1) := by decide +kernel
theorem dX10_refuse_15 : decode cX10_refuse 15 = .ok (.invokestatic 211, 3) := by decide +kernel
theorem dX10_refuse_18 : decode cX10_refuse 18 = .ok (.iconst (-1), 1) := by decide +kernel
theorem dX10_refuse_19 : decode cX10_refuse 19 = .ok (.ireturn, 1) := by decide +kernel
theorem dX10_turn_0 : decode cX10_turn 0 = .ok (.aload_n 0, 1) := by decide +kernel
theorem dX10_turn_1 : decode cX10_turn 1 = .ok (.getfield 128, 3) := by decide +kernel
theorem dX10_turn_4 : decode cX10_turn 4 = .ok (.ifCond .ne 9, 3) := by decide +kernel
theorem dX10_turn_7 : decode cX10_turn 7 = .ok (.aload_n 0, 1) := by decide +kernel
theorem dX10_turn_8 : decode cX10_turn 8 = .ok (.iconst 0, 1) := by decide +kernel
theorem dX10_turn_9 : decode cX10_turn 9 = .ok (.invokevirtual 215, 3) := by decide +kernel
theorem dX10_turn_12 : decode cX10_turn 12 = .ok (.ireturn, 1) := by decide +kernel
theorem dX10_turn_13 : decode cX10_turn 13 = .ok (.iload_n 1, 1) := by decide +kernel
theorem dX10_turn_14 : decode cX10_turn 14 = .ok (.iconst 1, 1) := by decide +kernel
theorem dX10_turn_15 : decode cX10_turn 15 = .ok (.if_icmp .lt 9, 3) := by decide +kernel
theorem dX10_turn_18 : decode cX10_turn 18 = .ok (.iload_n 1, 1) := by decide +kernel
theorem dX10_turn_19 : decode cX10_turn 19 = .ok (.bipush 60, 2) := by decide +kernel
theorem dX10_turn_21 : decode cX10_turn 21 = .ok (.if_icmp .le 9, 3) := by decide +kernel
theorem dX10_turn_24 : decode cX10_turn 24 = .ok (.aload_n 0, 1) := by decide +kernel
theorem dX10_turn_25 : decode cX10_turn 25 = .ok (.iconst 1, 1) := by decide +kernel
theorem dX10_turn_26 : decode cX10_turn 26 = .ok (.invokevirtual 215, 3) := by decide +kernel
theorem dX10_turn_29 : decode cX10_turn 29 = .ok (.ireturn, 1) := by decide +kernel
theorem dX10_turn_30 : decode cX10_turn 30 = .ok (.aload_n 0, 1) := by decide +kernel
theorem dX10_turn_31 : decode cX10_turn 31 = .ok (.getfield 46, 3) := by decide +kernel
theorem dX10_turn_34 : decode cX10_turn 34 = .ok (.bipush 8, 2) := by decide +kernel
theorem dX10_turn_36 : decode cX10_turn 36 = .ok (.invokevirtual 135, 3) := by decide +kernel
theorem dX10_turn_39 : decode cX10_turn 39 = .ok (.iload_n 1, 1) := by decide +kernel
theorem dX10_turn_40 : decode cX10_turn 40 = .ok (.iadd, 1) := by decide +kernel
theorem dX10_turn_41 : decode cX10_turn 41 = .ok (.sipush 9999, 3) := by decide +kernel
theorem dX10_turn_44 : decode cX10_turn 44 = .ok (.if_icmp .le 9, 3) := by decide +kernel
theorem dX10_turn_47 : decode cX10_turn 47 = .ok (.aload_n 0, 1) := by decide +kernel
theorem dX10_turn_48 : decode cX10_turn 48 = .ok (.iconst 4, 1) := by decide +kernel
theorem dX10_turn_49 : decode cX10_turn 49 = .ok (.invokevirtual 215, 3) := by decide +kernel
theorem dX10_turn_52 : decode cX10_turn 52 = .ok (.ireturn, 1) := by decide +kernel
theorem dX10_turn_53 : decode cX10_turn 53 = .ok (.iconst 0, 1) := by decide +kernel
theorem dX10_turn_54 : decode cX10_turn 54 = .ok (.istore_n 2, 1) := by decide +kernel
theorem dX10_turn_55 : decode cX10_turn 55 = .ok (.iload_n 2, 1) := by decide +kernel
theorem dX10_turn_56 : decode cX10_turn 56 = .ok (.iload_n 1, 1) := by decide +kernel
theorem dX10_turn_57 : decode cX10_turn 57 = .ok (.if_icmp .ge 32, 3) := by decide +kernel
theorem dX10_turn_60 : decode cX10_turn 60 = .ok (.aload_n 0, 1) := by decide +kernel
theorem dX10_turn_61 : decode cX10_turn 61 = .ok (.getfield 55, 3) := by decide +kernel
theorem dX10_turn_64 : decode cX10_turn 64 = .ok (.aload_n 0, 1) := by decide +kernel
theorem dX10_turn_65 : decode cX10_turn 65 = .ok (.getfield 46, 3) := by decide +kernel
theorem dX10_turn_68 : decode cX10_turn 68 = .ok (.invokevirtual 218, 3) := by decide +kernel
theorem dX10_turn_71 : decode cX10_turn 71 = .ok (.aload_n 0, 1) := by decide +kernel
theorem dX10_turn_72 : decode cX10_turn 72 = .ok (.getfield 46, 3) := by decide +kernel
theorem dX10_turn_75 : decode cX10_turn 75 = .ok (.iconst 1, 1) := by decide +kernel
theorem dX10_turn_76 : decode cX10_turn 76 = .ok (.aload_n 0, 1) := by decide +kernel
theorem dX10_turn_77 : decode cX10_turn 77 = .ok (.getfield 35, 3) := by decide +kernel
theorem dX10_turn_80 : decode cX10_turn 80 = .ok (.invokevirtual 221, 3) := by decide +kernel
theorem dX10_turn_83 : decode cX10_turn 83 = .ok (.iinc 2 1, 3) := by decide +kernel
theorem dX10_turn_86 : decode cX10_turn 86 = .ok (.goto (-31), 3) := by decide +kernel
theorem dX10_turn_89 : decode cX10_turn 89 = .ok (.aload_n 0, 1) := by decide +kernel
theorem dX10_turn_90 : decode cX10_turn 90 = .ok (.getfield 46, 3) := by decide +kernel
theorem dX10_turn_93 : decode cX10_turn 93 = .ok (.iconst 5, 1) := by decide +kernel
theorem dX10_turn_94 : decode cX10_turn 94 = .ok (.invokevirtual 135, 3) := by decide +kernel
theorem dX10_turn_97 : decode cX10_turn 97 = .ok (.ireturn, 1) := by decide +kernel
theorem dX10_hay_0 : decode cX10_hay 0 = .ok (.aload_n 0, 1) := by decide +kernel
theorem dX10_hay_1 : decode cX10_hay 1 = .ok (.getfield 128, 3) := by decide +kernel
theorem dX10_hay_4 : decode cX10_hay 4 = .ok (.ifCond .ne 9, 3) := by decide +kernel
theorem dX10_hay_7 : decode cX10_hay 7 = .ok (.aload_n 0, 1) := by decide +kernel
theorem dX10_hay_8 : decode cX10_hay 8 = .ok (.iconst 0, 1) := by decide +kernel
theorem dX10_hay_9 : decode cX10_hay 9 = .ok (.invokevirtual 215, 3) := by decide +kernel
theorem dX10_hay_12 : decode cX10_hay 12 = .ok (.ireturn, 1) := by decide +kernel
theorem dX10_hay_13 : decode cX10_hay 13 = .ok (.iload_n 1, 1) := by decide +kernel
theorem dX10_hay_14 : decode cX10_hay 14 = .ok (.iconst 1, 1) := by decide +kernel
theorem dX10_hay_15 : decode cX10_hay 15 = .ok (.if_icmp .lt 24, 3) := by decide +kernel
theorem dX10_hay_18 : decode cX10_hay 18 = .ok (.iload_n 1, 1) := by decide +kernel
theorem dX10_hay_19 : decode cX10_hay 19 = .ok (.bipush 99, 2) := by decide +kernel
theorem dX10_hay_21 : decode cX10_hay 21 = .ok (.if_icmp .gt 18, 3) := by decide +kernel
theorem dX10_hay_24 : decode cX10_hay 24 = .ok (.aload_n 0, 1) := by decide +kernel
theorem dX10_hay_25 : decode cX10_hay 25 = .ok (.getfield 46, 3) := by decide +kernel
theorem dX10_hay_28 : decode cX10_hay 28 = .ok (.iconst 1, 1) := by decide +kernel
theorem dX10_hay_29 : decode cX10_hay 29 = .ok (.invokevirtual 135, 3) := by decide +kernel
theorem dX10_hay_32 : decode cX10_hay 32 = .ok (.iload_n 1, 1) := by decide +kernel
theorem dX10_hay_33 : decode cX10_hay 33 = .ok (.iadd, 1) := by decide +kernel
theorem dX10_hay_34 : decode cX10_hay 34 = .ok (.bipush 99, 2) := by decide +kernel
theorem dX10_hay_36 : decode cX10_hay 36 = .ok (.if_icmp .le 9, 3) := by decide +kernel
theorem dX10_hay_39 : decode cX10_hay 39 = .ok (.aload_n 0, 1) := by decide +kernel
theorem dX10_hay_40 : decode cX10_hay 40 = .ok (.iconst 1, 1) := by decide +kernel
theorem dX10_hay_41 : decode cX10_hay 41 = .ok (.invokevirtual 215, 3) := by decide +kernel
theorem dX10_hay_44 : decode cX10_hay 44 = .ok (.ireturn, 1) := by decide +kernel
theorem dX10_hay_45 : decode cX10_hay 45 = .ok (.aload_n 0, 1) := by decide +kernel
theorem dX10_hay_46 : decode cX10_hay 46 = .ok (.getfield 46, 3) := by decide +kernel
theorem dX10_hay_49 : decode cX10_hay 49 = .ok (.iconst 3, 1) := by decide +kernel
theorem dX10_hay_50 : decode cX10_hay 50 = .ok (.invokevirtual 135, 3) := by decide +kernel
theorem dX10_hay_53 : decode cX10_hay 53 = .ok (.iload_n 1, 1) := by decide +kernel
theorem dX10_hay_54 : decode cX10_hay 54 = .ok (.if_icmp .ge 9, 3) := by decide +kernel
theorem dX10_hay_57 : decode cX10_hay 57 = .ok (.aload_n 0, 1) := by decide +kernel
theorem dX10_hay_58 : decode cX10_hay 58 = .ok (.iconst 2, 1) := by decide +kernel
theorem dX10_hay_59 : decode cX10_hay 59 = .ok (.invokevirtual 215, 3) := by decide +kernel
theorem dX10_hay_62 : decode cX10_hay 62 = .ok (.ireturn, 1) := by decide +kernel
theorem dX10_hay_63 : decode cX10_hay 63 = .ok (.aload_n 0, 1) := by decide +kernel
theorem dX10_hay_64 : decode cX10_hay 64 = .ok (.getfield 55, 3) := by decide +kernel
theorem dX10_hay_67 : decode cX10_hay 67 = .ok (.aload_n 0, 1) := by decide +kernel
theorem dX10_hay_68 : decode cX10_hay 68 = .ok (.getfield 46, 3) := by decide +kernel
theorem dX10_hay_71 : decode cX10_hay 71 = .ok (.invokevirtual 218, 3) := by decide +kernel
theorem dX10_hay_74 : decode cX10_hay 74 = .ok (.aload_n 0, 1) := by decide +kernel
theorem dX10_hay_75 : decode cX10_hay 75 = .ok (.getfield 46, 3) := by decide +kernel
theorem dX10_hay_78 : decode cX10_hay 78 = .ok (.iconst 3, 1) := by decide +kernel
theorem dX10_hay_79 : decode cX10_hay 79 = .ok (.iload_n 1, 1) := by decide +kernel
theorem dX10_hay_80 : decode cX10_hay 80 = .ok (.ineg, 1) := by decide +kernel
theorem dX10_hay_81 : decode cX10_hay 81 = .ok (.invokevirtual 225, 3) := by decide +kernel
theorem dX10_hay_84 : decode cX10_hay 84 = .ok (.aload_n 0, 1) := by decide +kernel
theorem dX10_hay_85 : decode cX10_hay 85 = .ok (.getfield 46, 3) := by decide +kernel
theorem dX10_hay_88 : decode cX10_hay 88 = .ok (.iconst 1, 1) := by decide +kernel
theorem dX10_hay_89 : decode cX10_hay 89 = .ok (.iload_n 1, 1) := by decide +kernel
theorem dX10_hay_90 : decode cX10_hay 90 = .ok (.invokevirtual 225, 3) := by decide +kernel
theorem dX10_hay_93 : decode cX10_hay 93 = .ok (.aload_n 0, 1) := by decide +kernel
theorem dX10_hay_94 : decode cX10_hay 94 = .ok (.getfield 46, 3) := by decide +kernel
theorem dX10_hay_97 : decode cX10_hay 97 = .ok (.iconst 1, 1) := by decide +kernel
theorem dX10_hay_98 : decode cX10_hay 98 = .ok (.invokevirtual 135, 3) := by decide +kernel
theorem dX10_hay_101 : decode cX10_hay 101 = .ok (.ireturn, 1) := by decide +kernel
theorem dX10_grease_0 : decode cX10_grease 0 = .ok (.aload_n 0, 1) := by decide +kernel
theorem dX10_grease_1 : decode cX10_grease 1 = .ok (.getfield 46, 3) := by decide +kernel
theorem dX10_grease_4 : decode cX10_grease 4 = .ok (.iload_n 1, 1) := by decide +kernel
theorem dX10_grease_5 : decode cX10_grease 5 = .ok (.invokevirtual 147, 3) := by decide +kernel
theorem dX10_grease_8 : decode cX10_grease 8 = .ok (.ifCond .ne 9, 3) := by decide +kernel
theorem dX10_grease_11 : decode cX10_grease 11 = .ok (.aload_n 0, 1) := by decide +kernel
theorem dX10_grease_12 : decode cX10_grease 12 = .ok (.iconst 0, 1) := by decide +kernel
theorem dX10_grease_13 : decode cX10_grease 13 = .ok (.invokevirtual 215, 3) := by decide +kernel
theorem dX10_grease_16 : decode cX10_grease 16 = .ok (.ireturn, 1) := by decide +kernel
theorem dX10_grease_17 : decode cX10_grease 17 = .ok (.aload_n 0, 1) := by decide +kernel
theorem dX10_grease_18 : decode cX10_grease 18 = .ok (.getfield 46, 3) := by decide +kernel
theorem dX10_grease_21 : decode cX10_grease 21 = .ok (.iload_n 1, 1) := by decide +kernel
theorem dX10_grease_22 : decode cX10_grease 22 = .ok (.iconst 1, 1) := by decide +kernel
theorem dX10_grease_23 : decode cX10_grease 23 = .ok (.invokevirtual 151, 3) := by decide +kernel
theorem dX10_grease_26 : decode cX10_grease 26 = .ok (.bipush 9, 2) := by decide +kernel
theorem dX10_grease_28 : decode cX10_grease 28 = .ok (.if_icmp .lt 9, 3) := by decide +kernel
theorem dX10_grease_31 : decode cX10_grease 31 = .ok (.aload_n 0, 1) := by decide +kernel
theorem dX10_grease_32 : decode cX10_grease 32 = .ok (.iconst 1, 1) := by decide +kernel
theorem dX10_grease_33 : decode cX10_grease 33 = .ok (.invokevirtual 215, 3) := by decide +kernel
theorem dX10_grease_36 : decode cX10_grease 36 = .ok (.ireturn, 1) := by decide +kernel
theorem dX10_grease_37 : decode cX10_grease 37 = .ok (.aload_n 0, 1) := by decide +kernel
theorem dX10_grease_38 : decode cX10_grease 38 = .ok (.getfield 46, 3) := by decide +kernel
theorem dX10_grease_41 : decode cX10_grease 41 = .ok (.iconst 3, 1) := by decide +kernel
theorem dX10_grease_42 : decode cX10_grease 42 = .ok (.invokevirtual 135, 3) := by decide +kernel
theorem dX10_grease_45 : decode cX10_grease 45 = .ok (.iconst 1, 1) := by decide +kernel
theorem dX10_grease_46 : decode cX10_grease 46 = .ok (.if_icmp .ge 9, 3) := by decide +kernel
theorem dX10_grease_49 : decode cX10_grease 49 = .ok (.aload_n 0, 1) := by decide +kernel
theorem dX10_grease_50 : decode cX10_grease 50 = .ok (.iconst 2, 1) := by decide +kernel
theorem dX10_grease_51 : decode cX10_grease 51 = .ok (.invokevirtual 215, 3) := by decide +kernel
theorem dX10_grease_54 : decode cX10_grease 54 = .ok (.ireturn, 1) := by decide +kernel
theorem dX10_grease_55 : decode cX10_grease 55 = .ok (.aload_n 0, 1) := by decide +kernel
theorem dX10_grease_56 : decode cX10_grease 56 = .ok (.getfield 55, 3) := by decide +kernel
theorem dX10_grease_59 : decode cX10_grease 59 = .ok (.aload_n 0, 1) := by decide +kernel
theorem dX10_grease_60 : decode cX10_grease 60 = .ok (.getfield 46, 3) := by decide +kernel
theorem dX10_grease_63 : decode cX10_grease 63 = .ok (.invokevirtual 218, 3) := by decide +kernel
theorem dX10_grease_66 : decode cX10_grease 66 = .ok (.aload_n 0, 1) := by decide +kernel
theorem dX10_grease_67 : decode cX10_grease 67 = .ok (.getfield 46, 3) := by decide +kernel
theorem dX10_grease_70 : decode cX10_grease 70 = .ok (.iconst 3, 1) := by decide +kernel
theorem dX10_grease_71 : decode cX10_grease 71 = .ok (.iconst (-1), 1) := by decide +kernel
theorem dX10_grease_72 : decode cX10_grease 72 = .ok (.invokevirtual 225, 3) := by decide +kernel
theorem dX10_grease_75 : decode cX10_grease 75 = .ok (.aload_n 0, 1) := by decide +kernel
theorem dX10_grease_76 : decode cX10_grease 76 = .ok (.getfield 46, 3) := by decide +kernel
theorem dX10_grease_79 : decode cX10_grease 79 = .ok (.iload_n 1, 1) := by decide +kernel
theorem dX10_grease_80 : decode cX10_grease 80 = .ok (.iconst 1, 1) := by decide +kernel
theorem dX10_grease_81 : decode cX10_grease 81 = .ok (.invokevirtual 229, 3) := by decide +kernel
theorem dX10_grease_84 : decode cX10_grease 84 = .ok (.aload_n 0, 1) := by decide +kernel
theorem dX10_grease_85 : decode cX10_grease 85 = .ok (.getfield 46, 3) := by decide +kernel
theorem dX10_grease_88 : decode cX10_grease 88 = .ok (.iload_n 1, 1) := by decide +kernel
theorem dX10_grease_89 : decode cX10_grease 89 = .ok (.iconst 1, 1) := by decide +kernel
theorem dX10_grease_90 : decode cX10_grease 90 = .ok (.invokevirtual 151, 3) := by decide +kernel
theorem dX10_grease_93 : decode cX10_grease 93 = .ok (.ireturn, 1) := by decide +kernel
theorem dX10_chip_0 : decode cX10_chip 0 = .ok (.aload_n 0, 1) := by decide +kernel
theorem dX10_chip_1 : decode cX10_chip 1 = .ok (.getfield 46, 3) := by decide +kernel
theorem dX10_chip_4 : decode cX10_chip 4 = .ok (.iload_n 1, 1) := by decide +kernel
theorem dX10_chip_5 : decode cX10_chip 5 = .ok (.invokevirtual 147, 3) := by decide +kernel
theorem dX10_chip_8 : decode cX10_chip 8 = .ok (.ifCond .ne 9, 3) := by decide +kernel
theorem dX10_chip_11 : decode cX10_chip 11 = .ok (.aload_n 0, 1) := by decide +kernel
theorem dX10_chip_12 : decode cX10_chip 12 = .ok (.iconst 0, 1) := by decide +kernel
theorem dX10_chip_13 : decode cX10_chip 13 = .ok (.invokevirtual 215, 3) := by decide +kernel
theorem dX10_chip_16 : decode cX10_chip 16 = .ok (.ireturn, 1) := by decide +kernel
theorem dX10_chip_17 : decode cX10_chip 17 = .ok (.aload_n 0, 1) := by decide +kernel
theorem dX10_chip_18 : decode cX10_chip 18 = .ok (.getfield 46, 3) := by decide +kernel
theorem dX10_chip_21 : decode cX10_chip 21 = .ok (.iload_n 1, 1) := by decide +kernel
theorem dX10_chip_22 : decode cX10_chip 22 = .ok (.iconst 2, 1) := by decide +kernel
theorem dX10_chip_23 : decode cX10_chip 23 = .ok (.invokevirtual 151, 3) := by decide +kernel
theorem dX10_chip_26 : decode cX10_chip 26 = .ok (.iconst 1, 1) := by decide +kernel
theorem dX10_chip_27 : decode cX10_chip 27 = .ok (.if_icmp .ge 9, 3) := by decide +kernel
theorem dX10_chip_30 : decode cX10_chip 30 = .ok (.aload_n 0, 1) := by decide +kernel
theorem dX10_chip_31 : decode cX10_chip 31 = .ok (.iconst 3, 1) := by decide +kernel
theorem dX10_chip_32 : decode cX10_chip 32 = .ok (.invokevirtual 215, 3) := by decide +kernel
theorem dX10_chip_35 : decode cX10_chip 35 = .ok (.ireturn, 1) := by decide +kernel
theorem dX10_chip_36 : decode cX10_chip 36 = .ok (.aload_n 0, 1) := by decide +kernel
theorem dX10_chip_37 : decode cX10_chip 37 = .ok (.getfield 55, 3) := by decide +kernel
theorem dX10_chip_40 : decode cX10_chip 40 = .ok (.aload_n 0, 1) := by decide +kernel
theorem dX10_chip_41 : decode cX10_chip 41 = .ok (.getfield 46, 3) := by decide +kernel
theorem dX10_chip_44 : decode cX10_chip 44 = .ok (.invokevirtual 218, 3) := by decide +kernel
theorem dX10_chip_47 : decode cX10_chip 47 = .ok (.aload_n 0, 1) := by decide +kernel
theorem dX10_chip_48 : decode cX10_chip 48 = .ok (.getfield 46, 3) := by decide +kernel
theorem dX10_chip_51 : decode cX10_chip 51 = .ok (.iload_n 1, 1) := by decide +kernel
theorem dX10_chip_52 : decode cX10_chip 52 = .ok (.invokevirtual 232, 3) := by decide +kernel
theorem dX10_chip_55 : decode cX10_chip 55 = .ok (.aload_n 0, 1) := by decide +kernel
theorem dX10_chip_56 : decode cX10_chip 56 = .ok (.getfield 46, 3) := by decide +kernel
theorem dX10_chip_59 : decode cX10_chip 59 = .ok (.iload_n 1, 1) := by decide +kernel
theorem dX10_chip_60 : decode cX10_chip 60 = .ok (.iconst 2, 1) := by decide +kernel
theorem dX10_chip_61 : decode cX10_chip 61 = .ok (.invokevirtual 151, 3) := by decide +kernel
theorem dX10_chip_64 : decode cX10_chip 64 = .ok (.ireturn, 1) := by decide +kernel
theorem dX10_reverse_0 : decode cX10_reverse 0 = .ok (.aload_n 0, 1) := by decide +kernel
theorem dX10_reverse_1 : decode cX10_reverse 1 = .ok (.getfield 128, 3) := by decide +kernel
theorem dX10_reverse_4 : decode cX10_reverse 4 = .ok (.ifCond .ne 9, 3) := by decide +kernel
theorem dX10_reverse_7 : decode cX10_reverse 7 = .ok (.aload_n 0, 1) := by decide +kernel
theorem dX10_reverse_8 : decode cX10_reverse 8 = .ok (.iconst 0, 1) := by decide +kernel
theorem dX10_reverse_9 : decode cX10_reverse 9 = .ok (.invokevirtual 215, 3) := by decide +kernel
theorem dX10_reverse_12 : decode cX10_reverse 12 = .ok (.ireturn, 1) := by decide +kernel
theorem dX10_reverse_13 : decode cX10_reverse 13 = .ok (.aload_n 0, 1) := by decide +kernel
theorem dX10_reverse_14 : decode cX10_reverse 14 = .ok (.getfield 55, 3) := by decide +kernel
theorem dX10_reverse_17 : decode cX10_reverse 17 = .ok (.aload_n 0, 1) := by decide +kernel
theorem dX10_reverse_18 : decode cX10_reverse 18 = .ok (.getfield 46, 3) := by decide +kernel
theorem dX10_reverse_21 : decode cX10_reverse 21 = .ok (.invokevirtual 218, 3) := by decide +kernel
theorem dX10_reverse_24 : decode cX10_reverse 24 = .ok (.aload_n 0, 1) := by decide +kernel
theorem dX10_reverse_25 : decode cX10_reverse 25 = .ok (.getfield 46, 3) := by decide +kernel
theorem dX10_reverse_28 : decode cX10_reverse 28 = .ok (.invokevirtual 235, 3) := by decide +kernel
theorem dX10_reverse_31 : decode cX10_reverse 31 = .ok (.aload_n 0, 1) := by decide +kernel
theorem dX10_reverse_32 : decode cX10_reverse 32 = .ok (.getfield 46, 3) := by decide +kernel
theorem dX10_reverse_35 : decode cX10_reverse 35 = .ok (.iconst 4, 1) := by decide +kernel
theorem dX10_reverse_36 : decode cX10_reverse 36 = .ok (.invokevirtual 135, 3) := by decide +kernel
theorem dX10_reverse_39 : decode cX10_reverse 39 = .ok (.ireturn, 1) := by decide +kernel
theorem dX10_buy_0 : decode cX10_buy 0 = .ok (.aload_n 0, 1) := by decide +kernel
theorem dX10_buy_1 : decode cX10_buy 1 = .ok (.getfield 128, 3) := by decide +kernel
theorem dX10_buy_4 : decode cX10_buy 4 = .ok (.ifCond .ne 9, 3) := by decide +kernel
theorem dX10_buy_7 : decode cX10_buy 7 = .ok (.aload_n 0, 1) := by decide +kernel
theorem dX10_buy_8 : decode cX10_buy 8 = .ok (.iconst 0, 1) := by decide +kernel
theorem dX10_buy_9 : decode cX10_buy 9 = .ok (.invokevirtual 215, 3) := by decide +kernel
theorem dX10_buy_12 : decode cX10_buy 12 = .ok (.ireturn, 1) := by decide +kernel
theorem dX10_buy_13 : decode cX10_buy 13 = .ok (.aload_n 0, 1) := by decide +kernel
theorem dX10_buy_14 : decode cX10_buy 14 = .ok (.getfield 46, 3) := by decide +kernel
theorem dX10_buy_17 : decode cX10_buy 17 = .ok (.iconst 3, 1) := by decide +kernel
theorem dX10_buy_18 : decode cX10_buy 18 = .ok (.invokevirtual 135, 3) := by decide +kernel
theorem dX10_buy_21 : decode cX10_buy 21 = .ok (.bipush 20, 2) := by decide +kernel
theorem dX10_buy_23 : decode cX10_buy 23 = .ok (.if_icmp .ge 9, 3) := by decide +kernel
theorem dX10_buy_26 : decode cX10_buy 26 = .ok (.aload_n 0, 1) := by decide +kernel
theorem dX10_buy_27 : decode cX10_buy 27 = .ok (.iconst 2, 1) := by decide +kernel
theorem dX10_buy_28 : decode cX10_buy 28 = .ok (.invokevirtual 215, 3) := by decide +kernel
theorem dX10_buy_31 : decode cX10_buy 31 = .ok (.ireturn, 1) := by decide +kernel
theorem dX10_buy_32 : decode cX10_buy 32 = .ok (.aload_n 0, 1) := by decide +kernel
theorem dX10_buy_33 : decode cX10_buy 33 = .ok (.getfield 55, 3) := by decide +kernel
theorem dX10_buy_36 : decode cX10_buy 36 = .ok (.aload_n 0, 1) := by decide +kernel
theorem dX10_buy_37 : decode cX10_buy 37 = .ok (.getfield 46, 3) := by decide +kernel
theorem dX10_buy_40 : decode cX10_buy 40 = .ok (.invokevirtual 218, 3) := by decide +kernel
theorem dX10_buy_43 : decode cX10_buy 43 = .ok (.aload_n 0, 1) := by decide +kernel
theorem dX10_buy_44 : decode cX10_buy 44 = .ok (.getfield 46, 3) := by decide +kernel
theorem dX10_buy_47 : decode cX10_buy 47 = .ok (.iconst 3, 1) := by decide +kernel
theorem dX10_buy_48 : decode cX10_buy 48 = .ok (.bipush (-20), 2) := by decide +kernel
theorem dX10_buy_50 : decode cX10_buy 50 = .ok (.invokevirtual 225, 3) := by decide +kernel
theorem dX10_buy_53 : decode cX10_buy 53 = .ok (.aload_n 0, 1) := by decide +kernel
theorem dX10_buy_54 : decode cX10_buy 54 = .ok (.getfield 46, 3) := by decide +kernel
theorem dX10_buy_57 : decode cX10_buy 57 = .ok (.iconst 0, 1) := by decide +kernel
theorem dX10_buy_58 : decode cX10_buy 58 = .ok (.aload_n 0, 1) := by decide +kernel
theorem dX10_buy_59 : decode cX10_buy 59 = .ok (.getfield 42, 3) := by decide +kernel
theorem dX10_buy_62 : decode cX10_buy 62 = .ok (.iconst 0, 1) := by decide +kernel
theorem dX10_buy_63 : decode cX10_buy 63 = .ok (.invokevirtual 135, 3) := by decide +kernel
theorem dX10_buy_66 : decode cX10_buy 66 = .ok (.invokevirtual 238, 3) := by decide +kernel
theorem dX10_buy_69 : decode cX10_buy 69 = .ok (.aload_n 0, 1) := by decide +kernel
theorem dX10_buy_70 : decode cX10_buy 70 = .ok (.getfield 46, 3) := by decide +kernel
theorem dX10_buy_73 : decode cX10_buy 73 = .ok (.iconst 3, 1) := by decide +kernel
theorem dX10_buy_74 : decode cX10_buy 74 = .ok (.invokevirtual 135, 3) := by decide +kernel
theorem dX10_buy_77 : decode cX10_buy 77 = .ok (.ireturn, 1) := by decide +kernel
theorem dX10_sow_0 : decode cX10_sow 0 = .ok (.aload_n 0, 1) := by decide +kernel
theorem dX10_sow_1 : decode cX10_sow 1 = .ok (.getfield 46, 3) := by decide +kernel
theorem dX10_sow_4 : decode cX10_sow 4 = .ok (.iload_n 1, 1) := by decide +kernel
theorem dX10_sow_5 : decode cX10_sow 5 = .ok (.invokevirtual 155, 3) := by decide +kernel
theorem dX10_sow_8 : decode cX10_sow 8 = .ok (.ifCond .ne 9, 3) := by decide +kernel
theorem dX10_sow_11 : decode cX10_sow 11 = .ok (.aload_n 0, 1) := by decide +kernel
theorem dX10_sow_12 : decode cX10_sow 12 = .ok (.iconst 0, 1) := by decide +kernel
theorem dX10_sow_13 : decode cX10_sow 13 = .ok (.invokevirtual 215, 3) := by decide +kernel
theorem dX10_sow_16 : decode cX10_sow 16 = .ok (.ireturn, 1) := by decide +kernel
theorem dX10_sow_17 : decode cX10_sow 17 = .ok (.aload_n 0, 1) := by decide +kernel
theorem dX10_sow_18 : decode cX10_sow 18 = .ok (.getfield 46, 3) := by decide +kernel
theorem dX10_sow_21 : decode cX10_sow 21 = .ok (.iconst 3, 1) := by decide +kernel
theorem dX10_sow_22 : decode cX10_sow 22 = .ok (.invokevirtual 135, 3) := by decide +kernel
theorem dX10_sow_25 : decode cX10_sow 25 = .ok (.iconst 2, 1) := by decide +kernel
theorem dX10_sow_26 : decode cX10_sow 26 = .ok (.if_icmp .ge 9, 3) := by decide +kernel
theorem dX10_sow_29 : decode cX10_sow 29 = .ok (.aload_n 0, 1) := by decide +kernel
theorem dX10_sow_30 : decode cX10_sow 30 = .ok (.iconst 2, 1) := by decide +kernel
theorem dX10_sow_31 : decode cX10_sow 31 = .ok (.invokevirtual 215, 3) := by decide +kernel
theorem dX10_sow_34 : decode cX10_sow 34 = .ok (.ireturn, 1) := by decide +kernel
theorem dX10_sow_35 : decode cX10_sow 35 = .ok (.aload_n 0, 1) := by decide +kernel
theorem dX10_sow_36 : decode cX10_sow 36 = .ok (.getfield 46, 3) := by decide +kernel
theorem dX10_sow_39 : decode cX10_sow 39 = .ok (.iload_n 1, 1) := by decide +kernel
theorem dX10_sow_40 : decode cX10_sow 40 = .ok (.iconst 5, 1) := by decide +kernel
theorem dX10_sow_41 : decode cX10_sow 41 = .ok (.invokevirtual 165, 3) := by decide +kernel
theorem dX10_sow_44 : decode cX10_sow 44 = .ok (.ifCond .ne 9, 3) := by decide +kernel
theorem dX10_sow_47 : decode cX10_sow 47 = .ok (.aload_n 0, 1) := by decide +kernel
theorem dX10_sow_48 : decode cX10_sow 48 = .ok (.iconst 3, 1) := by decide +kernel
theorem dX10_sow_49 : decode cX10_sow 49 = .ok (.invokevirtual 215, 3) := by decide +kernel
theorem dX10_sow_52 : decode cX10_sow 52 = .ok (.ireturn, 1) := by decide +kernel
theorem dX10_sow_53 : decode cX10_sow 53 = .ok (.aload_n 0, 1) := by decide +kernel
theorem dX10_sow_54 : decode cX10_sow 54 = .ok (.getfield 55, 3) := by decide +kernel
theorem dX10_sow_57 : decode cX10_sow 57 = .ok (.aload_n 0, 1) := by decide +kernel
theorem dX10_sow_58 : decode cX10_sow 58 = .ok (.getfield 46, 3) := by decide +kernel
theorem dX10_sow_61 : decode cX10_sow 61 = .ok (.invokevirtual 218, 3) := by decide +kernel
theorem dX10_sow_64 : decode cX10_sow 64 = .ok (.aload_n 0, 1) := by decide +kernel
theorem dX10_sow_65 : decode cX10_sow 65 = .ok (.getfield 46, 3) := by decide +kernel
theorem dX10_sow_68 : decode cX10_sow 68 = .ok (.iconst 3, 1) := by decide +kernel
theorem dX10_sow_69 : decode cX10_sow 69 = .ok (.bipush (-2), 2) := by decide +kernel
theorem dX10_sow_71 : decode cX10_sow 71 = .ok (.invokevirtual 225, 3) := by decide +kernel
theorem dX10_sow_74 : decode cX10_sow 74 = .ok (.aload_n 0, 1) := by decide +kernel
theorem dX10_sow_75 : decode cX10_sow 75 = .ok (.getfield 46, 3) := by decide +kernel
theorem dX10_sow_78 : decode cX10_sow 78 = .ok (.iload_n 1, 1) := by decide +kernel
theorem dX10_sow_79 : decode cX10_sow 79 = .ok (.invokevirtual 241, 3) := by decide +kernel
theorem dX10_sow_82 : decode cX10_sow 82 = .ok (.aload_n 0, 1) := by decide +kernel
theorem dX10_sow_83 : decode cX10_sow 83 = .ok (.getfield 46, 3) := by decide +kernel
theorem dX10_sow_86 : decode cX10_sow 86 = .ok (.iconst 3, 1) := by decide +kernel
theorem dX10_sow_87 : decode cX10_sow 87 = .ok (.invokevirtual 135, 3) := by decide +kernel
theorem dX10_sow_90 : decode cX10_sow 90 = .ok (.ireturn, 1) := by decide +kernel
theorem dX10_set_0 : decode cX10_set 0 = .ok (.iload_n 1, 1) := by decide +kernel
theorem dX10_set_1 : decode cX10_set 1 = .ok (.ifCond .lt 37, 3) := by decide +kernel
theorem dX10_set_4 : decode cX10_set 4 = .ok (.iload_n 1, 1) := by decide +kernel
theorem dX10_set_5 : decode cX10_set 5 = .ok (.iconst 1, 1) := by decide +kernel
theorem dX10_set_6 : decode cX10_set 6 = .ok (.if_icmp .gt 32, 3) := by decide +kernel
theorem dX10_set_9 : decode cX10_set 9 = .ok (.iload_n 2, 1) := by decide +kernel
theorem dX10_set_10 : decode cX10_set 10 = .ok (.ifCond .lt 28, 3) := by decide +kernel
theorem dX10_set_13 : decode cX10_set 13 = .ok (.iload_n 2, 1) := by decide +kernel
theorem dX10_set_14 : decode cX10_set 14 = .ok (.bipush 9, 2) := by decide +kernel
theorem dX10_set_16 : decode cX10_set 16 = .ok (.if_icmp .gt 22, 3) := by decide +kernel
theorem dX10_set_19 : decode cX10_set 19 = .ok (.iload_n 2, 1) := by decide +kernel
theorem dX10_set_20 : decode cX10_set 20 = .ok (.iload_n 1, 1) := by decide +kernel
theorem dX10_set_21 : decode cX10_set 21 = .ok (.ifCond .ne 10, 3) := by decide +kernel
theorem dX10_set_24 : decode cX10_set 24 = .ok (.aload_n 0, 1) := by decide +kernel
theorem dX10_set_25 : decode cX10_set 25 = .ok (.getfield 202, 3) := by decide +kernel
theorem dX10_set_28 : decode cX10_set 28 = .ok (.goto 7, 3) := by decide +kernel
theorem dX10_set_31 : decode cX10_set 31 = .ok (.aload_n 0, 1) := by decide +kernel
theorem dX10_set_32 : decode cX10_set 32 = .ok (.getfield 205, 3) := by decide +kernel
theorem dX10_set_35 : decode cX10_set 35 = .ok (.if_icmp .ne 5, 3) := by decide +kernel
theorem dX10_set_38 : decode cX10_set 38 = .ok (.iconst 0, 1) := by decide +kernel
theorem dX10_set_39 : decode cX10_set 39 = .ok (.ireturn, 1) := by decide +kernel
theorem dX10_set_40 : decode cX10_set 40 = .ok (.iload_n 1, 1) := by decide +kernel
theorem dX10_set_41 : decode cX10_set 41 = .ok (.ifCond .ne 11, 3) := by decide +kernel
theorem dX10_set_44 : decode cX10_set 44 = .ok (.aload_n 0, 1) := by decide +kernel
theorem dX10_set_45 : decode cX10_set 45 = .ok (.iload_n 2, 1) := by decide +kernel
theorem dX10_set_46 : decode cX10_set 46 = .ok (.putfield 202, 3) := by decide +kernel
theorem dX10_set_49 : decode cX10_set 49 = .ok (.goto 8, 3) := by decide +kernel
theorem dX10_set_52 : decode cX10_set 52 = .ok (.aload_n 0, 1) := by decide +kernel
theorem dX10_set_53 : decode cX10_set 53 = .ok (.iload_n 2, 1) := by decide +kernel
theorem dX10_set_54 : decode cX10_set 54 = .ok (.putfield 205, 3) := by decide +kernel
theorem dX10_set_57 : decode cX10_set 57 = .ok (.iconst 1, 1) := by decide +kernel
theorem dX10_set_58 : decode cX10_set 58 = .ok (.ireturn, 1) := by decide +kernel
theorem dX10_decades_0 : decode cX10_decades 0 = .ok (.aload_n 0, 1) := by decide +kernel
theorem dX10_decades_1 : decode cX10_decades 1 = .ok (.getfield 128, 3) := by decide +kernel
theorem dX10_decades_4 : decode cX10_decades 4 = .ok (.ifCond .eq 31, 3) := by decide +kernel
theorem dX10_decades_7 : decode cX10_decades 7 = .ok (.iload_n 1, 1) := by decide +kernel
theorem dX10_decades_8 : decode cX10_decades 8 = .ok (.iconst 1, 1) := by decide +kernel
theorem dX10_decades_9 : decode cX10_decades 9 = .ok (.if_icmp .lt 26, 3) := by decide +kernel
theorem dX10_decades_12 : decode cX10_decades 12 = .ok (.iload_n 1, 1) := by decide +kernel
theorem dX10_decades_13 : decode cX10_decades 13 = .ok (.bipush 60, 2) := by decide +kernel
theorem dX10_decades_15 : decode cX10_decades 15 = .ok (.if_icmp .gt 20, 3) := by decide +kernel
theorem dX10_decades_18 : decode cX10_decades 18 = .ok (.aload_n 0, 1) := by decide +kernel
theorem dX10_decades_19 : decode cX10_decades 19 = .ok (.getfield 46, 3) := by decide +kernel
theorem dX10_decades_22 : decode cX10_decades 22 = .ok (.bipush 8, 2) := by decide +kernel
theorem dX10_decades_24 : decode cX10_decades 24 = .ok (.invokevirtual 135, 3) := by decide +kernel
theorem dX10_decades_27 : decode cX10_decades 27 = .ok (.iload_n 1, 1) := by decide +kernel
theorem dX10_decades_28 : decode cX10_decades 28 = .ok (.iadd, 1) := by decide +kernel
theorem dX10_decades_29 : decode cX10_decades 29 = .ok (.sipush 9999, 3) := by decide +kernel
theorem dX10_decades_32 : decode cX10_decades 32 = .ok (.if_icmp .le 5, 3) := by decide +kernel
theorem dX10_decades_35 : decode cX10_decades 35 = .ok (.iconst (-1), 1) := by decide +kernel
theorem dX10_decades_36 : decode cX10_decades 36 = .ok (.ireturn, 1) := by decide +kernel
theorem dX10_decades_37 : decode cX10_decades 37 = .ok (.aload_n 0, 1) := by decide +kernel
theorem dX10_decades_38 : decode cX10_decades 38 = .ok (.getfield 78, 3) := by decide +kernel
theorem dX10_decades_41 : decode cX10_decades 41 = .ok (.lload_n 2, 1) := by decide +kernel
theorem dX10_decades_42 : decode cX10_decades 42 = .ok (.invokevirtual 244, 3) := by decide +kernel
theorem dX10_decades_45 : decode cX10_decades 45 = .ok (.iconst 0, 1) := by decide +kernel
theorem dX10_decades_46 : decode cX10_decades 46 = .ok (.istore 4, 2) := by decide +kernel
theorem dX10_decades_48 : decode cX10_decades 48 = .ok (.iload 4, 2) := by decide +kernel
theorem dX10_decades_50 : decode cX10_decades 50 = .ok (.iload_n 1, 1) := by decide +kernel
theorem dX10_decades_51 : decode cX10_decades 51 = .ok (.if_icmp .ge 36, 3) := by decide +kernel
theorem dX10_decades_54 : decode cX10_decades 54 = .ok (.aload_n 0, 1) := by decide +kernel
theorem dX10_decades_55 : decode cX10_decades 55 = .ok (.getfield 55, 3) := by decide +kernel
theorem dX10_decades_58 : decode cX10_decades 58 = .ok (.aload_n 0, 1) := by decide +kernel
theorem dX10_decades_59 : decode cX10_decades 59 = .ok (.getfield 46, 3) := by decide +kernel
theorem dX10_decades_62 : decode cX10_decades 62 = .ok (.invokevirtual 218, 3) := by decide +kernel
theorem dX10_decades_65 : decode cX10_decades 65 = .ok (.aload_n 0, 1) := by decide +kernel
theorem dX10_decades_66 : decode cX10_decades 66 = .ok (.invokevirtual 248, 3) := by decide +kernel
theorem dX10_decades_69 : decode cX10_decades 69 = .ok (.aload_n 0, 1) := by decide +kernel
theorem dX10_decades_70 : decode cX10_decades 70 = .ok (.getfield 46, 3) := by decide +kernel
theorem dX10_decades_73 : decode cX10_decades 73 = .ok (.iconst 1, 1) := by decide +kernel
theorem dX10_decades_74 : decode cX10_decades 74 = .ok (.aload_n 0, 1) := by decide +kernel
theorem dX10_decades_75 : decode cX10_decades 75 = .ok (.getfield 35, 3) := by decide +kernel
theorem dX10_decades_78 : decode cX10_decades 78 = .ok (.invokevirtual 221, 3) := by decide +kernel
theorem dX10_decades_81 : decode cX10_decades 81 = .ok (.iinc 4 1, 3) := by decide +kernel
theorem dX10_decades_84 : decode cX10_decades 84 = .ok (.goto (-36), 3) := by decide +kernel
theorem dX10_decades_87 : decode cX10_decades 87 = .ok (.aload_n 0, 1) := by decide +kernel
theorem dX10_decades_88 : decode cX10_decades 88 = .ok (.getfield 46, 3) := by decide +kernel
theorem dX10_decades_91 : decode cX10_decades 91 = .ok (.iconst 5, 1) := by decide +kernel
theorem dX10_decades_92 : decode cX10_decades 92 = .ok (.invokevirtual 135, 3) := by decide +kernel
theorem dX10_decades_95 : decode cX10_decades 95 = .ok (.ireturn, 1) := by decide +kernel
theorem dX10_strike_0 : decode cX10_strike 0 = .ok (.aload_n 0, 1) := by decide +kernel
theorem dX10_strike_1 : decode cX10_strike 1 = .ok (.getfield 78, 3) := by decide +kernel
theorem dX10_strike_4 : decode cX10_strike 4 = .ok (.bipush 10, 2) := by decide +kernel
theorem dX10_strike_6 : decode cX10_strike 6 = .ok (.invokevirtual 251, 3) := by decide +kernel
theorem dX10_strike_9 : decode cX10_strike 9 = .ok (.aload_n 0, 1) := by decide +kernel
theorem dX10_strike_10 : decode cX10_strike 10 = .ok (.getfield 202, 3) := by decide +kernel
theorem dX10_strike_13 : decode cX10_strike 13 = .ok (.if_icmp .ge 40, 3) := by decide +kernel
theorem dX10_strike_16 : decode cX10_strike 16 = .ok (.aload_n 0, 1) := by decide +kernel
theorem dX10_strike_17 : decode cX10_strike 17 = .ok (.getfield 78, 3) := by decide +kernel
theorem dX10_strike_20 : decode cX10_strike 20 = .ok (.aload_n 0, 1) := by decide +kernel
theorem dX10_strike_21 : decode cX10_strike 21 = .ok (.getfield 46, 3) := by decide +kernel
theorem dX10_strike_24 : decode cX10_strike 24 = .ok (.bipush 9, 2) := by decide +kernel
theorem dX10_strike_26 : decode cX10_strike 26 = .ok (.invokevirtual 135, 3) := by decide +kernel
theorem dX10_strike_29 : decode cX10_strike 29 = .ok (.invokevirtual 251, 3) := by decide +kernel
theorem dX10_strike_32 : decode cX10_strike 32 = .ok (.istore_n 1, 1) := by decide +kernel
theorem dX10_strike_33 : decode cX10_strike 33 = .ok (.aload_n 0, 1) := by decide +kernel
theorem dX10_strike_34 : decode cX10_strike 34 = .ok (.getfield 46, 3) := by decide +kernel
theorem dX10_strike_37 : decode cX10_strike 37 = .ok (.iload_n 1, 1) := by decide +kernel
theorem dX10_strike_38 : decode cX10_strike 38 = .ok (.iconst 2, 1) := by decide +kernel
theorem dX10_strike_39 : decode cX10_strike 39 = .ok (.invokevirtual 151, 3) := by decide +kernel
theorem dX10_strike_42 : decode cX10_strike 42 = .ok (.ifCond .le 11, 3) := by decide +kernel
theorem dX10_strike_45 : decode cX10_strike 45 = .ok (.aload_n 0, 1) := by decide +kernel
theorem dX10_strike_46 : decode cX10_strike 46 = .ok (.getfield 46, 3) := by decide +kernel
theorem dX10_strike_49 : decode cX10_strike 49 = .ok (.iload_n 1, 1) := by decide +kernel
theorem dX10_strike_50 : decode cX10_strike 50 = .ok (.invokevirtual 232, 3) := by decide +kernel
theorem dX10_strike_53 : decode cX10_strike 53 = .ok (.aload_n 0, 1) := by decide +kernel
theorem dX10_strike_54 : decode cX10_strike 54 = .ok (.getfield 78, 3) := by decide +kernel
theorem dX10_strike_57 : decode cX10_strike 57 = .ok (.bipush 10, 2) := by decide +kernel
theorem dX10_strike_59 : decode cX10_strike 59 = .ok (.invokevirtual 251, 3) := by decide +kernel
theorem dX10_strike_62 : decode cX10_strike 62 = .ok (.aload_n 0, 1) := by decide +kernel
theorem dX10_strike_63 : decode cX10_strike 63 = .ok (.getfield 205, 3) := by decide +kernel
theorem dX10_strike_66 : decode cX10_strike 66 = .ok (.if_icmp .ge 21, 3) := by decide +kernel
theorem dX10_strike_69 : decode cX10_strike 69 = .ok (.aload_n 0, 1) := by decide +kernel
theorem dX10_strike_70 : decode cX10_strike 70 = .ok (.getfield 46, 3) := by decide +kernel
theorem dX10_strike_73 : decode cX10_strike 73 = .ok (.iconst 1, 1) := by decide +kernel
theorem dX10_strike_74 : decode cX10_strike 74 = .ok (.aload_n 0, 1) := by decide +kernel
theorem dX10_strike_75 : decode cX10_strike 75 = .ok (.getfield 46, 3) := by decide +kernel
theorem dX10_strike_78 : decode cX10_strike 78 = .ok (.iconst 1, 1) := by decide +kernel
theorem dX10_strike_79 : decode cX10_strike 79 = .ok (.invokevirtual 135, 3) := by decide +kernel
theorem dX10_strike_82 : decode cX10_strike 82 = .ok (.iconst 2, 1) := by decide +kernel
theorem dX10_strike_83 : decode cX10_strike 83 = .ok (.idiv, 1) := by decide +kernel
theorem dX10_strike_84 : decode cX10_strike 84 = .ok (.invokevirtual 238, 3) := by decide +kernel
theorem dX10_strike_87 : decode cX10_strike 87 = .ok (.return_, 1) := by decide +kernel
theorem dX10_undo_0 : decode cX10_undo 0 = .ok (.aload_n 0, 1) := by decide +kernel
theorem dX10_undo_1 : decode cX10_undo 1 = .ok (.getfield 55, 3) := by decide +kernel
theorem dX10_undo_4 : decode cX10_undo 4 = .ok (.aload_n 0, 1) := by decide +kernel
theorem dX10_undo_5 : decode cX10_undo 5 = .ok (.getfield 46, 3) := by decide +kernel
theorem dX10_undo_8 : decode cX10_undo 8 = .ok (.invokevirtual 254, 3) := by decide +kernel
theorem dX10_undo_11 : decode cX10_undo 11 = .ok (.ifCond .eq 13, 3) := by decide +kernel
theorem dX10_undo_14 : decode cX10_undo 14 = .ok (.aload_n 0, 1) := by decide +kernel
theorem dX10_undo_15 : decode cX10_undo 15 = .ok (.getfield 55, 3) := by decide +kernel
theorem dX10_undo_18 : decode cX10_undo 18 = .ok (.getfield 209, 3) := by decide +kernel
theorem dX10_undo_21 : decode cX10_undo 21 = .ok (.goto 4, 3) := by decide +kernel
theorem dX10_undo_24 : decode cX10_undo 24 = .ok (.iconst (-1), 1) := by decide +kernel
theorem dX10_undo_25 : decode cX10_undo 25 = .ok (.ireturn, 1) := by decide +kernel
theorem dX10_image_0 : decode cX10_image 0 = .ok (.aload_n 0, 1) := by decide +kernel
theorem dX10_image_1 : decode cX10_image 1 = .ok (.getfield 128, 3) := by decide +kernel
theorem dX10_image_4 : decode cX10_image 4 = .ok (.ifCond .ne 5, 3) := by decide +kernel
theorem dX10_image_7 : decode cX10_image 7 = .ok (.iconst (-1), 1) := by decide +kernel
theorem dX10_image_8 : decode cX10_image 8 = .ok (.ireturn, 1) := by decide +kernel
theorem dX10_image_9 : decode cX10_image 9 = .ok (.aload_n 0, 1) := by decide +kernel
theorem dX10_image_10 : decode cX10_image 10 = .ok (.getfield 49, 3) := by decide +kernel
theorem dX10_image_13 : decode cX10_image 13 = .ok (.aload_n 0, 1) := by decide +kernel
theorem dX10_image_14 : decode cX10_image 14 = .ok (.getfield 46, 3) := by decide +kernel
theorem dX10_image_17 : decode cX10_image 17 = .ok (.invokevirtual 120, 3) := by decide +kernel
theorem dX10_image_20 : decode cX10_image 20 = .ok (.aload_n 0, 1) := by decide +kernel
theorem dX10_image_21 : decode cX10_image 21 = .ok (.iconst 1, 1) := by decide +kernel
theorem dX10_image_22 : decode cX10_image 22 = .ok (.putfield 132, 3) := by decide +kernel
theorem dX10_image_25 : decode cX10_image 25 = .ok (.aload_n 0, 1) := by decide +kernel
theorem dX10_image_26 : decode cX10_image 26 = .ok (.getfield 46, 3) := by decide +kernel
theorem dX10_image_29 : decode cX10_image 29 = .ok (.bipush 8, 2) := by decide +kernel
theorem dX10_image_31 : decode cX10_image 31 = .ok (.invokevirtual 135, 3) := by decide +kernel
theorem dX10_image_34 : decode cX10_image 34 = .ok (.ireturn, 1) := by decide +kernel
theorem dX10_back_0 : decode cX10_back 0 = .ok (.aload_n 0, 1) := by decide +kernel
theorem dX10_back_1 : decode cX10_back 1 = .ok (.getfield 132, 3) := by decide +kernel
theorem dX10_back_4 : decode cX10_back 4 = .ok (.ifCond .ne 5, 3) := by decide +kernel
theorem dX10_back_7 : decode cX10_back 7 = .ok (.iconst (-1), 1) := by decide +kernel
theorem dX10_back_8 : decode cX10_back 8 = .ok (.ireturn, 1) := by decide +kernel
theorem dX10_back_9 : decode cX10_back 9 = .ok (.aload_n 0, 1) := by decide +kernel
theorem dX10_back_10 : decode cX10_back 10 = .ok (.getfield 46, 3) := by decide +kernel
theorem dX10_back_13 : decode cX10_back 13 = .ok (.aload_n 0, 1) := by decide +kernel
theorem dX10_back_14 : decode cX10_back 14 = .ok (.getfield 49, 3) := by decide +kernel
theorem dX10_back_17 : decode cX10_back 17 = .ok (.invokevirtual 120, 3) := by decide +kernel
theorem dX10_back_20 : decode cX10_back 20 = .ok (.aload_n 0, 1) := by decide +kernel
theorem dX10_back_21 : decode cX10_back 21 = .ok (.getfield 55, 3) := by decide +kernel
theorem dX10_back_24 : decode cX10_back 24 = .ok (.invokevirtual 124, 3) := by decide +kernel
theorem dX10_back_27 : decode cX10_back 27 = .ok (.aload_n 0, 1) := by decide +kernel
theorem dX10_back_28 : decode cX10_back 28 = .ok (.getfield 46, 3) := by decide +kernel
theorem dX10_back_31 : decode cX10_back 31 = .ok (.bipush 8, 2) := by decide +kernel
theorem dX10_back_33 : decode cX10_back 33 = .ok (.invokevirtual 135, 3) := by decide +kernel
theorem dX10_back_36 : decode cX10_back 36 = .ok (.ireturn, 1) := by decide +kernel
theorem dX10_ahead_0 : decode cX10_ahead 0 = .ok (.aload_n 0, 1) := by decide +kernel
theorem dX10_ahead_1 : decode cX10_ahead 1 = .ok (.getfield 128, 3) := by decide +kernel
theorem dX10_ahead_4 : decode cX10_ahead 4 = .ok (.ifCond .eq 22, 3) := by decide +kernel
theorem dX10_ahead_7 : decode cX10_ahead 7 = .ok (.iload_n 1, 1) := by decide +kernel
theorem dX10_ahead_8 : decode cX10_ahead 8 = .ok (.ifCond .lt 18, 3) := by decide +kernel
theorem dX10_ahead_11 : decode cX10_ahead 11 = .ok (.iload_n 1, 1) := by decide +kernel
theorem dX10_ahead_12 : decode cX10_ahead 12 = .ok (.bipush 60, 2) := by decide +kernel
theorem dX10_ahead_14 : decode cX10_ahead 14 = .ok (.if_icmp .gt 12, 3) := by decide +kernel
theorem dX10_ahead_17 : decode cX10_ahead 17 = .ok (.iload_n 3, 1) := by decide +kernel
theorem dX10_ahead_18 : decode cX10_ahead 18 = .ok (.ifCond .lt 8, 3) := by decide +kernel
theorem dX10_ahead_21 : decode cX10_ahead 21 = .ok (.iload_n 3, 1) := by decide +kernel
theorem dX10_ahead_22 : decode cX10_ahead 22 = .ok (.iconst 1, 1) := by decide +kernel
theorem dX10_ahead_23 : decode cX10_ahead 23 = .ok (.if_icmp .le 5, 3) := by decide +kernel
theorem dX10_ahead_26 : decode cX10_ahead 26 = .ok (.iconst (-1), 1) := by decide +kernel
theorem dX10_ahead_27 : decode cX10_ahead 27 = .ok (.ireturn, 1) := by decide +kernel
theorem dX10_ahead_28 : decode cX10_ahead 28 = .ok (.aload_n 0, 1) := by decide +kernel
theorem dX10_ahead_29 : decode cX10_ahead 29 = .ok (.getfield 64, 3) := by decide +kernel
theorem dX10_ahead_32 : decode cX10_ahead 32 = .ok (.iload_n 1, 1) := by decide +kernel
theorem dX10_ahead_33 : decode cX10_ahead 33 = .ok (.iload_n 2, 1) := by decide +kernel
theorem dX10_ahead_34 : decode cX10_ahead 34 = .ok (.iload_n 3, 1) := by decide +kernel
theorem dX10_ahead_35 : decode cX10_ahead 35 = .ok (.ifCond .ne 7, 3) := by decide +kernel
theorem dX10_ahead_38 : decode cX10_ahead 38 = .ok (.iconst 5, 1) := by decide +kernel
theorem dX10_ahead_39 : decode cX10_ahead 39 = .ok (.goto 5, 3) := by decide +kernel
theorem dX10_ahead_42 : decode cX10_ahead 42 = .ok (.bipush 6, 2) := by decide +kernel
theorem dX10_ahead_44 : decode cX10_ahead 44 = .ok (.invokevirtual 258, 3) := by decide +kernel
theorem dX10_ahead_47 : decode cX10_ahead 47 = .ok (.ireturn, 1) := by decide +kernel
theorem dX10_soonest_0 : decode cX10_soonest 0 = .ok (.aload_n 0, 1) := by decide +kernel
theorem dX10_soonest_1 : decode cX10_soonest 1 = .ok (.getfield 46, 3) := by decide +kernel
theorem dX10_soonest_4 : decode cX10_soonest 4 = .ok (.iload_n 1, 1) := by decide +kernel
theorem dX10_soonest_5 : decode cX10_soonest 5 = .ok (.invokevirtual 147, 3) := by decide +kernel
theorem dX10_soonest_8 : decode cX10_soonest 8 = .ok (.ifCond .eq 14, 3) := by decide +kernel
theorem dX10_soonest_11 : decode cX10_soonest 11 = .ok (.aload_n 0, 1) := by decide +kernel
theorem dX10_soonest_12 : decode cX10_soonest 12 = .ok (.getfield 64, 3) := by decide +kernel
theorem dX10_soonest_15 : decode cX10_soonest 15 = .ok (.iload_n 1, 1) := by decide +kernel
theorem dX10_soonest_16 : decode cX10_soonest 16 = .ok (.invokevirtual 262, 3) := by decide +kernel
theorem dX10_soonest_19 : decode cX10_soonest 19 = .ok (.goto 4, 3) := by decide +kernel
theorem dX10_soonest_22 : decode cX10_soonest 22 = .ok (.iconst (-1), 1) := by decide +kernel
theorem dX10_soonest_23 : decode cX10_soonest 23 = .ok (.ireturn, 1) := by decide +kernel
theorem dX10_least_0 : decode cX10_least 0 = .ok (.aload_n 0, 1) := by decide +kernel
theorem dX10_least_1 : decode cX10_least 1 = .ok (.getfield 128, 3) := by decide +kernel
theorem dX10_least_4 : decode cX10_least 4 = .ok (.ifCond .eq 25, 3) := by decide +kernel
theorem dX10_least_7 : decode cX10_least 7 = .ok (.iload_n 1, 1) := by decide +kernel
theorem dX10_least_8 : decode cX10_least 8 = .ok (.iconst 1, 1) := by decide +kernel
theorem dX10_least_9 : decode cX10_least 9 = .ok (.if_icmp .lt 20, 3) := by decide +kernel
theorem dX10_least_12 : decode cX10_least 12 = .ok (.iload_n 1, 1) := by decide +kernel
theorem dX10_least_13 : decode cX10_least 13 = .ok (.bipush 60, 2) := by decide +kernel
theorem dX10_least_15 : decode cX10_least 15 = .ok (.if_icmp .gt 14, 3) := by decide +kernel
theorem dX10_least_18 : decode cX10_least 18 = .ok (.aload_n 0, 1) := by decide +kernel
theorem dX10_least_19 : decode cX10_least 19 = .ok (.getfield 64, 3) := by decide +kernel
theorem dX10_least_22 : decode cX10_least 22 = .ok (.iload_n 1, 1) := by decide +kernel
theorem dX10_least_23 : decode cX10_least 23 = .ok (.invokevirtual 265, 3) := by decide +kernel
theorem dX10_least_26 : decode cX10_least 26 = .ok (.goto 4, 3) := by decide +kernel
theorem dX10_least_29 : decode cX10_least 29 = .ok (.iconst (-1), 1) := by decide +kernel
theorem dX10_least_30 : decode cX10_least 30 = .ok (.ireturn, 1) := by decide +kernel
theorem dX10_ripens_0 : decode cX10_ripens 0 = .ok (.aload_n 0, 1) := by decide +kernel
theorem dX10_ripens_1 : decode cX10_ripens 1 = .ok (.getfield 46, 3) := by decide +kernel
theorem dX10_ripens_4 : decode cX10_ripens 4 = .ok (.iload_n 1, 1) := by decide +kernel
theorem dX10_ripens_5 : decode cX10_ripens 5 = .ok (.invokevirtual 155, 3) := by decide +kernel
theorem dX10_ripens_8 : decode cX10_ripens 8 = .ok (.ifCond .eq 14, 3) := by decide +kernel
theorem dX10_ripens_11 : decode cX10_ripens 11 = .ok (.aload_n 0, 1) := by decide +kernel
theorem dX10_ripens_12 : decode cX10_ripens 12 = .ok (.getfield 64, 3) := by decide +kernel
theorem dX10_ripens_15 : decode cX10_ripens 15 = .ok (.iload_n 1, 1) := by decide +kernel
theorem dX10_ripens_16 : decode cX10_ripens 16 = .ok (.invokevirtual 268, 3) := by decide +kernel
theorem dX10_ripens_19 : decode cX10_ripens 19 = .ok (.goto 4, 3) := by decide +kernel
theorem dX10_ripens_22 : decode cX10_ripens 22 = .ok (.iconst (-1), 1) := by decide +kernel
theorem dX10_ripens_23 : decode cX10_ripens 23 = .ok (.ireturn, 1) := by decide +kernel
theorem dX10_oil_0 : decode cX10_oil 0 = .ok (.aload_n 0, 1) := by decide +kernel
theorem dX10_oil_1 : decode cX10_oil 1 = .ok (.getfield 128, 3) := by decide +kernel
theorem dX10_oil_4 : decode cX10_oil 4 = .ok (.ifCond .eq 33, 3) := by decide +kernel
theorem dX10_oil_7 : decode cX10_oil 7 = .ok (.iload_n 1, 1) := by decide +kernel
theorem dX10_oil_8 : decode cX10_oil 8 = .ok (.iconst 1, 1) := by decide +kernel
theorem dX10_oil_9 : decode cX10_oil 9 = .ok (.if_icmp .lt 28, 3) := by decide +kernel
theorem dX10_oil_12 : decode cX10_oil 12 = .ok (.iload_n 1, 1) := by decide +kernel
theorem dX10_oil_13 : decode cX10_oil 13 = .ok (.iconst 3, 1) := by decide +kernel
theorem dX10_oil_14 : decode cX10_oil 14 = .ok (.if_icmp .gt 23, 3) := by decide +kernel
theorem dX10_oil_17 : decode cX10_oil 17 = .ok (.iload_n 2, 1) := by decide +kernel
theorem dX10_oil_18 : decode cX10_oil 18 = .ok (.iconst 1, 1) := by decide +kernel
theorem dX10_oil_19 : decode cX10_oil 19 = .ok (.if_icmp .lt 18, 3) := by decide +kernel
theorem dX10_oil_22 : decode cX10_oil 22 = .ok (.iload_n 2, 1) := by decide +kernel
theorem dX10_oil_23 : decode cX10_oil 23 = .ok (.bipush 40, 2) := by decide +kernel
theorem dX10_oil_25 : decode cX10_oil 25 = .ok (.if_icmp .gt 12, 3) := by decide +kernel
theorem dX10_oil_28 : decode cX10_oil 28 = .ok (.iload_n 3, 1) := by decide +kernel
theorem dX10_oil_29 : decode cX10_oil 29 = .ok (.ifCond .lt 8, 3) := by decide +kernel
theorem dX10_oil_32 : decode cX10_oil 32 = .ok (.iload_n 3, 1) := by decide +kernel
theorem dX10_oil_33 : decode cX10_oil 33 = .ok (.iconst 1, 1) := by decide +kernel
theorem dX10_oil_34 : decode cX10_oil 34 = .ok (.if_icmp .le 5, 3) := by decide +kernel
theorem dX10_oil_37 : decode cX10_oil 37 = .ok (.iconst (-1), 1) := by decide +kernel
theorem dX10_oil_38 : decode cX10_oil 38 = .ok (.ireturn, 1) := by decide +kernel
theorem dX10_oil_39 : decode cX10_oil 39 = .ok (.aload_n 0, 1) := by decide +kernel
theorem dX10_oil_40 : decode cX10_oil 40 = .ok (.getfield 64, 3) := by decide +kernel
theorem dX10_oil_43 : decode cX10_oil 43 = .ok (.iload_n 1, 1) := by decide +kernel
theorem dX10_oil_44 : decode cX10_oil 44 = .ok (.iload_n 2, 1) := by decide +kernel
theorem dX10_oil_45 : decode cX10_oil 45 = .ok (.invokevirtual 271, 3) := by decide +kernel
theorem dX10_oil_48 : decode cX10_oil 48 = .ok (.iload_n 3, 1) := by decide +kernel
theorem dX10_oil_49 : decode cX10_oil 49 = .ok (.ifCond .ne 13, 3) := by decide +kernel
theorem dX10_oil_52 : decode cX10_oil 52 = .ok (.aload_n 0, 1) := by decide +kernel
theorem dX10_oil_53 : decode cX10_oil 53 = .ok (.getfield 64, 3) := by decide +kernel
theorem dX10_oil_56 : decode cX10_oil 56 = .ok (.getfield 274, 3) := by decide +kernel
theorem dX10_oil_59 : decode cX10_oil 59 = .ok (.goto 10, 3) := by decide +kernel
theorem dX10_oil_62 : decode cX10_oil 62 = .ok (.aload_n 0, 1) := by decide +kernel
theorem dX10_oil_63 : decode cX10_oil 63 = .ok (.getfield 64, 3) := by decide +kernel
theorem dX10_oil_66 : decode cX10_oil 66 = .ok (.getfield 277, 3) := by decide +kernel
theorem dX10_oil_69 : decode cX10_oil 69 = .ok (.ireturn, 1) := by decide +kernel
theorem dX10_canPlay_0 : decode cX10_canPlay 0 = .ok (.aload_n 0, 1) := by decide +kernel
theorem dX10_canPlay_1 : decode cX10_canPlay 1 = .ok (.getfield 46, 3) := by decide +kernel
theorem dX10_canPlay_4 : decode cX10_canPlay 4 = .ok (.iload_n 1, 1) := by decide +kernel
theorem dX10_canPlay_5 : decode cX10_canPlay 5 = .ok (.invokevirtual 147, 3) := by decide +kernel
theorem dX10_canPlay_8 : decode cX10_canPlay 8 = .ok (.ifCond .eq 34, 3) := by decide +kernel
theorem dX10_canPlay_11 : decode cX10_canPlay 11 = .ok (.aload_n 0, 1) := by decide +kernel
theorem dX10_canPlay_12 : decode cX10_canPlay 12 = .ok (.getfield 46, 3) := by decide +kernel
theorem dX10_canPlay_15 : decode cX10_canPlay 15 = .ok (.iload_n 2, 1) := by decide +kernel
theorem dX10_canPlay_16 : decode cX10_canPlay 16 = .ok (.invokevirtual 147, 3) := by decide +kernel
theorem dX10_canPlay_19 : decode cX10_canPlay 19 = .ok (.ifCond .eq 23, 3) := by decide +kernel
theorem dX10_canPlay_22 : decode cX10_canPlay 22 = .ok (.iload_n 1, 1) := by decide +kernel
theorem dX10_canPlay_23 : decode cX10_canPlay 23 = .ok (.iload_n 2, 1) := by decide +kernel
theorem dX10_canPlay_24 : decode cX10_canPlay 24 = .ok (.if_icmp .eq 18, 3) := by decide +kernel
theorem dX10_canPlay_27 : decode cX10_canPlay 27 = .ok (.iload_n 3, 1) := by decide +kernel
theorem dX10_canPlay_28 : decode cX10_canPlay 28 = .ok (.iconst 1, 1) := by decide +kernel
theorem dX10_canPlay_29 : decode cX10_canPlay 29 = .ok (.if_icmp .lt 13, 3) := by decide +kernel
theorem dX10_canPlay_32 : decode cX10_canPlay 32 = .ok (.iload_n 3, 1) := by decide +kernel
theorem dX10_canPlay_33 : decode cX10_canPlay 33 = .ok (.bipush 40, 2) := by decide +kernel
theorem dX10_canPlay_35 : decode cX10_canPlay 35 = .ok (.if_icmp .gt 7, 3) := by decide +kernel
theorem dX10_canPlay_38 : decode cX10_canPlay 38 = .ok (.iconst 1, 1) := by decide +kernel
theorem dX10_canPlay_39 : decode cX10_canPlay 39 = .ok (.goto 4, 3) := by decide +kernel
theorem dX10_canPlay_42 : decode cX10_canPlay 42 = .ok (.iconst 0, 1) := by decide +kernel
theorem dX10_canPlay_43 : decode cX10_canPlay 43 = .ok (.ireturn, 1) := by decide +kernel
theorem dX10_game_0 : decode cX10_game 0 = .ok (.aload_n 0, 1) := by decide +kernel
theorem dX10_game_1 : decode cX10_game 1 = .ok (.iload_n 1, 1) := by decide +kernel
theorem dX10_game_2 : decode cX10_game 2 = .ok (.iload_n 2, 1) := by decide +kernel
theorem dX10_game_3 : decode cX10_game 3 = .ok (.iload_n 3, 1) := by decide +kernel
theorem dX10_game_4 : decode cX10_game 4 = .ok (.invokevirtual 280, 3) := by decide +kernel
theorem dX10_game_7 : decode cX10_game 7 = .ok (.ifCond .eq 38, 3) := by decide +kernel
theorem dX10_game_10 : decode cX10_game 10 = .ok (.iload 4, 2) := by decide +kernel
theorem dX10_game_12 : decode cX10_game 12 = .ok (.ifCond .lt 33, 3) := by decide +kernel
theorem dX10_game_15 : decode cX10_game 15 = .ok (.iload 4, 2) := by decide +kernel
theorem dX10_game_17 : decode cX10_game 17 = .ok (.bipush 9, 2) := by decide +kernel
theorem dX10_game_19 : decode cX10_game 19 = .ok (.if_icmp .gt 26, 3) := by decide +kernel
theorem dX10_game_22 : decode cX10_game 22 = .ok (.iload 5, 2) := by decide +kernel
theorem dX10_game_24 : decode cX10_game 24 = .ok (.ifCond .lt 21, 3) := by decide +kernel
theorem dX10_game_27 : decode cX10_game 27 = .ok (.iload 5, 2) := by decide +kernel
theorem dX10_game_29 : decode cX10_game 29 = .ok (.bipush 9, 2) := by decide +kernel
theorem dX10_game_31 : decode cX10_game 31 = .ok (.if_icmp .gt 14, 3) := by decide +kernel
theorem dX10_game_34 : decode cX10_game 34 = .ok (.iload 6, 2) := by decide +kernel
theorem dX10_game_36 : decode cX10_game 36 = .ok (.ifCond .lt 9, 3) := by decide +kernel
theorem dX10_game_39 : decode cX10_game 39 = .ok (.iload 6, 2) := by decide +kernel
theorem dX10_game_41 : decode cX10_game 41 = .ok (.iconst 1, 1) := by decide +kernel
theorem dX10_game_42 : decode cX10_game 42 = .ok (.if_icmp .le 6, 3) := by decide +kernel
theorem dX10_game_45 : decode cX10_game 45 = .ok (.ldc 210, 2) := by decide +kernel
theorem dX10_game_47 : decode cX10_game 47 = .ok (.ireturn, 1) := by decide +kernel
theorem dX10_game_48 : decode cX10_game 48 = .ok (.iload 6, 2) := by decide +kernel
theorem dX10_game_50 : decode cX10_game 50 = .ok (.ifCond .ne 25, 3) := by decide +kernel
theorem dX10_game_53 : decode cX10_game 53 = .ok (.aload_n 0, 1) := by decide +kernel
theorem dX10_game_54 : decode cX10_game 54 = .ok (.getfield 64, 3) := by decide +kernel
theorem dX10_game_57 : decode cX10_game 57 = .ok (.iload 4, 2) := by decide +kernel
theorem dX10_game_59 : decode cX10_game 59 = .ok (.iload 5, 2) := by decide +kernel
theorem dX10_game_61 : decode cX10_game 61 = .ok (.iadd, 1) := by decide +kernel
theorem dX10_game_62 : decode cX10_game 62 = .ok (.iload_n 3, 1) := by decide +kernel
theorem dX10_game_63 : decode cX10_game 63 = .ok (.iload_n 1, 1) := by decide +kernel
theorem dX10_game_64 : decode cX10_game 64 = .ok (.invokevirtual 284, 3) := by decide +kernel
theorem dX10_game_67 : decode cX10_game 67 = .ok (.iconst 2, 1) := by decide +kernel
theorem dX10_game_68 : decode cX10_game 68 = .ok (.imul, 1) := by decide +kernel
theorem dX10_game_69 : decode cX10_game 69 = .ok (.iload 4, 2) := by decide +kernel
theorem dX10_game_71 : decode cX10_game 71 = .ok (.isub, 1) := by decide +kernel
theorem dX10_game_72 : decode cX10_game 72 = .ok (.goto 22, 3) := by decide +kernel
theorem dX10_game_75 : decode cX10_game 75 = .ok (.aload_n 0, 1) := by decide +kernel
theorem dX10_game_76 : decode cX10_game 76 = .ok (.getfield 64, 3) := by decide +kernel
theorem dX10_game_79 : decode cX10_game 79 = .ok (.iload 4, 2) := by decide +kernel
theorem dX10_game_81 : decode cX10_game 81 = .ok (.iload 5, 2) := by decide +kernel
theorem dX10_game_83 : decode cX10_game 83 = .ok (.iadd, 1) := by decide +kernel
theorem dX10_game_84 : decode cX10_game 84 = .ok (.iload_n 3, 1) := by decide +kernel
theorem dX10_game_85 : decode cX10_game 85 = .ok (.iload_n 2, 1) := by decide +kernel
theorem dX10_game_86 : decode cX10_game 86 = .ok (.invokevirtual 284, 3) := by decide +kernel
theorem dX10_game_89 : decode cX10_game 89 = .ok (.iconst 2, 1) := by decide +kernel
theorem dX10_game_90 : decode cX10_game 90 = .ok (.imul, 1) := by decide +kernel
theorem dX10_game_91 : decode cX10_game 91 = .ok (.iload 5, 2) := by decide +kernel
theorem dX10_game_93 : decode cX10_game 93 = .ok (.isub, 1) := by decide +kernel
theorem dX10_game_94 : decode cX10_game 94 = .ok (.ireturn, 1) := by decide +kernel
theorem dX10_rests_0 : decode cX10_rests 0 = .ok (.aload_n 0, 1) := by decide +kernel
theorem dX10_rests_1 : decode cX10_rests 1 = .ok (.iload_n 1, 1) := by decide +kernel
theorem dX10_rests_2 : decode cX10_rests 2 = .ok (.iload_n 2, 1) := by decide +kernel
theorem dX10_rests_3 : decode cX10_rests 3 = .ok (.iload_n 3, 1) := by decide +kernel
theorem dX10_rests_4 : decode cX10_rests 4 = .ok (.invokevirtual 280, 3) := by decide +kernel
theorem dX10_rests_7 : decode cX10_rests 7 = .ok (.ifCond .eq 9, 3) := by decide +kernel
theorem dX10_rests_10 : decode cX10_rests 10 = .ok (.iload 4, 2) := by decide +kernel
theorem dX10_rests_12 : decode cX10_rests 12 = .ok (.iconst (-1), 1) := by decide +kernel
theorem dX10_rests_13 : decode cX10_rests 13 = .ok (.if_icmp .ge 5, 3) := by decide +kernel
theorem dX10_rests_16 : decode cX10_rests 16 = .ok (.iconst (-1), 1) := by decide +kernel
theorem dX10_rests_17 : decode cX10_rests 17 = .ok (.ireturn, 1) := by decide +kernel
theorem dX10_rests_18 : decode cX10_rests 18 = .ok (.aload_n 0, 1) := by decide +kernel
theorem dX10_rests_19 : decode cX10_rests 19 = .ok (.getfield 64, 3) := by decide +kernel
theorem dX10_rests_22 : decode cX10_rests 22 = .ok (.iload_n 1, 1) := by decide +kernel
theorem dX10_rests_23 : decode cX10_rests 23 = .ok (.iload_n 2, 1) := by decide +kernel
theorem dX10_rests_24 : decode cX10_rests 24 = .ok (.iload_n 3, 1) := by decide +kernel
theorem dX10_rests_25 : decode cX10_rests 25 = .ok (.iload 4, 2) := by decide +kernel
theorem dX10_rests_27 : decode cX10_rests 27 = .ok (.invokevirtual 288, 3) := by decide +kernel
theorem dX10_rests_30 : decode cX10_rests 30 = .ok (.ireturn, 1) := by decide +kernel
theorem dX10_shares_0 : decode cX10_shares 0 = .ok (.aload_n 0, 1) := by decide +kernel
theorem dX10_shares_1 : decode cX10_shares 1 = .ok (.getfield 46, 3) := by decide +kernel
theorem dX10_shares_4 : decode cX10_shares 4 = .ok (.iload_n 1, 1) := by decide +kernel
theorem dX10_shares_5 : decode cX10_shares 5 = .ok (.invokevirtual 147, 3) := by decide +kernel
theorem dX10_shares_8 : decode cX10_shares 8 = .ok (.ifCond .eq 25, 3) := by decide +kernel
theorem dX10_shares_11 : decode cX10_shares 11 = .ok (.iload_n 2, 1) := by decide +kernel
theorem dX10_shares_12 : decode cX10_shares 12 = .ok (.iconst 1, 1) := by decide +kernel
theorem dX10_shares_13 : decode cX10_shares 13 = .ok (.if_icmp .lt 20, 3) := by decide +kernel
theorem dX10_shares_16 : decode cX10_shares 16 = .ok (.iload_n 2, 1) := by decide +kernel
theorem dX10_shares_17 : decode cX10_shares 17 = .ok (.bipush 60, 2) := by decide +kernel
theorem dX10_shares_19 : decode cX10_shares 19 = .ok (.if_icmp .gt 14, 3) := by decide +kernel
theorem dX10_shares_22 : decode cX10_shares 22 = .ok (.iload_n 3, 1) := by decide +kernel
theorem dX10_shares_23 : decode cX10_shares 23 = .ok (.ifCond .lt 10, 3) := by decide +kernel
theorem dX10_shares_26 : decode cX10_shares 26 = .ok (.iload_n 3, 1) := by decide +kernel
theorem dX10_shares_27 : decode cX10_shares 27 = .ok (.sipush 999, 3) := by decide +kernel
theorem dX10_shares_30 : decode cX10_shares 30 = .ok (.if_icmp .le 5, 3) := by decide +kernel
theorem dX10_shares_33 : decode cX10_shares 33 = .ok (.iconst (-1), 1) := by decide +kernel
theorem dX10_shares_34 : decode cX10_shares 34 = .ok (.ireturn, 1) := by decide +kernel
theorem dX10_shares_35 : decode cX10_shares 35 = .ok (.aload_n 0, 1) := by decide +kernel
theorem dX10_shares_36 : decode cX10_shares 36 = .ok (.getfield 64, 3) := by decide +kernel
theorem dX10_shares_39 : decode cX10_shares 39 = .ok (.iload_n 1, 1) := by decide +kernel
theorem dX10_shares_40 : decode cX10_shares 40 = .ok (.iload_n 2, 1) := by decide +kernel
theorem dX10_shares_41 : decode cX10_shares 41 = .ok (.iload_n 3, 1) := by decide +kernel
theorem dX10_shares_42 : decode cX10_shares 42 = .ok (.invokevirtual 292, 3) := by decide +kernel
theorem dX10_shares_45 : decode cX10_shares 45 = .ok (.ireturn, 1) := by decide +kernel
theorem dX10_ride_0 : decode cX10_ride 0 = .ok (.aload_n 0, 1) := by decide +kernel
theorem dX10_ride_1 : decode cX10_ride 1 = .ok (.getfield 46, 3) := by decide +kernel
theorem dX10_ride_4 : decode cX10_ride 4 = .ok (.iload_n 1, 1) := by decide +kernel
theorem dX10_ride_5 : decode cX10_ride 5 = .ok (.invokevirtual 147, 3) := by decide +kernel
theorem dX10_ride_8 : decode cX10_ride 8 = .ok (.ifCond .eq 31, 3) := by decide +kernel
theorem dX10_ride_11 : decode cX10_ride 11 = .ok (.aload_n 0, 1) := by decide +kernel
theorem dX10_ride_12 : decode cX10_ride 12 = .ok (.getfield 46, 3) := by decide +kernel
theorem dX10_ride_15 : decode cX10_ride 15 = .ok (.iload_n 2, 1) := by decide +kernel
theorem dX10_ride_16 : decode cX10_ride 16 = .ok (.invokevirtual 147, 3) := by decide +kernel
theorem dX10_ride_19 : decode cX10_ride 19 = .ok (.ifCond .eq 20, 3) := by decide +kernel
theorem dX10_ride_22 : decode cX10_ride 22 = .ok (.iload_n 1, 1) := by decide +kernel
theorem dX10_ride_23 : decode cX10_ride 23 = .ok (.iload_n 2, 1) := by decide +kernel
theorem dX10_ride_24 : decode cX10_ride 24 = .ok (.if_icmp .eq 15, 3) := by decide +kernel
theorem dX10_ride_27 : decode cX10_ride 27 = .ok (.aload_n 0, 1) := by decide +kernel
theorem dX10_ride_28 : decode cX10_ride 28 = .ok (.getfield 64, 3) := by decide +kernel
theorem dX10_ride_31 : decode cX10_ride 31 = .ok (.iload_n 1, 1) := by decide +kernel
theorem dX10_ride_32 : decode cX10_ride 32 = .ok (.iload_n 2, 1) := by decide +kernel
theorem dX10_ride_33 : decode cX10_ride 33 = .ok (.invokevirtual 295, 3) := by decide +kernel
theorem dX10_ride_36 : decode cX10_ride 36 = .ok (.goto 4, 3) := by decide +kernel
theorem dX10_ride_39 : decode cX10_ride 39 = .ok (.iconst (-1), 1) := by decide +kernel
theorem dX10_ride_40 : decode cX10_ride 40 = .ok (.ireturn, 1) := by decide +kernel
theorem dX10_never_0 : decode cX10_never 0 = .ok (.aload_n 0, 1) := by decide +kernel
theorem dX10_never_1 : decode cX10_never 1 = .ok (.getfield 128, 3) := by decide +kernel
theorem dX10_never_4 : decode cX10_never 4 = .ok (.ifCond .eq 25, 3) := by decide +kernel
theorem dX10_never_7 : decode cX10_never 7 = .ok (.iload_n 1, 1) := by decide +kernel
theorem dX10_never_8 : decode cX10_never 8 = .ok (.iconst 1, 1) := by decide +kernel
theorem dX10_never_9 : decode cX10_never 9 = .ok (.if_icmp .lt 20, 3) := by decide +kernel
theorem dX10_never_12 : decode cX10_never 12 = .ok (.iload_n 1, 1) := by decide +kernel
theorem dX10_never_13 : decode cX10_never 13 = .ok (.bipush 60, 2) := by decide +kernel
theorem dX10_never_15 : decode cX10_never 15 = .ok (.if_icmp .gt 14, 3) := by decide +kernel
theorem dX10_never_18 : decode cX10_never 18 = .ok (.aload_n 0, 1) := by decide +kernel
theorem dX10_never_19 : decode cX10_never 19 = .ok (.getfield 64, 3) := by decide +kernel
theorem dX10_never_22 : decode cX10_never 22 = .ok (.iload_n 1, 1) := by decide +kernel
theorem dX10_never_23 : decode cX10_never 23 = .ok (.invokevirtual 298, 3) := by decide +kernel
theorem dX10_never_26 : decode cX10_never 26 = .ok (.goto 4, 3) := by decide +kernel
theorem dX10_never_29 : decode cX10_never 29 = .ok (.iconst (-1), 1) := by decide +kernel
theorem dX10_never_30 : decode cX10_never 30 = .ok (.ireturn, 1) := by decide +kernel
theorem dX10_lasts_0 : decode cX10_lasts 0 = .ok (.aload_n 0, 1) := by decide +kernel
theorem dX10_lasts_1 : decode cX10_lasts 1 = .ok (.getfield 128, 3) := by decide +kernel
theorem dX10_lasts_4 : decode cX10_lasts 4 = .ok (.ifCond .eq 13, 3) := by decide +kernel
theorem dX10_lasts_7 : decode cX10_lasts 7 = .ok (.aload_n 0, 1) := by decide +kernel
theorem dX10_lasts_8 : decode cX10_lasts 8 = .ok (.getfield 64, 3) := by decide +kernel
theorem dX10_lasts_11 : decode cX10_lasts 11 = .ok (.invokevirtual 301, 3) := by decide +kernel
theorem dX10_lasts_14 : decode cX10_lasts 14 = .ok (.goto 4, 3) := by decide +kernel
theorem dX10_lasts_17 : decode cX10_lasts 17 = .ok (.iconst (-1), 1) := by decide +kernel
theorem dX10_lasts_18 : decode cX10_lasts 18 = .ok (.ireturn, 1) := by decide +kernel
theorem dX10_odds_0 : decode cX10_odds 0 = .ok (.aload_n 0, 1) := by decide +kernel
theorem dX10_odds_1 : decode cX10_odds 1 = .ok (.getfield 128, 3) := by decide +kernel
theorem dX10_odds_4 : decode cX10_odds 4 = .ok (.ifCond .eq 23, 3) := by decide +kernel
theorem dX10_odds_7 : decode cX10_odds 7 = .ok (.iload_n 1, 1) := by decide +kernel
theorem dX10_odds_8 : decode cX10_odds 8 = .ok (.ifCond .lt 19, 3) := by decide +kernel
theorem dX10_odds_11 : decode cX10_odds 11 = .ok (.iload_n 1, 1) := by decide +kernel
theorem dX10_odds_12 : decode cX10_odds 12 = .ok (.bipush 30, 2) := by decide +kernel
theorem dX10_odds_14 : decode cX10_odds 14 = .ok (.if_icmp .gt 13, 3) := by decide +kernel
theorem dX10_odds_17 : decode cX10_odds 17 = .ok (.iload_n 2, 1) := by decide +kernel
theorem dX10_odds_18 : decode cX10_odds 18 = .ok (.ifCond .lt 9, 3) := by decide +kernel
theorem dX10_odds_21 : decode cX10_odds 21 = .ok (.iload_n 2, 1) := by decide +kernel
theorem dX10_odds_22 : decode cX10_odds 22 = .ok (.bipush 100, 2) := by decide +kernel
theorem dX10_odds_24 : decode cX10_odds 24 = .ok (.if_icmp .le 5, 3) := by decide +kernel
theorem dX10_odds_27 : decode cX10_odds 27 = .ok (.iconst (-1), 1) := by decide +kernel
theorem dX10_odds_28 : decode cX10_odds 28 = .ok (.ireturn, 1) := by decide +kernel
theorem dX10_odds_29 : decode cX10_odds 29 = .ok (.ldc2_w 304, 3) := by decide +kernel
theorem dX10_odds_32 : decode cX10_odds 32 = .ok (.aload_n 0, 1) := by decide +kernel
theorem dX10_odds_33 : decode cX10_odds 33 = .ok (.getfield 64, 3) := by decide +kernel
theorem dX10_odds_36 : decode cX10_odds 36 = .ok (.iload_n 1, 1) := by decide +kernel
theorem dX10_odds_37 : decode cX10_odds 37 = .ok (.iload_n 2, 1) := by decide +kernel
theorem dX10_odds_38 : decode cX10_odds 38 = .ok (.invokevirtual 306, 3) := by decide +kernel
theorem dX10_odds_41 : decode cX10_odds 41 = .ok (.lsub, 1) := by decide +kernel
theorem dX10_odds_42 : decode cX10_odds 42 = .ok (.l2i, 1) := by decide +kernel
theorem dX10_odds_43 : decode cX10_odds 43 = .ok (.ireturn, 1) := by decide +kernel
theorem dX10_price_0 : decode cX10_price 0 = .ok (.aload_n 0, 1) := by decide +kernel
theorem dX10_price_1 : decode cX10_price 1 = .ok (.getfield 128, 3) := by decide +kernel
theorem dX10_price_4 : decode cX10_price 4 = .ok (.ifCond .eq 35, 3) := by decide +kernel
theorem dX10_price_7 : decode cX10_price 7 = .ok (.iload_n 1, 1) := by decide +kernel
theorem dX10_price_8 : decode cX10_price 8 = .ok (.ifCond .lt 31, 3) := by decide +kernel
theorem dX10_price_11 : decode cX10_price 11 = .ok (.iload_n 1, 1) := by decide +kernel
theorem dX10_price_12 : decode cX10_price 12 = .ok (.bipush 30, 2) := by decide +kernel
theorem dX10_price_14 : decode cX10_price 14 = .ok (.if_icmp .gt 25, 3) := by decide +kernel
theorem dX10_price_17 : decode cX10_price 17 = .ok (.iload_n 2, 1) := by decide +kernel
theorem dX10_price_18 : decode cX10_price 18 = .ok (.ifCond .lt 21, 3) := by decide +kernel
theorem dX10_price_21 : decode cX10_price 21 = .ok (.iload_n 2, 1) := by decide +kernel
theorem dX10_price_22 : decode cX10_price 22 = .ok (.bipush 100, 2) := by decide +kernel
theorem dX10_price_24 : decode cX10_price 24 = .ok (.if_icmp .gt 15, 3) := by decide +kernel
theorem dX10_price_27 : decode cX10_price 27 = .ok (.iload_n 3, 1) := by decide +kernel
theorem dX10_price_28 : decode cX10_price 28 = .ok (.iconst 1, 1) := by decide +kernel
theorem dX10_price_29 : decode cX10_price 29 = .ok (.if_icmp .lt 10, 3) := by decide +kernel
theorem dX10_price_32 : decode cX10_price 32 = .ok (.iload_n 3, 1) := by decide +kernel
theorem dX10_price_33 : decode cX10_price 33 = .ok (.sipush 999, 3) := by decide +kernel
theorem dX10_price_36 : decode cX10_price 36 = .ok (.if_icmp .le 5, 3) := by decide +kernel
theorem dX10_price_39 : decode cX10_price 39 = .ok (.iconst (-1), 1) := by decide +kernel
theorem dX10_price_40 : decode cX10_price 40 = .ok (.ireturn, 1) := by decide +kernel
theorem dX10_price_41 : decode cX10_price 41 = .ok (.iload_n 3, 1) := by decide +kernel
theorem dX10_price_42 : decode cX10_price 42 = .ok (.i2l, 1) := by decide +kernel
theorem dX10_price_43 : decode cX10_price 43 = .ok (.aload_n 0, 1) := by decide +kernel
theorem dX10_price_44 : decode cX10_price 44 = .ok (.getfield 64, 3) := by decide +kernel
theorem dX10_price_47 : decode cX10_price 47 = .ok (.iload_n 1, 1) := by decide +kernel
theorem dX10_price_48 : decode cX10_price 48 = .ok (.iload_n 2, 1) := by decide +kernel
theorem dX10_price_49 : decode cX10_price 49 = .ok (.invokevirtual 306, 3) := by decide +kernel
theorem dX10_price_52 : decode cX10_price 52 = .ok (.lmul, 1) := by decide +kernel
theorem dX10_price_53 : decode cX10_price 53 = .ok (.ldc2_w 304, 3) := by decide +kernel
theorem dX10_price_56 : decode cX10_price 56 = .ok (.ladd, 1) := by decide +kernel
theorem dX10_price_57 : decode cX10_price 57 = .ok (.lconst 1, 1) := by decide +kernel
theorem dX10_price_58 : decode cX10_price 58 = .ok (.lsub, 1) := by decide +kernel
theorem dX10_price_59 : decode cX10_price 59 = .ok (.ldc2_w 304, 3) := by decide +kernel
theorem dX10_price_62 : decode cX10_price 62 = .ok (.ldiv, 1) := by decide +kernel
theorem dX10_price_63 : decode cX10_price 63 = .ok (.l2i, 1) := by decide +kernel
theorem dX10_price_64 : decode cX10_price 64 = .ok (.ireturn, 1) := by decide +kernel
theorem dX10_seen_0 : decode cX10_seen 0 = .ok (.aload_n 0, 1) := by decide +kernel
theorem dX10_seen_1 : decode cX10_seen 1 = .ok (.getfield 42, 3) := by decide +kernel
theorem dX10_seen_4 : decode cX10_seen 4 = .ok (.iload_n 2, 1) := by decide +kernel
theorem dX10_seen_5 : decode cX10_seen 5 = .ok (.invokevirtual 147, 3) := by decide +kernel
theorem dX10_seen_8 : decode cX10_seen 8 = .ok (.ifCond .eq 26, 3) := by decide +kernel
theorem dX10_seen_11 : decode cX10_seen 11 = .ok (.iload_n 1, 1) := by decide +kernel
theorem dX10_seen_12 : decode cX10_seen 12 = .ok (.iconst 1, 1) := by decide +kernel
theorem dX10_seen_13 : decode cX10_seen 13 = .ok (.if_icmp .lt 21, 3) := by decide +kernel
theorem dX10_seen_16 : decode cX10_seen 16 = .ok (.iload_n 1, 1) := by decide +kernel
theorem dX10_seen_17 : decode cX10_seen 17 = .ok (.bipush 40, 2) := by decide +kernel
theorem dX10_seen_19 : decode cX10_seen 19 = .ok (.if_icmp .gt 15, 3) := by decide +kernel
theorem dX10_seen_22 : decode cX10_seen 22 = .ok (.aload_n 0, 1) := by decide +kernel
theorem dX10_seen_23 : decode cX10_seen 23 = .ok (.getfield 71, 3) := by decide +kernel
theorem dX10_seen_26 : decode cX10_seen 26 = .ok (.getfield 208, 3) := by decide +kernel
theorem dX10_seen_29 : decode cX10_seen 29 = .ok (.bipush 10, 2) := by decide +kernel
theorem dX10_seen_31 : decode cX10_seen 31 = .ok (.if_icmp .lt 5, 3) := by decide +kernel
theorem dX10_seen_34 : decode cX10_seen 34 = .ok (.iconst (-1), 1) := by decide +kernel
theorem dX10_seen_35 : decode cX10_seen 35 = .ok (.ireturn, 1) := by decide +kernel
theorem dX10_seen_36 : decode cX10_seen 36 = .ok (.aload_n 0, 1) := by decide +kernel
theorem dX10_seen_37 : decode cX10_seen 37 = .ok (.getfield 71, 3) := by decide +kernel
theorem dX10_seen_40 : decode cX10_seen 40 = .ok (.iload_n 1, 1) := by decide +kernel
theorem dX10_seen_41 : decode cX10_seen 41 = .ok (.iload_n 2, 1) := by decide +kernel
theorem dX10_seen_42 : decode cX10_seen 42 = .ok (.iload_n 3, 1) := by decide +kernel
theorem dX10_seen_43 : decode cX10_seen 43 = .ok (.invokevirtual 310, 3) := by decide +kernel
theorem dX10_seen_46 : decode cX10_seen 46 = .ok (.ireturn, 1) := by decide +kernel
theorem dX10_who_0 : decode cX10_who 0 = .ok (.aload_n 0, 1) := by decide +kernel
theorem dX10_who_1 : decode cX10_who 1 = .ok (.getfield 128, 3) := by decide +kernel
theorem dX10_who_4 : decode cX10_who 4 = .ok (.ifCond .eq 18, 3) := by decide +kernel
theorem dX10_who_7 : decode cX10_who 7 = .ok (.iload_n 1, 1) := by decide +kernel
theorem dX10_who_8 : decode cX10_who 8 = .ok (.iconst 1, 1) := by decide +kernel
theorem dX10_who_9 : decode cX10_who 9 = .ok (.if_icmp .lt 13, 3) := by decide +kernel
theorem dX10_who_12 : decode cX10_who 12 = .ok (.iload_n 1, 1) := by decide +kernel
theorem dX10_who_13 : decode cX10_who 13 = .ok (.iconst 5, 1) := by decide +kernel
theorem dX10_who_14 : decode cX10_who 14 = .ok (.if_icmp .gt 8, 3) := by decide +kernel
theorem dX10_who_17 : decode cX10_who 17 = .ok (.iload_n 2, 1) := by decide +kernel
theorem dX10_who_18 : decode cX10_who 18 = .ok (.iconst (-1), 1) := by decide +kernel
theorem dX10_who_19 : decode cX10_who 19 = .ok (.if_icmp .ge 5, 3) := by decide +kernel
theorem dX10_who_22 : decode cX10_who 22 = .ok (.iconst (-1), 1) := by decide +kernel
theorem dX10_who_23 : decode cX10_who 23 = .ok (.ireturn, 1) := by decide +kernel
theorem dX10_who_24 : decode cX10_who 24 = .ok (.aload_n 0, 1) := by decide +kernel
theorem dX10_who_25 : decode cX10_who 25 = .ok (.getfield 71, 3) := by decide +kernel
theorem dX10_who_28 : decode cX10_who 28 = .ok (.iload_n 1, 1) := by decide +kernel
theorem dX10_who_29 : decode cX10_who 29 = .ok (.invokevirtual 314, 3) := by decide +kernel
theorem dX10_who_32 : decode cX10_who 32 = .ok (.aload_n 0, 1) := by decide +kernel
theorem dX10_who_33 : decode cX10_who 33 = .ok (.getfield 71, 3) := by decide +kernel
theorem dX10_who_36 : decode cX10_who 36 = .ok (.iload_n 2, 1) := by decide +kernel
theorem dX10_who_37 : decode cX10_who 37 = .ok (.invokevirtual 317, 3) := by decide +kernel
theorem dX10_who_40 : decode cX10_who 40 = .ok (.ireturn, 1) := by decide +kernel
theorem dX10_best_0 : decode cX10_best 0 = .ok (.aload_n 0, 1) := by decide +kernel
theorem dX10_best_1 : decode cX10_best 1 = .ok (.getfield 128, 3) := by decide +kernel
theorem dX10_best_4 : decode cX10_best 4 = .ok (.ifCond .eq 13, 3) := by decide +kernel
theorem dX10_best_7 : decode cX10_best 7 = .ok (.iload_n 1, 1) := by decide +kernel
theorem dX10_best_8 : decode cX10_best 8 = .ok (.iconst 1, 1) := by decide +kernel
theorem dX10_best_9 : decode cX10_best 9 = .ok (.if_icmp .lt 8, 3) := by decide +kernel
theorem dX10_best_12 : decode cX10_best 12 = .ok (.iload_n 1, 1) := by decide +kernel
theorem dX10_best_13 : decode cX10_best 13 = .ok (.iconst 5, 1) := by decide +kernel
theorem dX10_best_14 : decode cX10_best 14 = .ok (.if_icmp .le 5, 3) := by decide +kernel
theorem dX10_best_17 : decode cX10_best 17 = .ok (.iconst (-1), 1) := by decide +kernel
theorem dX10_best_18 : decode cX10_best 18 = .ok (.ireturn, 1) := by decide +kernel
theorem dX10_best_19 : decode cX10_best 19 = .ok (.aload_n 0, 1) := by decide +kernel
theorem dX10_best_20 : decode cX10_best 20 = .ok (.getfield 71, 3) := by decide +kernel
theorem dX10_best_23 : decode cX10_best 23 = .ok (.iload_n 1, 1) := by decide +kernel
theorem dX10_best_24 : decode cX10_best 24 = .ok (.invokevirtual 314, 3) := by decide +kernel
theorem dX10_best_27 : decode cX10_best 27 = .ok (.aload_n 0, 1) := by decide +kernel
theorem dX10_best_28 : decode cX10_best 28 = .ok (.getfield 71, 3) := by decide +kernel
theorem dX10_best_31 : decode cX10_best 31 = .ok (.invokevirtual 320, 3) := by decide +kernel
theorem dX10_best_34 : decode cX10_best 34 = .ok (.ireturn, 1) := by decide +kernel
theorem dX10_cell_0 : decode cX10_cell 0 = .ok (.aload_n 0, 1) := by decide +kernel
theorem dX10_cell_1 : decode cX10_cell 1 = .ok (.ifnull 13, 3) := by decide +kernel
theorem dX10_cell_4 : decode cX10_cell 4 = .ok (.iload_n 1, 1) := by decide +kernel
theorem dX10_cell_5 : decode cX10_cell 5 = .ok (.ifCond .lt 9, 3) := by decide +kernel
theorem dX10_cell_8 : decode cX10_cell 8 = .ok (.iload_n 1, 1) := by decide +kernel
theorem dX10_cell_9 : decode cX10_cell 9 = .ok (.aload_n 0, 1) := by decide +kernel
theorem dX10_cell_10 : decode cX10_cell 10 = .ok (.arraylength, 1) := by decide +kernel
theorem dX10_cell_11 : decode cX10_cell 11 = .ok (.if_icmp .lt 7, 3) := by decide +kernel
theorem dX10_cell_14 : decode cX10_cell 14 = .ok (.iconst 0, 1) := by decide +kernel
theorem dX10_cell_15 : decode cX10_cell 15 = .ok (.goto 6, 3) := by decide +kernel
theorem dX10_cell_18 : decode cX10_cell 18 = .ok (.aload_n 0, 1) := by decide +kernel
theorem dX10_cell_19 : decode cX10_cell 19 = .ok (.iload_n 1, 1) := by decide +kernel
theorem dX10_cell_20 : decode cX10_cell 20 = .ok (.iaload, 1) := by decide +kernel
theorem dX10_cell_21 : decode cX10_cell 21 = .ok (.ireturn, 1) := by decide +kernel
theorem dX10_setCell_0 : decode cX10_setCell 0 = .ok (.aload_n 0, 1) := by decide +kernel
theorem dX10_setCell_1 : decode cX10_setCell 1 = .ok (.ifnull 17, 3) := by decide +kernel
theorem dX10_setCell_4 : decode cX10_setCell 4 = .ok (.iload_n 1, 1) := by decide +kernel
theorem dX10_setCell_5 : decode cX10_setCell 5 = .ok (.ifCond .lt 13, 3) := by decide +kernel
theorem dX10_setCell_8 : decode cX10_setCell 8 = .ok (.iload_n 1, 1) := by decide +kernel
theorem dX10_setCell_9 : decode cX10_setCell 9 = .ok (.aload_n 0, 1) := by decide +kernel
theorem dX10_setCell_10 : decode cX10_setCell 10 = .ok (.arraylength, 1) := by decide +kernel
theorem dX10_setCell_11 : decode cX10_setCell 11 = .ok (.if_icmp .ge 7, 3) := by decide +kernel
theorem dX10_setCell_14 : decode cX10_setCell 14 = .ok (.aload_n 0, 1) := by decide +kernel
theorem dX10_setCell_15 : decode cX10_setCell 15 = .ok (.iload_n 1, 1) := by decide +kernel
theorem dX10_setCell_16 : decode cX10_setCell 16 = .ok (.iload_n 2, 1) := by decide +kernel
theorem dX10_setCell_17 : decode cX10_setCell 17 = .ok (.iastore, 1) := by decide +kernel
theorem dX10_setCell_18 : decode cX10_setCell 18 = .ok (.return_, 1) := by decide +kernel
