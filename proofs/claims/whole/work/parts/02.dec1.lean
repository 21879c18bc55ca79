theorem dX0_init_0 : decode cX0_init 0 = .ok (.aload_n 0, 1) := by decide +kernel
theorem dX0_init_1 : decode cX0_init 1 = .ok (.invokespecial 3, 3) := by decide +kernel
theorem dX0_init_4 : decode cX0_init 4 = .ok (.aload_n 0, 1) := by decide +kernel
theorem dX0_init_5 : decode cX0_init 5 = .ok (.sipush 5720, 3) := by decide +kernel
theorem dX0_init_8 : decode cX0_init 8 = .ok (.newarray .int, 2) := by decide +kernel
theorem dX0_init_10 : decode cX0_init 10 = .ok (.putfield 9, 3) := by decide +kernel
theorem dX0_init_13 : decode cX0_init 13 = .ok (.return_, 1) := by decide +kernel
theorem dX0_forget_0 : decode cX0_forget 0 = .ok (.aload_n 0, 1) := by decide +kernel
theorem dX0_forget_1 : decode cX0_forget 1 = .ok (.iconst 0, 1) := by decide +kernel
theorem dX0_forget_2 : decode cX0_forget 2 = .ok (.putfield 15, 3) := by decide +kernel
theorem dX0_forget_5 : decode cX0_forget 5 = .ok (.return_, 1) := by decide +kernel
theorem dX0_keep_0 : decode cX0_keep 0 = .ok (.iconst 0, 1) := by decide +kernel
theorem dX0_keep_1 : decode cX0_keep 1 = .ok (.istore_n 2, 1) := by decide +kernel
theorem dX0_keep_2 : decode cX0_keep 2 = .ok (.iload_n 2, 1) := by decide +kernel
theorem dX0_keep_3 : decode cX0_keep 3 = .ok (.sipush 143, 3) := by decide +kernel
theorem dX0_keep_6 : decode cX0_keep 6 = .ok (.if_icmp .ge 31, 3) := by decide +kernel
theorem dX0_keep_9 : decode cX0_keep 9 = .ok (.aload_n 0, 1) := by decide +kernel
theorem dX0_keep_10 : decode cX0_keep 10 = .ok (.getfield 9, 3) := by decide +kernel
theorem dX0_keep_13 : decode cX0_keep 13 = .ok (.aload_n 0, 1) := by decide +kernel
theorem dX0_keep_14 : decode cX0_keep 14 = .ok (.getfield 19, 3) := by decide +kernel
theorem dX0_keep_17 : decode cX0_keep 17 = .ok (.sipush 143, 3) := by decide +kernel
theorem dX0_keep_20 : decode cX0_keep 20 = .ok (.imul, 1) := by decide +kernel
theorem dX0_keep_21 : decode cX0_keep 21 = .ok (.iload_n 2, 1) := by decide +kernel
theorem dX0_keep_22 : decode cX0_keep 22 = .ok (.iadd, 1) := by decide +kernel
theorem dX0_keep_23 : decode cX0_keep 23 = .ok (.aload_n 1, 1) := by decide +kernel
theorem dX0_keep_24 : decode cX0_keep 24 = .ok (.iload_n 2, 1) := by decide +kernel
theorem dX0_keep_25 : decode cX0_keep 25 = .ok (.invokevirtual 22, 3) := by decide +kernel
theorem dX0_keep_28 : decode cX0_keep 28 = .ok (.invokestatic 28, 3) := by decide +kernel
theorem dX0_keep_31 : decode cX0_keep 31 = .ok (.iinc 2 1, 3) := by decide +kernel
theorem dX0_keep_34 : decode cX0_keep 34 = .ok (.goto (-32), 3) := by decide +kernel
theorem dX0_keep_37 : decode cX0_keep 37 = .ok (.aload_n 0, 1) := by decide +kernel
theorem dX0_keep_38 : decode cX0_keep 38 = .ok (.aload_n 0, 1) := by decide +kernel
theorem dX0_keep_39 : decode cX0_keep 39 = .ok (.getfield 19, 3) := by decide +kernel
theorem dX0_keep_42 : decode cX0_keep 42 = .ok (.iconst 1, 1) := by decide +kernel
theorem dX0_keep_43 : decode cX0_keep 43 = .ok (.iadd, 1) := by decide +kernel
theorem dX0_keep_44 : decode cX0_keep 44 = .ok (.bipush 40, 2) := by decide +kernel
theorem dX0_keep_46 : decode cX0_keep 46 = .ok (.irem, 1) := by decide +kernel
theorem dX0_keep_47 : decode cX0_keep 47 = .ok (.putfield 19, 3) := by decide +kernel
theorem dX0_keep_50 : decode cX0_keep 50 = .ok (.aload_n 0, 1) := by decide +kernel
theorem dX0_keep_51 : decode cX0_keep 51 = .ok (.bipush 40, 2) := by decide +kernel
theorem dX0_keep_53 : decode cX0_keep 53 = .ok (.aload_n 0, 1) := by decide +kernel
theorem dX0_keep_54 : decode cX0_keep 54 = .ok (.getfield 15, 3) := by decide +kernel
theorem dX0_keep_57 : decode cX0_keep 57 = .ok (.iconst 1, 1) := by decide +kernel
theorem dX0_keep_58 : decode cX0_keep 58 = .ok (.iadd, 1) := by decide +kernel
theorem dX0_keep_59 : decode cX0_keep 59 = .ok (.invokestatic 32, 3) := by decide +kernel
theorem dX0_keep_62 : decode cX0_keep 62 = .ok (.putfield 15, 3) := by decide +kernel
theorem dX0_keep_65 : decode cX0_keep 65 = .ok (.return_, 1) := by decide +kernel
theorem dX0_takeBack_0 : decode cX0_takeBack 0 = .ok (.aload_n 0, 1) := by decide +kernel
theorem dX0_takeBack_1 : decode cX0_takeBack 1 = .ok (.getfield 15, 3) := by decide +kernel
theorem dX0_takeBack_4 : decode cX0_takeBack 4 = .ok (.iconst 1, 1) := by decide +kernel
theorem dX0_takeBack_5 : decode cX0_takeBack 5 = .ok (.if_icmp .ge 5, 3) := by decide +kernel
theorem dX0_takeBack_8 : decode cX0_takeBack 8 = .ok (.iconst 0, 1) := by decide +kernel
theorem dX0_takeBack_9 : decode cX0_takeBack 9 = .ok (.ireturn, 1) := by decide +kernel
theorem dX0_takeBack_10 : decode cX0_takeBack 10 = .ok (.aload_n 0, 1) := by decide +kernel
theorem dX0_takeBack_11 : decode cX0_takeBack 11 = .ok (.aload_n 0, 1) := by decide +kernel
theorem dX0_takeBack_12 : decode cX0_takeBack 12 = .ok (.getfield 19, 3) := by decide +kernel
theorem dX0_takeBack_15 : decode cX0_takeBack 15 = .ok (.bipush 40, 2) := by decide +kernel
theorem dX0_takeBack_17 : decode cX0_takeBack 17 = .ok (.iadd, 1) := by decide +kernel
theorem dX0_takeBack_18 : decode cX0_takeBack 18 = .ok (.iconst 1, 1) := by decide +kernel
theorem dX0_takeBack_19 : decode cX0_takeBack 19 = .ok (.isub, 1) := by decide +kernel
theorem dX0_takeBack_20 : decode cX0_takeBack 20 = .ok (.bipush 40, 2) := by decide +kernel
theorem dX0_takeBack_22 : decode cX0_takeBack 22 = .ok (.irem, 1) := by decide +kernel
theorem dX0_takeBack_23 : decode cX0_takeBack 23 = .ok (.putfield 19, 3) := by decide +kernel
theorem dX0_takeBack_26 : decode cX0_takeBack 26 = .ok (.aload_n 0, 1) := by decide +kernel
theorem dX0_takeBack_27 : decode cX0_takeBack 27 = .ok (.dup, 1) := by decide +kernel
theorem dX0_takeBack_28 : decode cX0_takeBack 28 = .ok (.getfield 15, 3) := by decide +kernel
theorem dX0_takeBack_31 : decode cX0_takeBack 31 = .ok (.iconst 1, 1) := by decide +kernel
theorem dX0_takeBack_32 : decode cX0_takeBack 32 = .ok (.isub, 1) := by decide +kernel
theorem dX0_takeBack_33 : decode cX0_takeBack 33 = .ok (.putfield 15, 3) := by decide +kernel
theorem dX0_takeBack_36 : decode cX0_takeBack 36 = .ok (.iconst 0, 1) := by decide +kernel
theorem dX0_takeBack_37 : decode cX0_takeBack 37 = .ok (.istore_n 2, 1) := by decide +kernel
theorem dX0_takeBack_38 : decode cX0_takeBack 38 = .ok (.iload_n 2, 1) := by decide +kernel
theorem dX0_takeBack_39 : decode cX0_takeBack 39 = .ok (.sipush 143, 3) := by decide +kernel
theorem dX0_takeBack_42 : decode cX0_takeBack 42 = .ok (.if_icmp .ge 31, 3) := by decide +kernel
theorem dX0_takeBack_45 : decode cX0_takeBack 45 = .ok (.aload_n 1, 1) := by decide +kernel
theorem dX0_takeBack_46 : decode cX0_takeBack 46 = .ok (.iload_n 2, 1) := by decide +kernel
theorem dX0_takeBack_47 : decode cX0_takeBack 47 = .ok (.aload_n 0, 1) := by decide +kernel
theorem dX0_takeBack_48 : decode cX0_takeBack 48 = .ok (.getfield 9, 3) := by decide +kernel
theorem dX0_takeBack_51 : decode cX0_takeBack 51 = .ok (.aload_n 0, 1) := by decide +kernel
theorem dX0_takeBack_52 : decode cX0_takeBack 52 = .ok (.getfield 19, 3) := by decide +kernel
theorem dX0_takeBack_55 : decode cX0_takeBack 55 = .ok (.sipush 143, 3) := by decide +kernel
theorem dX0_takeBack_58 : decode cX0_takeBack 58 = .ok (.imul, 1) := by decide +kernel
theorem dX0_takeBack_59 : decode cX0_takeBack 59 = .ok (.iload_n 2, 1) := by decide +kernel
theorem dX0_takeBack_60 : decode cX0_takeBack 60 = .ok (.iadd, 1) := by decide +kernel
theorem dX0_takeBack_61 : decode cX0_takeBack 61 = .ok (.invokestatic 38, 3) := by decide +kernel
theorem dX0_takeBack_64 : decode cX0_takeBack 64 = .ok (.invokevirtual 42, 3) := by decide +kernel
theorem dX0_takeBack_67 : decode cX0_takeBack 67 = .ok (.iinc 2 1, 3) := by decide +kernel
theorem dX0_takeBack_70 : decode cX0_takeBack 70 = .ok (.goto (-32), 3) := by decide +kernel
theorem dX0_takeBack_73 : decode cX0_takeBack 73 = .ok (.iconst 1, 1) := by decide +kernel
theorem dX0_takeBack_74 : decode cX0_takeBack 74 = .ok (.ireturn, 1) := by decide +kernel
theorem dX1_init_0 : decode cX1_init 0 = .ok (.aload_n 0, 1) := by decide +kernel
theorem dX1_init_1 : decode cX1_init 1 = .ok (.invokespecial 3, 3) := by decide +kernel
theorem dX1_init_4 : decode cX1_init 4 = .ok (.aload_n 0, 1) := by decide +kernel
theorem dX1_init_5 : decode cX1_init 5 = .ok (.aload_n 1, 1) := by decide +kernel
theorem dX1_init_6 : decode cX1_init 6 = .ok (.putfield 9, 3) := by decide +kernel
theorem dX1_init_9 : decode cX1_init 9 = .ok (.return_, 1) := by decide +kernel
theorem dX1_begin_0 : decode cX1_begin 0 = .ok (.aload_n 0, 1) := by decide +kernel
theorem dX1_begin_1 : decode cX1_begin 1 = .ok (.iconst 0, 1) := by decide +kernel
theorem dX1_begin_2 : decode cX1_begin 2 = .ok (.putfield 15, 3) := by decide +kernel
theorem dX1_begin_5 : decode cX1_begin 5 = .ok (.aload_n 0, 1) := by decide +kernel
theorem dX1_begin_6 : decode cX1_begin 6 = .ok (.iconst (-1), 1) := by decide +kernel
theorem dX1_begin_7 : decode cX1_begin 7 = .ok (.putfield 19, 3) := by decide +kernel
theorem dX1_begin_10 : decode cX1_begin 10 = .ok (.return_, 1) := by decide +kernel
theorem dX1_failed_0 : decode cX1_failed 0 = .ok (.aload_n 0, 1) := by decide +kernel
theorem dX1_failed_1 : decode cX1_failed 1 = .ok (.getfield 19, 3) := by decide +kernel
theorem dX1_failed_4 : decode cX1_failed 4 = .ok (.iconst (-1), 1) := by decide +kernel
theorem dX1_failed_5 : decode cX1_failed 5 = .ok (.if_icmp .eq 7, 3) := by decide +kernel
theorem dX1_failed_8 : decode cX1_failed 8 = .ok (.iconst 1, 1) := by decide +kernel
theorem dX1_failed_9 : decode cX1_failed 9 = .ok (.goto 4, 3) := by decide +kernel
theorem dX1_failed_12 : decode cX1_failed 12 = .ok (.iconst 0, 1) := by decide +kernel
theorem dX1_failed_13 : decode cX1_failed 13 = .ok (.ireturn, 1) := by decide +kernel
theorem dX1_fail_0 : decode cX1_fail 0 = .ok (.aload_n 0, 1) := by decide +kernel
theorem dX1_fail_1 : decode cX1_fail 1 = .ok (.getfield 19, 3) := by decide +kernel
theorem dX1_fail_4 : decode cX1_fail 4 = .ok (.iconst (-1), 1) := by decide +kernel
theorem dX1_fail_5 : decode cX1_fail 5 = .ok (.if_icmp .ne 11, 3) := by decide +kernel
theorem dX1_fail_8 : decode cX1_fail 8 = .ok (.aload_n 0, 1) := by decide +kernel
theorem dX1_fail_9 : decode cX1_fail 9 = .ok (.aload_n 0, 1) := by decide +kernel
theorem dX1_fail_10 : decode cX1_fail 10 = .ok (.getfield 15, 3) := by decide +kernel
theorem dX1_fail_13 : decode cX1_fail 13 = .ok (.putfield 19, 3) := by decide +kernel
theorem dX1_fail_16 : decode cX1_fail 16 = .ok (.return_, 1) := by decide +kernel
theorem dX1_look_0 : decode cX1_look 0 = .ok (.aload_n 0, 1) := by decide +kernel
theorem dX1_look_1 : decode cX1_look 1 = .ok (.getfield 9, 3) := by decide +kernel
theorem dX1_look_4 : decode cX1_look 4 = .ok (.invokevirtual 22, 3) := by decide +kernel
theorem dX1_look_7 : decode cX1_look 7 = .ok (.istore_n 1, 1) := by decide +kernel
theorem dX1_look_8 : decode cX1_look 8 = .ok (.aload_n 0, 1) := by decide +kernel
theorem dX1_look_9 : decode cX1_look 9 = .ok (.getfield 15, 3) := by decide +kernel
theorem dX1_look_12 : decode cX1_look 12 = .ok (.iload_n 1, 1) := by decide +kernel
theorem dX1_look_13 : decode cX1_look 13 = .ok (.if_icmp .ge 32, 3) := by decide +kernel
theorem dX1_look_16 : decode cX1_look 16 = .ok (.aload_n 0, 1) := by decide +kernel
theorem dX1_look_17 : decode cX1_look 17 = .ok (.getfield 9, 3) := by decide +kernel
theorem dX1_look_20 : decode cX1_look 20 = .ok (.aload_n 0, 1) := by decide +kernel
theorem dX1_look_21 : decode cX1_look 21 = .ok (.getfield 15, 3) := by decide +kernel
theorem dX1_look_24 : decode cX1_look 24 = .ok (.invokevirtual 28, 3) := by decide +kernel
theorem dX1_look_27 : decode cX1_look 27 = .ok (.bipush 32, 2) := by decide +kernel
theorem dX1_look_29 : decode cX1_look 29 = .ok (.if_icmp .ne 16, 3) := by decide +kernel
theorem dX1_look_32 : decode cX1_look 32 = .ok (.aload_n 0, 1) := by decide +kernel
theorem dX1_look_33 : decode cX1_look 33 = .ok (.dup, 1) := by decide +kernel
theorem dX1_look_34 : decode cX1_look 34 = .ok (.getfield 15, 3) := by decide +kernel
theorem dX1_look_37 : decode cX1_look 37 = .ok (.iconst 1, 1) := by decide +kernel
theorem dX1_look_38 : decode cX1_look 38 = .ok (.iadd, 1) := by decide +kernel
theorem dX1_look_39 : decode cX1_look 39 = .ok (.putfield 15, 3) := by decide +kernel
theorem dX1_look_42 : decode cX1_look 42 = .ok (.goto (-34), 3) := by decide +kernel
theorem dX1_look_45 : decode cX1_look 45 = .ok (.aload_n 0, 1) := by decide +kernel
theorem dX1_look_46 : decode cX1_look 46 = .ok (.getfield 9, 3) := by decide +kernel
theorem dX1_look_49 : decode cX1_look 49 = .ok (.aload_n 0, 1) := by decide +kernel
theorem dX1_look_50 : decode cX1_look 50 = .ok (.getfield 15, 3) := by decide +kernel
theorem dX1_look_53 : decode cX1_look 53 = .ok (.invokevirtual 28, 3) := by decide +kernel
theorem dX1_look_56 : decode cX1_look 56 = .ok (.ireturn, 1) := by decide +kernel
theorem dX1_lookFor_0 : decode cX1_lookFor 0 = .ok (.aload_n 0, 1) := by decide +kernel
theorem dX1_lookFor_1 : decode cX1_lookFor 1 = .ok (.invokevirtual 32, 3) := by decide +kernel
theorem dX1_lookFor_4 : decode cX1_lookFor 4 = .ok (.istore_n 2, 1) := by decide +kernel
theorem dX1_lookFor_5 : decode cX1_lookFor 5 = .ok (.iload_n 2, 1) := by decide +kernel
theorem dX1_lookFor_6 : decode cX1_lookFor 6 = .ok (.ifCond .ge 7, 3) := by decide +kernel
theorem dX1_lookFor_9 : decode cX1_lookFor 9 = .ok (.iconst (-1), 1) := by decide +kernel
theorem dX1_lookFor_10 : decode cX1_lookFor 10 = .ok (.goto 9, 3) := by decide +kernel
theorem dX1_lookFor_13 : decode cX1_lookFor 13 = .ok (.aload_n 1, 1) := by decide +kernel
theorem dX1_lookFor_14 : decode cX1_lookFor 14 = .ok (.iload_n 2, 1) := by decide +kernel
theorem dX1_lookFor_15 : decode cX1_lookFor 15 = .ok (.i2c, 1) := by decide +kernel
theorem dX1_lookFor_16 : decode cX1_lookFor 16 = .ok (.invokevirtual 35, 3) := by decide +kernel
theorem dX1_lookFor_19 : decode cX1_lookFor 19 = .ok (.ireturn, 1) := by decide +kernel
theorem dX1_step_0 : decode cX1_step 0 = .ok (.aload_n 0, 1) := by decide +kernel
theorem dX1_step_1 : decode cX1_step 1 = .ok (.dup, 1) := by decide +kernel
theorem dX1_step_2 : decode cX1_step 2 = .ok (.getfield 15, 3) := by decide +kernel
theorem dX1_step_5 : decode cX1_step 5 = .ok (.iconst 1, 1) := by decide +kernel
theorem dX1_step_6 : decode cX1_step 6 = .ok (.iadd, 1) := by decide +kernel
theorem dX1_step_7 : decode cX1_step 7 = .ok (.putfield 15, 3) := by decide +kernel
theorem dX1_step_10 : decode cX1_step 10 = .ok (.return_, 1) := by decide +kernel
theorem dX1_expect_0 : decode cX1_expect 0 = .ok (.aload_n 0, 1) := by decide +kernel
theorem dX1_expect_1 : decode cX1_expect 1 = .ok (.invokevirtual 32, 3) := by decide +kernel
theorem dX1_expect_4 : decode cX1_expect 4 = .ok (.iload_n 1, 1) := by decide +kernel
theorem dX1_expect_5 : decode cX1_expect 5 = .ok (.if_icmp .ne 16, 3) := by decide +kernel
theorem dX1_expect_8 : decode cX1_expect 8 = .ok (.aload_n 0, 1) := by decide +kernel
theorem dX1_expect_9 : decode cX1_expect 9 = .ok (.dup, 1) := by decide +kernel
theorem dX1_expect_10 : decode cX1_expect 10 = .ok (.getfield 15, 3) := by decide +kernel
theorem dX1_expect_13 : decode cX1_expect 13 = .ok (.iconst 1, 1) := by decide +kernel
theorem dX1_expect_14 : decode cX1_expect 14 = .ok (.iadd, 1) := by decide +kernel
theorem dX1_expect_15 : decode cX1_expect 15 = .ok (.putfield 15, 3) := by decide +kernel
theorem dX1_expect_18 : decode cX1_expect 18 = .ok (.goto 7, 3) := by decide +kernel
theorem dX1_expect_21 : decode cX1_expect 21 = .ok (.aload_n 0, 1) := by decide +kernel
theorem dX1_expect_22 : decode cX1_expect 22 = .ok (.invokevirtual 40, 3) := by decide +kernel
theorem dX1_expect_25 : decode cX1_expect 25 = .ok (.return_, 1) := by decide +kernel
theorem dX1_onDigit_0 : decode cX1_onDigit 0 = .ok (.aload_n 0, 1) := by decide +kernel
theorem dX1_onDigit_1 : decode cX1_onDigit 1 = .ok (.getfield 9, 3) := by decide +kernel
theorem dX1_onDigit_4 : decode cX1_onDigit 4 = .ok (.aload_n 0, 1) := by decide +kernel
theorem dX1_onDigit_5 : decode cX1_onDigit 5 = .ok (.getfield 15, 3) := by decide +kernel
theorem dX1_onDigit_8 : decode cX1_onDigit 8 = .ok (.invokevirtual 28, 3) := by decide +kernel
theorem dX1_onDigit_11 : decode cX1_onDigit 11 = .ok (.istore_n 1, 1) := by decide +kernel
theorem dX1_onDigit_12 : decode cX1_onDigit 12 = .ok (.iload_n 1, 1) := by decide +kernel
theorem dX1_onDigit_13 : decode cX1_onDigit 13 = .ok (.bipush 48, 2) := by decide +kernel
theorem dX1_onDigit_15 : decode cX1_onDigit 15 = .ok (.if_icmp .lt 13, 3) := by decide +kernel
theorem dX1_onDigit_18 : decode cX1_onDigit 18 = .ok (.iload_n 1, 1) := by decide +kernel
theorem dX1_onDigit_19 : decode cX1_onDigit 19 = .ok (.bipush 57, 2) := by decide +kernel
theorem dX1_onDigit_21 : decode cX1_onDigit 21 = .ok (.if_icmp .gt 7, 3) := by decide +kernel
theorem dX1_onDigit_24 : decode cX1_onDigit 24 = .ok (.iconst 1, 1) := by decide +kernel
theorem dX1_onDigit_25 : decode cX1_onDigit 25 = .ok (.goto 4, 3) := by decide +kernel
theorem dX1_onDigit_28 : decode cX1_onDigit 28 = .ok (.iconst 0, 1) := by decide +kernel
theorem dX1_onDigit_29 : decode cX1_onDigit 29 = .ok (.ireturn, 1) := by decide +kernel
theorem dX1_number_0 : decode cX1_number 0 = .ok (.aload_n 0, 1) := by decide +kernel
theorem dX1_number_1 : decode cX1_number 1 = .ok (.invokevirtual 32, 3) := by decide +kernel
theorem dX1_number_4 : decode cX1_number 4 = .ok (.pop, 1) := by decide +kernel
theorem dX1_number_5 : decode cX1_number 5 = .ok (.aload_n 0, 1) := by decide +kernel
theorem dX1_number_6 : decode cX1_number 6 = .ok (.invokevirtual 43, 3) := by decide +kernel
theorem dX1_number_9 : decode cX1_number 9 = .ok (.ifCond .ne 9, 3) := by decide +kernel
theorem dX1_number_12 : decode cX1_number 12 = .ok (.aload_n 0, 1) := by decide +kernel
theorem dX1_number_13 : decode cX1_number 13 = .ok (.invokevirtual 40, 3) := by decide +kernel
theorem dX1_number_16 : decode cX1_number 16 = .ok (.iconst 0, 1) := by decide +kernel
theorem dX1_number_17 : decode cX1_number 17 = .ok (.ireturn, 1) := by decide +kernel
theorem dX1_number_18 : decode cX1_number 18 = .ok (.iconst 0, 1) := by decide +kernel
theorem dX1_number_19 : decode cX1_number 19 = .ok (.istore 4, 2) := by decide +kernel
theorem dX1_number_21 : decode cX1_number 21 = .ok (.iconst 0, 1) := by decide +kernel
theorem dX1_number_22 : decode cX1_number 22 = .ok (.istore 5, 2) := by decide +kernel
theorem dX1_number_24 : decode cX1_number 24 = .ok (.iload 5, 2) := by decide +kernel
theorem dX1_number_26 : decode cX1_number 26 = .ok (.iload_n 1, 1) := by decide +kernel
theorem dX1_number_27 : decode cX1_number 27 = .ok (.if_icmp .ge 48, 3) := by decide +kernel
theorem dX1_number_30 : decode cX1_number 30 = .ok (.aload_n 0, 1) := by decide +kernel
theorem dX1_number_31 : decode cX1_number 31 = .ok (.invokevirtual 43, 3) := by decide +kernel
theorem dX1_number_34 : decode cX1_number 34 = .ok (.ifCond .eq 41, 3) := by decide +kernel
theorem dX1_number_37 : decode cX1_number 37 = .ok (.iload 4, 2) := by decide +kernel
theorem dX1_number_39 : decode cX1_number 39 = .ok (.bipush 10, 2) := by decide +kernel
theorem dX1_number_41 : decode cX1_number 41 = .ok (.imul, 1) := by decide +kernel
theorem dX1_number_42 : decode cX1_number 42 = .ok (.aload_n 0, 1) := by decide +kernel
theorem dX1_number_43 : decode cX1_number 43 = .ok (.getfield 9, 3) := by decide +kernel
theorem dX1_number_46 : decode cX1_number 46 = .ok (.aload_n 0, 1) := by decide +kernel
theorem dX1_number_47 : decode cX1_number 47 = .ok (.getfield 15, 3) := by decide +kernel
theorem dX1_number_50 : decode cX1_number 50 = .ok (.invokevirtual 28, 3) := by decide +kernel
theorem dX1_number_53 : decode cX1_number 53 = .ok (.iadd, 1) := by decide +kernel
theorem dX1_number_54 : decode cX1_number 54 = .ok (.bipush 48, 2) := by decide +kernel
theorem dX1_number_56 : decode cX1_number 56 = .ok (.isub, 1) := by decide +kernel
theorem dX1_number_57 : decode cX1_number 57 = .ok (.istore 4, 2) := by decide +kernel
theorem dX1_number_59 : decode cX1_number 59 = .ok (.aload_n 0, 1) := by decide +kernel
theorem dX1_number_60 : decode cX1_number 60 = .ok (.dup, 1) := by decide +kernel
theorem dX1_number_61 : decode cX1_number 61 = .ok (.getfield 15, 3) := by decide +kernel
theorem dX1_number_64 : decode cX1_number 64 = .ok (.iconst 1, 1) := by decide +kernel
theorem dX1_number_65 : decode cX1_number 65 = .ok (.iadd, 1) := by decide +kernel
theorem dX1_number_66 : decode cX1_number 66 = .ok (.putfield 15, 3) := by decide +kernel
theorem dX1_number_69 : decode cX1_number 69 = .ok (.iinc 5 1, 3) := by decide +kernel
theorem dX1_number_72 : decode cX1_number 72 = .ok (.goto (-48), 3) := by decide +kernel
theorem dX1_number_75 : decode cX1_number 75 = .ok (.aload_n 0, 1) := by decide +kernel
theorem dX1_number_76 : decode cX1_number 76 = .ok (.invokevirtual 43, 3) := by decide +kernel
theorem dX1_number_79 : decode cX1_number 79 = .ok (.ifCond .eq 10, 3) := by decide +kernel
theorem dX1_number_82 : decode cX1_number 82 = .ok (.aload_n 0, 1) := by decide +kernel
theorem dX1_number_83 : decode cX1_number 83 = .ok (.invokevirtual 40, 3) := by decide +kernel
theorem dX1_number_86 : decode cX1_number 86 = .ok (.goto 29, 3) := by decide +kernel
theorem dX1_number_89 : decode cX1_number 89 = .ok (.iload 4, 2) := by decide +kernel
theorem dX1_number_91 : decode cX1_number 91 = .ok (.iload_n 2, 1) := by decide +kernel
theorem dX1_number_92 : decode cX1_number 92 = .ok (.if_icmp .lt 9, 3) := by decide +kernel
theorem dX1_number_95 : decode cX1_number 95 = .ok (.iload 4, 2) := by decide +kernel
theorem dX1_number_97 : decode cX1_number 97 = .ok (.iload_n 3, 1) := by decide +kernel
theorem dX1_number_98 : decode cX1_number 98 = .ok (.if_icmp .le 17, 3) := by decide +kernel
theorem dX1_number_101 : decode cX1_number 101 = .ok (.aload_n 0, 1) := by decide +kernel
theorem dX1_number_102 : decode cX1_number 102 = .ok (.dup, 1) := by decide +kernel
theorem dX1_number_103 : decode cX1_number 103 = .ok (.getfield 15, 3) := by decide +kernel
theorem dX1_number_106 : decode cX1_number 106 = .ok (.iconst 1, 1) := by decide +kernel
theorem dX1_number_107 : decode cX1_number 107 = .ok (.isub, 1) := by decide +kernel
theorem dX1_number_108 : decode cX1_number 108 = .ok (.putfield 15, 3) := by decide +kernel
theorem dX1_number_111 : decode cX1_number 111 = .ok (.aload_n 0, 1) := by decide +kernel
theorem dX1_number_112 : decode cX1_number 112 = .ok (.invokevirtual 40, 3) := by decide +kernel
theorem dX1_number_115 : decode cX1_number 115 = .ok (.iload 4, 2) := by decide +kernel
theorem dX1_number_117 : decode cX1_number 117 = .ok (.ireturn, 1) := by decide +kernel
theorem dX2_init_0 : decode cX2_init 0 = .ok (.aload_n 0, 1) := by decide +kernel
theorem dX2_init_1 : decode cX2_init 1 = .ok (.invokespecial 1, 3) := by decide +kernel
theorem dX2_init_4 : decode cX2_init 4 = .ok (.return_, 1) := by decide +kernel
theorem dX2_begin_0 : decode cX2_begin 0 = .ok (.aload_n 0, 1) := by decide +kernel
theorem dX2_begin_1 : decode cX2_begin 1 = .ok (.lload_n 1, 1) := by decide +kernel
theorem dX2_begin_2 : decode cX2_begin 2 = .ok (.putfield 7, 3) := by decide +kernel
theorem dX2_begin_5 : decode cX2_begin 5 = .ok (.return_, 1) := by decide +kernel
theorem dX2_below_0 : decode cX2_below 0 = .ok (.aload_n 0, 1) := by decide +kernel
theorem dX2_below_1 : decode cX2_below 1 = .ok (.aload_n 0, 1) := by decide +kernel
theorem dX2_below_2 : decode cX2_below 2 = .ok (.getfield 7, 3) := by decide +kernel
theorem dX2_below_5 : decode cX2_below 5 = .ok (.ldc2_w 13, 3) := by decide +kernel
theorem dX2_below_8 : decode cX2_below 8 = .ok (.lmul, 1) := by decide +kernel
theorem dX2_below_9 : decode cX2_below 9 = .ok (.ldc2_w 15, 3) := by decide +kernel
theorem dX2_below_12 : decode cX2_below 12 = .ok (.ladd, 1) := by decide +kernel
theorem dX2_below_13 : decode cX2_below 13 = .ok (.putfield 7, 3) := by decide +kernel
theorem dX2_below_16 : decode cX2_below 16 = .ok (.iload_n 1, 1) := by decide +kernel
theorem dX2_below_17 : decode cX2_below 17 = .ok (.iconst 1, 1) := by decide +kernel
theorem dX2_below_18 : decode cX2_below 18 = .ok (.if_icmp .ge 7, 3) := by decide +kernel
theorem dX2_below_21 : decode cX2_below 21 = .ok (.iconst 0, 1) := by decide +kernel
theorem dX2_below_22 : decode cX2_below 22 = .ok (.goto 14, 3) := by decide +kernel
theorem dX2_below_25 : decode cX2_below 25 = .ok (.aload_n 0, 1) := by decide +kernel
theorem dX2_below_26 : decode cX2_below 26 = .ok (.getfield 7, 3) := by decide +kernel
theorem dX2_below_29 : decode cX2_below 29 = .ok (.bipush 33, 2) := by decide +kernel
theorem dX2_below_31 : decode cX2_below 31 = .ok (.lushr, 1) := by decide +kernel
theorem dX2_below_32 : decode cX2_below 32 = .ok (.iload_n 1, 1) := by decide +kernel
theorem dX2_below_33 : decode cX2_below 33 = .ok (.i2l, 1) := by decide +kernel
theorem dX2_below_34 : decode cX2_below 34 = .ok (.lrem, 1) := by decide +kernel
theorem dX2_below_35 : decode cX2_below 35 = .ok (.l2i, 1) := by decide +kernel
theorem dX2_below_36 : decode cX2_below 36 = .ok (.ireturn, 1) := by decide +kernel
theorem dX3_init_0 : decode cX3_init 0 = .ok (.aload_n 0, 1) := by decide +kernel
theorem dX3_init_1 : decode cX3_init 1 = .ok (.invokespecial 3, 3) := by decide +kernel
theorem dX3_init_4 : decode cX3_init 4 = .ok (.aload_n 0, 1) := by decide +kernel
theorem dX3_init_5 : decode cX3_init 5 = .ok (.new 9, 3) := by decide +kernel
theorem dX3_init_8 : decode cX3_init 8 = .ok (.dup, 1) := by decide +kernel
theorem dX3_init_9 : decode cX3_init 9 = .ok (.invokespecial 11, 3) := by decide +kernel
theorem dX3_init_12 : decode cX3_init 12 = .ok (.putfield 12, 3) := by decide +kernel
theorem dX3_init_15 : decode cX3_init 15 = .ok (.aload_n 0, 1) := by decide +kernel
theorem dX3_init_16 : decode cX3_init 16 = .ok (.bipush 19, 2) := by decide +kernel
theorem dX3_init_18 : decode cX3_init 18 = .ok (.newarray .int, 2) := by decide +kernel
theorem dX3_init_20 : decode cX3_init 20 = .ok (.putfield 18, 3) := by decide +kernel
theorem dX3_init_23 : decode cX3_init 23 = .ok (.aload_n 0, 1) := by decide +kernel
theorem dX3_init_24 : decode cX3_init 24 = .ok (.bipush 19, 2) := by decide +kernel
theorem dX3_init_26 : decode cX3_init 26 = .ok (.newarray .int, 2) := by decide +kernel
theorem dX3_init_28 : decode cX3_init 28 = .ok (.putfield 22, 3) := by decide +kernel
theorem dX3_init_31 : decode cX3_init 31 = .ok (.aload_n 0, 1) := by decide +kernel
theorem dX3_init_32 : decode cX3_init 32 = .ok (.bipush 31, 2) := by decide +kernel
theorem dX3_init_34 : decode cX3_init 34 = .ok (.newarray .long, 2) := by decide +kernel
theorem dX3_init_36 : decode cX3_init 36 = .ok (.putfield 25, 3) := by decide +kernel
theorem dX3_init_39 : decode cX3_init 39 = .ok (.aload_n 0, 1) := by decide +kernel
theorem dX3_init_40 : decode cX3_init 40 = .ok (.aload_n 1, 1) := by decide +kernel
theorem dX3_init_41 : decode cX3_init 41 = .ok (.putfield 29, 3) := by decide +kernel
theorem dX3_init_44 : decode cX3_init 44 = .ok (.aload_n 0, 1) := by decide +kernel
theorem dX3_init_45 : decode cX3_init 45 = .ok (.aload_n 2, 1) := by decide +kernel
theorem dX3_init_46 : decode cX3_init 46 = .ok (.putfield 32, 3) := by decide +kernel
theorem dX3_init_49 : decode cX3_init 49 = .ok (.return_, 1) := by decide +kernel
theorem dX3_placeBehind_0 : decode cX3_placeBehind 0 = .ok (.aload_n 0, 1) := by decide +kernel
theorem dX3_placeBehind_1 : decode cX3_placeBehind 1 = .ok (.getfield 12, 3) := by decide +kernel
theorem dX3_placeBehind_4 : decode cX3_placeBehind 4 = .ok (.aload_n 0, 1) := by decide +kernel
theorem dX3_placeBehind_5 : decode cX3_placeBehind 5 = .ok (.getfield 29, 3) := by decide +kernel
theorem dX3_placeBehind_8 : decode cX3_placeBehind 8 = .ok (.invokevirtual 36, 3) := by decide +kernel
theorem dX3_placeBehind_11 : decode cX3_placeBehind 11 = .ok (.iload_n 2, 1) := by decide +kernel
theorem dX3_placeBehind_12 : decode cX3_placeBehind 12 = .ok (.ifCond .eq 10, 3) := by decide +kernel
theorem dX3_placeBehind_15 : decode cX3_placeBehind 15 = .ok (.aload_n 0, 1) := by decide +kernel
theorem dX3_placeBehind_16 : decode cX3_placeBehind 16 = .ok (.getfield 12, 3) := by decide +kernel
theorem dX3_placeBehind_19 : decode cX3_placeBehind 19 = .ok (.invokevirtual 40, 3) := by decide +kernel
theorem dX3_placeBehind_22 : decode cX3_placeBehind 22 = .ok (.aload_n 0, 1) := by decide +kernel
theorem dX3_placeBehind_23 : decode cX3_placeBehind 23 = .ok (.getfield 12, 3) := by decide +kernel
theorem dX3_placeBehind_26 : decode cX3_placeBehind 26 = .ok (.iload_n 1, 1) := by decide +kernel
theorem dX3_placeBehind_27 : decode cX3_placeBehind 27 = .ok (.aload_n 0, 1) := by decide +kernel
theorem dX3_placeBehind_28 : decode cX3_placeBehind 28 = .ok (.getfield 32, 3) := by decide +kernel
theorem dX3_placeBehind_31 : decode cX3_placeBehind 31 = .ok (.invokevirtual 43, 3) := by decide +kernel
theorem dX3_placeBehind_34 : decode cX3_placeBehind 34 = .ok (.aload_n 0, 1) := by decide +kernel
theorem dX3_placeBehind_35 : decode cX3_placeBehind 35 = .ok (.getfield 12, 3) := by decide +kernel
theorem dX3_placeBehind_38 : decode cX3_placeBehind 38 = .ok (.iload_n 3, 1) := by decide +kernel
theorem dX3_placeBehind_39 : decode cX3_placeBehind 39 = .ok (.invokevirtual 47, 3) := by decide +kernel
theorem dX3_placeBehind_42 : decode cX3_placeBehind 42 = .ok (.ireturn, 1) := by decide +kernel
theorem dX3_turnsTo_0 : decode cX3_turnsTo 0 = .ok (.aload_n 0, 1) := by decide +kernel
theorem dX3_turnsTo_1 : decode cX3_turnsTo 1 = .ok (.getfield 12, 3) := by decide +kernel
theorem dX3_turnsTo_4 : decode cX3_turnsTo 4 = .ok (.aload_n 0, 1) := by decide +kernel
theorem dX3_turnsTo_5 : decode cX3_turnsTo 5 = .ok (.getfield 29, 3) := by decide +kernel
theorem dX3_turnsTo_8 : decode cX3_turnsTo 8 = .ok (.invokevirtual 36, 3) := by decide +kernel
theorem dX3_turnsTo_11 : decode cX3_turnsTo 11 = .ok (.aload_n 0, 1) := by decide +kernel
theorem dX3_turnsTo_12 : decode cX3_turnsTo 12 = .ok (.iload_n 1, 1) := by decide +kernel
theorem dX3_turnsTo_13 : decode cX3_turnsTo 13 = .ok (.iconst 0, 1) := by decide +kernel
theorem dX3_turnsTo_14 : decode cX3_turnsTo 14 = .ok (.invokevirtual 51, 3) := by decide +kernel
theorem dX3_turnsTo_17 : decode cX3_turnsTo 17 = .ok (.ireturn, 1) := by decide +kernel
theorem dX3_turnsUntil_0 : decode cX3_turnsUntil 0 = .ok (.aload_n 0, 1) := by decide +kernel
theorem dX3_turnsUntil_1 : decode cX3_turnsUntil 1 = .ok (.getfield 12, 3) := by decide +kernel
theorem dX3_turnsUntil_4 : decode cX3_turnsUntil 4 = .ok (.iload_n 2, 1) := by decide +kernel
theorem dX3_turnsUntil_5 : decode cX3_turnsUntil 5 = .ok (.aload_n 0, 1) := by decide +kernel
theorem dX3_turnsUntil_6 : decode cX3_turnsUntil 6 = .ok (.getfield 32, 3) := by decide +kernel
theorem dX3_turnsUntil_9 : decode cX3_turnsUntil 9 = .ok (.invokevirtual 43, 3) := by decide +kernel
theorem dX3_turnsUntil_12 : decode cX3_turnsUntil 12 = .ok (.iload_n 2, 1) := by decide +kernel
theorem dX3_turnsUntil_13 : decode cX3_turnsUntil 13 = .ok (.istore_n 3, 1) := by decide +kernel
theorem dX3_turnsUntil_14 : decode cX3_turnsUntil 14 = .ok (.iload_n 3, 1) := by decide +kernel
theorem dX3_turnsUntil_15 : decode cX3_turnsUntil 15 = .ok (.sipush 200, 3) := by decide +kernel
theorem dX3_turnsUntil_18 : decode cX3_turnsUntil 18 = .ok (.if_icmp .gt 35, 3) := by decide +kernel
theorem dX3_turnsUntil_21 : decode cX3_turnsUntil 21 = .ok (.aload_n 0, 1) := by decide +kernel
theorem dX3_turnsUntil_22 : decode cX3_turnsUntil 22 = .ok (.getfield 12, 3) := by decide +kernel
theorem dX3_turnsUntil_25 : decode cX3_turnsUntil 25 = .ok (.iconst 5, 1) := by decide +kernel
theorem dX3_turnsUntil_26 : decode cX3_turnsUntil 26 = .ok (.invokevirtual 47, 3) := by decide +kernel
theorem dX3_turnsUntil_29 : decode cX3_turnsUntil 29 = .ok (.iload_n 1, 1) := by decide +kernel
theorem dX3_turnsUntil_30 : decode cX3_turnsUntil 30 = .ok (.if_icmp .ne 5, 3) := by decide +kernel
theorem dX3_turnsUntil_33 : decode cX3_turnsUntil 33 = .ok (.iload_n 3, 1) := by decide +kernel
theorem dX3_turnsUntil_34 : decode cX3_turnsUntil 34 = .ok (.ireturn, 1) := by decide +kernel
theorem dX3_turnsUntil_35 : decode cX3_turnsUntil 35 = .ok (.aload_n 0, 1) := by decide +kernel
theorem dX3_turnsUntil_36 : decode cX3_turnsUntil 36 = .ok (.getfield 12, 3) := by decide +kernel
theorem dX3_turnsUntil_39 : decode cX3_turnsUntil 39 = .ok (.iconst 1, 1) := by decide +kernel
theorem dX3_turnsUntil_40 : decode cX3_turnsUntil 40 = .ok (.aload_n 0, 1) := by decide +kernel
theorem dX3_turnsUntil_41 : decode cX3_turnsUntil 41 = .ok (.getfield 32, 3) := by decide +kernel
theorem dX3_turnsUntil_44 : decode cX3_turnsUntil 44 = .ok (.invokevirtual 43, 3) := by decide +kernel
theorem dX3_turnsUntil_47 : decode cX3_turnsUntil 47 = .ok (.iinc 3 1, 3) := by decide +kernel
theorem dX3_turnsUntil_50 : decode cX3_turnsUntil 50 = .ok (.goto (-36), 3) := by decide +kernel
theorem dX3_turnsUntil_53 : decode cX3_turnsUntil 53 = .ok (.iconst (-1), 1) := by decide +kernel
theorem dX3_turnsUntil_54 : decode cX3_turnsUntil 54 = .ok (.ireturn, 1) := by decide +kernel
theorem dX3_rideTurns_0 : decode cX3_rideTurns 0 = .ok (.aload_n 0, 1) := by decide +kernel
theorem dX3_rideTurns_1 : decode cX3_rideTurns 1 = .ok (.getfield 12, 3) := by decide +kernel
theorem dX3_rideTurns_4 : decode cX3_rideTurns 4 = .ok (.aload_n 0, 1) := by decide +kernel
theorem dX3_rideTurns_5 : decode cX3_rideTurns 5 = .ok (.getfield 29, 3) := by decide +kernel
theorem dX3_rideTurns_8 : decode cX3_rideTurns 8 = .ok (.invokevirtual 36, 3) := by decide +kernel
theorem dX3_rideTurns_11 : decode cX3_rideTurns 11 = .ok (.aload_n 0, 1) := by decide +kernel
theorem dX3_rideTurns_12 : decode cX3_rideTurns 12 = .ok (.iload_n 1, 1) := by decide +kernel
theorem dX3_rideTurns_13 : decode cX3_rideTurns 13 = .ok (.iconst 0, 1) := by decide +kernel
theorem dX3_rideTurns_14 : decode cX3_rideTurns 14 = .ok (.invokevirtual 51, 3) := by decide +kernel
theorem dX3_rideTurns_17 : decode cX3_rideTurns 17 = .ok (.iconst (-1), 1) := by decide +kernel
theorem dX3_rideTurns_18 : decode cX3_rideTurns 18 = .ok (.if_icmp .ne 7, 3) := by decide +kernel
theorem dX3_rideTurns_21 : decode cX3_rideTurns 21 = .ok (.iconst (-1), 1) := by decide +kernel
theorem dX3_rideTurns_22 : decode cX3_rideTurns 22 = .ok (.goto 9, 3) := by decide +kernel
theorem dX3_rideTurns_25 : decode cX3_rideTurns 25 = .ok (.aload_n 0, 1) := by decide +kernel
theorem dX3_rideTurns_26 : decode cX3_rideTurns 26 = .ok (.iload_n 2, 1) := by decide +kernel
theorem dX3_rideTurns_27 : decode cX3_rideTurns 27 = .ok (.iconst 1, 1) := by decide +kernel
theorem dX3_rideTurns_28 : decode cX3_rideTurns 28 = .ok (.invokevirtual 51, 3) := by decide +kernel
theorem dX3_rideTurns_31 : decode cX3_rideTurns 31 = .ok (.ireturn, 1) := by decide +kernel
theorem dX3_turnsToRipe_0 : decode cX3_turnsToRipe 0 = .ok (.aload_n 0, 1) := by decide +kernel
theorem dX3_turnsToRipe_1 : decode cX3_turnsToRipe 1 = .ok (.getfield 12, 3) := by decide +kernel
theorem dX3_turnsToRipe_4 : decode cX3_turnsToRipe 4 = .ok (.aload_n 0, 1) := by decide +kernel
theorem dX3_turnsToRipe_5 : decode cX3_turnsToRipe 5 = .ok (.getfield 29, 3) := by decide +kernel
theorem dX3_turnsToRipe_8 : decode cX3_turnsToRipe 8 = .ok (.invokevirtual 36, 3) := by decide +kernel
theorem dX3_turnsToRipe_11 : decode cX3_turnsToRipe 11 = .ok (.iconst 0, 1) := by decide +kernel
theorem dX3_turnsToRipe_12 : decode cX3_turnsToRipe 12 = .ok (.istore_n 2, 1) := by decide +kernel
theorem dX3_turnsToRipe_13 : decode cX3_turnsToRipe 13 = .ok (.iload_n 2, 1) := by decide +kernel
theorem dX3_turnsToRipe_14 : decode cX3_turnsToRipe 14 = .ok (.sipush 200, 3) := by decide +kernel
theorem dX3_turnsToRipe_17 : decode cX3_turnsToRipe 17 = .ok (.if_icmp .gt 36, 3) := by decide +kernel
theorem dX3_turnsToRipe_20 : decode cX3_turnsToRipe 20 = .ok (.aload_n 0, 1) := by decide +kernel
theorem dX3_turnsToRipe_21 : decode cX3_turnsToRipe 21 = .ok (.getfield 12, 3) := by decide +kernel
theorem dX3_turnsToRipe_24 : decode cX3_turnsToRipe 24 = .ok (.iload_n 1, 1) := by decide +kernel
theorem dX3_turnsToRipe_25 : decode cX3_turnsToRipe 25 = .ok (.iconst 5, 1) := by decide +kernel
theorem dX3_turnsToRipe_26 : decode cX3_turnsToRipe 26 = .ok (.invokevirtual 55, 3) := by decide +kernel
theorem dX3_turnsToRipe_29 : decode cX3_turnsToRipe 29 = .ok (.iconst 1, 1) := by decide +kernel
theorem dX3_turnsToRipe_30 : decode cX3_turnsToRipe 30 = .ok (.if_icmp .ne 5, 3) := by decide +kernel
theorem dX3_turnsToRipe_33 : decode cX3_turnsToRipe 33 = .ok (.iload_n 2, 1) := by decide +kernel
theorem dX3_turnsToRipe_34 : decode cX3_turnsToRipe 34 = .ok (.ireturn, 1) := by decide +kernel
theorem dX3_turnsToRipe_35 : decode cX3_turnsToRipe 35 = .ok (.aload_n 0, 1) := by decide +kernel
theorem dX3_turnsToRipe_36 : decode cX3_turnsToRipe 36 = .ok (.getfield 12, 3) := by decide +kernel
theorem dX3_turnsToRipe_39 : decode cX3_turnsToRipe 39 = .ok (.iconst 1, 1) := by decide +kernel
theorem dX3_turnsToRipe_40 : decode cX3_turnsToRipe 40 = .ok (.aload_n 0, 1) := by decide +kernel
theorem dX3_turnsToRipe_41 : decode cX3_turnsToRipe 41 = .ok (.getfield 32, 3) := by decide +kernel
theorem dX3_turnsToRipe_44 : decode cX3_turnsToRipe 44 = .ok (.invokevirtual 43, 3) := by decide +kernel
theorem dX3_turnsToRipe_47 : decode cX3_turnsToRipe 47 = .ok (.iinc 2 1, 3) := by decide +kernel
theorem dX3_turnsToRipe_50 : decode cX3_turnsToRipe 50 = .ok (.goto (-37), 3) := by decide +kernel
theorem dX3_turnsToRipe_53 : decode cX3_turnsToRipe 53 = .ok (.iconst (-1), 1) := by decide +kernel
theorem dX3_turnsToRipe_54 : decode cX3_turnsToRipe 54 = .ok (.ireturn, 1) := by decide +kernel
theorem dX3_turnsToDeath_0 : decode cX3_turnsToDeath 0 = .ok (.aload_n 0, 1) := by decide +kernel
theorem dX3_turnsToDeath_1 : decode cX3_turnsToDeath 1 = .ok (.getfield 12, 3) := by decide +kernel
theorem dX3_turnsToDeath_4 : decode cX3_turnsToDeath 4 = .ok (.aload_n 0, 1) := by decide +kernel
theorem dX3_turnsToDeath_5 : decode cX3_turnsToDeath 5 = .ok (.getfield 29, 3) := by decide +kernel
theorem dX3_turnsToDeath_8 : decode cX3_turnsToDeath 8 = .ok (.invokevirtual 36, 3) := by decide +kernel
theorem dX3_turnsToDeath_11 : decode cX3_turnsToDeath 11 = .ok (.iconst 0, 1) := by decide +kernel
theorem dX3_turnsToDeath_12 : decode cX3_turnsToDeath 12 = .ok (.istore_n 1, 1) := by decide +kernel
theorem dX3_turnsToDeath_13 : decode cX3_turnsToDeath 13 = .ok (.iload_n 1, 1) := by decide +kernel
theorem dX3_turnsToDeath_14 : decode cX3_turnsToDeath 14 = .ok (.sipush 200, 3) := by decide +kernel
theorem dX3_turnsToDeath_17 : decode cX3_turnsToDeath 17 = .ok (.if_icmp .gt 35, 3) := by decide +kernel
theorem dX3_turnsToDeath_20 : decode cX3_turnsToDeath 20 = .ok (.aload_n 0, 1) := by decide +kernel
theorem dX3_turnsToDeath_21 : decode cX3_turnsToDeath 21 = .ok (.getfield 12, 3) := by decide +kernel
theorem dX3_turnsToDeath_24 : decode cX3_turnsToDeath 24 = .ok (.iconst 0, 1) := by decide +kernel
theorem dX3_turnsToDeath_25 : decode cX3_turnsToDeath 25 = .ok (.invokevirtual 47, 3) := by decide +kernel
theorem dX3_turnsToDeath_28 : decode cX3_turnsToDeath 28 = .ok (.iconst 1, 1) := by decide +kernel
theorem dX3_turnsToDeath_29 : decode cX3_turnsToDeath 29 = .ok (.if_icmp .ge 5, 3) := by decide +kernel
theorem dX3_turnsToDeath_32 : decode cX3_turnsToDeath 32 = .ok (.iload_n 1, 1) := by decide +kernel
theorem dX3_turnsToDeath_33 : decode cX3_turnsToDeath 33 = .ok (.ireturn, 1) := by decide +kernel
theorem dX3_turnsToDeath_34 : decode cX3_turnsToDeath 34 = .ok (.aload_n 0, 1) := by decide +kernel
theorem dX3_turnsToDeath_35 : decode cX3_turnsToDeath 35 = .ok (.getfield 12, 3) := by decide +kernel
theorem dX3_turnsToDeath_38 : decode cX3_turnsToDeath 38 = .ok (.iconst 1, 1) := by decide +kernel
theorem dX3_turnsToDeath_39 : decode cX3_turnsToDeath 39 = .ok (.aload_n 0, 1) := by decide +kernel
theorem dX3_turnsToDeath_40 : decode cX3_turnsToDeath 40 = .ok (.getfield 32, 3) := by decide +kernel
theorem dX3_turnsToDeath_43 : decode cX3_turnsToDeath 43 = .ok (.invokevirtual 43, 3) := by decide +kernel
theorem dX3_turnsToDeath_46 : decode cX3_turnsToDeath 46 = .ok (.iinc 1 1, 3) := by decide +kernel
theorem dX3_turnsToDeath_49 : decode cX3_turnsToDeath 49 = .ok (.goto (-36), 3) := by decide +kernel
theorem dX3_turnsToDeath_52 : decode cX3_turnsToDeath 52 = .ok (.iconst (-1), 1) := by decide +kernel
theorem dX3_turnsToDeath_53 : decode cX3_turnsToDeath 53 = .ok (.ireturn, 1) := by decide +kernel
theorem dX3_runWith_0 : decode cX3_runWith 0 = .ok (.aload_n 0, 1) := by decide +kernel
theorem dX3_runWith_1 : decode cX3_runWith 1 = .ok (.getfield 12, 3) := by decide +kernel
theorem dX3_runWith_4 : decode cX3_runWith 4 = .ok (.aload_n 0, 1) := by decide +kernel
theorem dX3_runWith_5 : decode cX3_runWith 5 = .ok (.getfield 29, 3) := by decide +kernel
theorem dX3_runWith_8 : decode cX3_runWith 8 = .ok (.invokevirtual 36, 3) := by decide +kernel
theorem dX3_runWith_11 : decode cX3_runWith 11 = .ok (.aload_n 0, 1) := by decide +kernel
theorem dX3_runWith_12 : decode cX3_runWith 12 = .ok (.getfield 12, 3) := by decide +kernel
theorem dX3_runWith_15 : decode cX3_runWith 15 = .ok (.iconst 1, 1) := by decide +kernel
theorem dX3_runWith_16 : decode cX3_runWith 16 = .ok (.iload_n 1, 1) := by decide +kernel
theorem dX3_runWith_17 : decode cX3_runWith 17 = .ok (.invokevirtual 58, 3) := by decide +kernel
theorem dX3_runWith_20 : decode cX3_runWith 20 = .ok (.aload_n 0, 1) := by decide +kernel
theorem dX3_runWith_21 : decode cX3_runWith 21 = .ok (.getfield 12, 3) := by decide +kernel
theorem dX3_runWith_24 : decode cX3_runWith 24 = .ok (.iload_n 2, 1) := by decide +kernel
theorem dX3_runWith_25 : decode cX3_runWith 25 = .ok (.aload_n 0, 1) := by decide +kernel
theorem dX3_runWith_26 : decode cX3_runWith 26 = .ok (.getfield 32, 3) := by decide +kernel
theorem dX3_runWith_29 : decode cX3_runWith 29 = .ok (.invokevirtual 43, 3) := by decide +kernel
theorem dX3_runWith_32 : decode cX3_runWith 32 = .ok (.return_, 1) := by decide +kernel
theorem dX3_leastFeed_0 : decode cX3_leastFeed 0 = .ok (.iconst 0, 1) := by decide +kernel
theorem dX3_leastFeed_1 : decode cX3_leastFeed 1 = .ok (.istore_n 2, 1) := by decide +kernel
theorem dX3_leastFeed_2 : decode cX3_leastFeed 2 = .ok (.iload_n 2, 1) := by decide +kernel
theorem dX3_leastFeed_3 : decode cX3_leastFeed 3 = .ok (.bipush 99, 2) := by decide +kernel
theorem dX3_leastFeed_5 : decode cX3_leastFeed 5 = .ok (.if_icmp .gt 27, 3) := by decide +kernel
theorem dX3_leastFeed_8 : decode cX3_leastFeed 8 = .ok (.aload_n 0, 1) := by decide +kernel
theorem dX3_leastFeed_9 : decode cX3_leastFeed 9 = .ok (.iload_n 2, 1) := by decide +kernel
theorem dX3_leastFeed_10 : decode cX3_leastFeed 10 = .ok (.iload_n 1, 1) := by decide +kernel
theorem dX3_leastFeed_11 : decode cX3_leastFeed 11 = .ok (.invokevirtual 62, 3) := by decide +kernel
theorem dX3_leastFeed_14 : decode cX3_leastFeed 14 = .ok (.aload_n 0, 1) := by decide +kernel
theorem dX3_leastFeed_15 : decode cX3_leastFeed 15 = .ok (.getfield 12, 3) := by decide +kernel
theorem dX3_leastFeed_18 : decode cX3_leastFeed 18 = .ok (.invokevirtual 65, 3) := by decide +kernel
theorem dX3_leastFeed_21 : decode cX3_leastFeed 21 = .ok (.ifCond .eq 5, 3) := by decide +kernel
theorem dX3_leastFeed_24 : decode cX3_leastFeed 24 = .ok (.iload_n 2, 1) := by decide +kernel
theorem dX3_leastFeed_25 : decode cX3_leastFeed 25 = .ok (.ireturn, 1) := by decide +kernel
theorem dX3_leastFeed_26 : decode cX3_leastFeed 26 = .ok (.iinc 2 1, 3) := by decide +kernel
theorem dX3_leastFeed_29 : decode cX3_leastFeed 29 = .ok (.goto (-27), 3) := by decide +kernel
theorem dX3_leastFeed_32 : decode cX3_leastFeed 32 = .ok (.iconst (-1), 1) := by decide +kernel
theorem dX3_leastFeed_33 : decode cX3_leastFeed 33 = .ok (.ireturn, 1) := by decide +kernel
theorem dX3_seekOil_0 : decode cX3_seekOil 0 = .ok (.aload_n 0, 1) := by decide +kernel
theorem dX3_seekOil_1 : decode cX3_seekOil 1 = .ok (.getfield 29, 3) := by decide +kernel
theorem dX3_seekOil_4 : decode cX3_seekOil 4 = .ok (.bipush 9, 2) := by decide +kernel
theorem dX3_seekOil_6 : decode cX3_seekOil 6 = .ok (.invokevirtual 47, 3) := by decide +kernel
theorem dX3_seekOil_9 : decode cX3_seekOil 9 = .ok (.istore_n 3, 1) := by decide +kernel
theorem dX3_seekOil_10 : decode cX3_seekOil 10 = .ok (.aload_n 0, 1) := by decide +kernel
theorem dX3_seekOil_11 : decode cX3_seekOil 11 = .ok (.iconst (-1), 1) := by decide +kernel
theorem dX3_seekOil_12 : decode cX3_seekOil 12 = .ok (.putfield 69, 3) := by decide +kernel
theorem dX3_seekOil_15 : decode cX3_seekOil 15 = .ok (.aload_n 0, 1) := by decide +kernel
theorem dX3_seekOil_16 : decode cX3_seekOil 16 = .ok (.iconst (-1), 1) := by decide +kernel
theorem dX3_seekOil_17 : decode cX3_seekOil 17 = .ok (.putfield 73, 3) := by decide +kernel
theorem dX3_seekOil_20 : decode cX3_seekOil 20 = .ok (.iconst 0, 1) := by decide +kernel
theorem dX3_seekOil_21 : decode cX3_seekOil 21 = .ok (.istore 4, 2) := by decide +kernel
theorem dX3_seekOil_23 : decode cX3_seekOil 23 = .ok (.iload 4, 2) := by decide +kernel
theorem dX3_seekOil_25 : decode cX3_seekOil 25 = .ok (.iload_n 1, 1) := by decide +kernel
theorem dX3_seekOil_26 : decode cX3_seekOil 26 = .ok (.iconst 2, 1) := by decide +kernel
theorem dX3_seekOil_27 : decode cX3_seekOil 27 = .ok (.if_icmp .le 7, 3) := by decide +kernel
theorem dX3_seekOil_30 : decode cX3_seekOil 30 = .ok (.iload_n 3, 1) := by decide +kernel
theorem dX3_seekOil_31 : decode cX3_seekOil 31 = .ok (.goto 4, 3) := by decide +kernel
theorem dX3_seekOil_34 : decode cX3_seekOil 34 = .ok (.iconst 1, 1) := by decide +kernel
theorem dX3_seekOil_35 : decode cX3_seekOil 35 = .ok (.if_icmp .ge 70, 3) := by decide +kernel
theorem dX3_seekOil_38 : decode cX3_seekOil 38 = .ok (.iload 4, 2) := by decide +kernel
theorem dX3_seekOil_40 : decode cX3_seekOil 40 = .ok (.istore 5, 2) := by decide +kernel
theorem dX3_seekOil_42 : decode cX3_seekOil 42 = .ok (.iload 5, 2) := by decide +kernel
theorem dX3_seekOil_44 : decode cX3_seekOil 44 = .ok (.iload_n 1, 1) := by decide +kernel
theorem dX3_seekOil_45 : decode cX3_seekOil 45 = .ok (.iconst 1, 1) := by decide +kernel
theorem dX3_seekOil_46 : decode cX3_seekOil 46 = .ok (.if_icmp .le 7, 3) := by decide +kernel
theorem dX3_seekOil_49 : decode cX3_seekOil 49 = .ok (.iload_n 3, 1) := by decide +kernel
theorem dX3_seekOil_50 : decode cX3_seekOil 50 = .ok (.goto 4, 3) := by decide +kernel
theorem dX3_seekOil_53 : decode cX3_seekOil 53 = .ok (.iconst 1, 1) := by decide +kernel
theorem dX3_seekOil_54 : decode cX3_seekOil 54 = .ok (.if_icmp .ge 45, 3) := by decide +kernel
theorem dX3_seekOil_57 : decode cX3_seekOil 57 = .ok (.iload 5, 2) := by decide +kernel
theorem dX3_seekOil_59 : decode cX3_seekOil 59 = .ok (.istore 6, 2) := by decide +kernel
theorem dX3_seekOil_61 : decode cX3_seekOil 61 = .ok (.iload 6, 2) := by decide +kernel
theorem dX3_seekOil_63 : decode cX3_seekOil 63 = .ok (.iload_n 3, 1) := by decide +kernel
theorem dX3_seekOil_64 : decode cX3_seekOil 64 = .ok (.if_icmp .ge 29, 3) := by decide +kernel
theorem dX3_seekOil_67 : decode cX3_seekOil 67 = .ok (.aload_n 0, 1) := by decide +kernel
theorem dX3_seekOil_68 : decode cX3_seekOil 68 = .ok (.iload_n 1, 1) := by decide +kernel
theorem dX3_seekOil_69 : decode cX3_seekOil 69 = .ok (.iload_n 2, 1) := by decide +kernel
theorem dX3_seekOil_70 : decode cX3_seekOil 70 = .ok (.iload 4, 2) := by decide +kernel
theorem dX3_seekOil_72 : decode cX3_seekOil 72 = .ok (.bipush 100, 2) := by decide +kernel
theorem dX3_seekOil_74 : decode cX3_seekOil 74 = .ok (.imul, 1) := by decide +kernel
theorem dX3_seekOil_75 : decode cX3_seekOil 75 = .ok (.iload 5, 2) := by decide +kernel
theorem dX3_seekOil_77 : decode cX3_seekOil 77 = .ok (.bipush 10, 2) := by decide +kernel
theorem dX3_seekOil_79 : decode cX3_seekOil 79 = .ok (.imul, 1) := by decide +kernel
theorem dX3_seekOil_80 : decode cX3_seekOil 80 = .ok (.iadd, 1) := by decide +kernel
theorem dX3_seekOil_81 : decode cX3_seekOil 81 = .ok (.iload 6, 2) := by decide +kernel
theorem dX3_seekOil_83 : decode cX3_seekOil 83 = .ok (.iadd, 1) := by decide +kernel
theorem dX3_seekOil_84 : decode cX3_seekOil 84 = .ok (.invokevirtual 76, 3) := by decide +kernel
theorem dX3_seekOil_87 : decode cX3_seekOil 87 = .ok (.iinc 6 1, 3) := by decide +kernel
theorem dX3_seekOil_90 : decode cX3_seekOil 90 = .ok (.goto (-29), 3) := by decide +kernel
theorem dX3_seekOil_93 : decode cX3_seekOil 93 = .ok (.iinc 5 1, 3) := by decide +kernel
theorem dX3_seekOil_96 : decode cX3_seekOil 96 = .ok (.goto (-54), 3) := by decide +kernel
theorem dX3_seekOil_99 : decode cX3_seekOil 99 = .ok (.iinc 4 1, 3) := by decide +kernel
theorem dX3_seekOil_102 : decode cX3_seekOil 102 = .ok (.goto (-79), 3) := by decide +kernel
theorem dX3_seekOil_105 : decode cX3_seekOil 105 = .ok (.return_, 1) := by decide +kernel
theorem dX3_tryOil_0 : decode cX3_tryOil 0 = .ok (.aload_n 0, 1) := by decide +kernel
theorem dX3_tryOil_1 : decode cX3_tryOil 1 = .ok (.getfield 12, 3) := by decide +kernel
theorem dX3_tryOil_4 : decode cX3_tryOil 4 = .ok (.aload_n 0, 1) := by decide +kernel
theorem dX3_tryOil_5 : decode cX3_tryOil 5 = .ok (.getfield 29, 3) := by decide +kernel
theorem dX3_tryOil_8 : decode cX3_tryOil 8 = .ok (.invokevirtual 36, 3) := by decide +kernel
theorem dX3_tryOil_11 : decode cX3_tryOil 11 = .ok (.iload_n 3, 1) := by decide +kernel
theorem dX3_tryOil_12 : decode cX3_tryOil 12 = .ok (.istore 4, 2) := by decide +kernel
theorem dX3_tryOil_14 : decode cX3_tryOil 14 = .ok (.iconst 0, 1) := by decide +kernel
theorem dX3_tryOil_15 : decode cX3_tryOil 15 = .ok (.istore 5, 2) := by decide +kernel
theorem dX3_tryOil_17 : decode cX3_tryOil 17 = .ok (.iload 5, 2) := by decide +kernel
theorem dX3_tryOil_19 : decode cX3_tryOil 19 = .ok (.iload_n 1, 1) := by decide +kernel
theorem dX3_tryOil_20 : decode cX3_tryOil 20 = .ok (.if_icmp .ge 29, 3) := by decide +kernel
theorem dX3_tryOil_23 : decode cX3_tryOil 23 = .ok (.aload_n 0, 1) := by decide +kernel
theorem dX3_tryOil_24 : decode cX3_tryOil 24 = .ok (.getfield 12, 3) := by decide +kernel
theorem dX3_tryOil_27 : decode cX3_tryOil 27 = .ok (.iload 4, 2) := by decide +kernel
theorem dX3_tryOil_29 : decode cX3_tryOil 29 = .ok (.bipush 10, 2) := by decide +kernel
theorem dX3_tryOil_31 : decode cX3_tryOil 31 = .ok (.irem, 1) := by decide +kernel
theorem dX3_tryOil_32 : decode cX3_tryOil 32 = .ok (.iconst 1, 1) := by decide +kernel
theorem dX3_tryOil_33 : decode cX3_tryOil 33 = .ok (.invokevirtual 80, 3) := by decide +kernel
theorem dX3_tryOil_36 : decode cX3_tryOil 36 = .ok (.iload 4, 2) := by decide +kernel
theorem dX3_tryOil_38 : decode cX3_tryOil 38 = .ok (.bipush 10, 2) := by decide +kernel
theorem dX3_tryOil_40 : decode cX3_tryOil 40 = .ok (.idiv, 1) := by decide +kernel
theorem dX3_tryOil_41 : decode cX3_tryOil 41 = .ok (.istore 4, 2) := by decide +kernel
theorem dX3_tryOil_43 : decode cX3_tryOil 43 = .ok (.iinc 5 1, 3) := by decide +kernel
theorem dX3_tryOil_46 : decode cX3_tryOil 46 = .ok (.goto (-29), 3) := by decide +kernel
theorem dX3_tryOil_49 : decode cX3_tryOil 49 = .ok (.aload_n 0, 1) := by decide +kernel
theorem dX3_tryOil_50 : decode cX3_tryOil 50 = .ok (.getfield 12, 3) := by decide +kernel
theorem dX3_tryOil_53 : decode cX3_tryOil 53 = .ok (.iload_n 2, 1) := by decide +kernel
theorem dX3_tryOil_54 : decode cX3_tryOil 54 = .ok (.aload_n 0, 1) := by decide +kernel
theorem dX3_tryOil_55 : decode cX3_tryOil 55 = .ok (.getfield 32, 3) := by decide +kernel
theorem dX3_tryOil_58 : decode cX3_tryOil 58 = .ok (.invokevirtual 43, 3) := by decide +kernel
theorem dX3_tryOil_61 : decode cX3_tryOil 61 = .ok (.aload_n 0, 1) := by decide +kernel
theorem dX3_tryOil_62 : decode cX3_tryOil 62 = .ok (.getfield 29, 3) := by decide +kernel
theorem dX3_tryOil_65 : decode cX3_tryOil 65 = .ok (.invokevirtual 83, 3) := by decide +kernel
theorem dX3_tryOil_68 : decode cX3_tryOil 68 = .ok (.aload_n 0, 1) := by decide +kernel
theorem dX3_tryOil_69 : decode cX3_tryOil 69 = .ok (.getfield 12, 3) := by decide +kernel
theorem dX3_tryOil_72 : decode cX3_tryOil 72 = .ok (.invokevirtual 83, 3) := by decide +kernel
theorem dX3_tryOil_75 : decode cX3_tryOil 75 = .ok (.isub, 1) := by decide +kernel
theorem dX3_tryOil_76 : decode cX3_tryOil 76 = .ok (.istore 5, 2) := by decide +kernel
theorem dX3_tryOil_78 : decode cX3_tryOil 78 = .ok (.iload 5, 2) := by decide +kernel
theorem dX3_tryOil_80 : decode cX3_tryOil 80 = .ok (.aload_n 0, 1) := by decide +kernel
theorem dX3_tryOil_81 : decode cX3_tryOil 81 = .ok (.getfield 73, 3) := by decide +kernel
theorem dX3_tryOil_84 : decode cX3_tryOil 84 = .ok (.if_icmp .le 14, 3) := by decide +kernel
theorem dX3_tryOil_87 : decode cX3_tryOil 87 = .ok (.aload_n 0, 1) := by decide +kernel
theorem dX3_tryOil_88 : decode cX3_tryOil 88 = .ok (.iload 5, 2) := by decide +kernel
theorem dX3_tryOil_90 : decode cX3_tryOil 90 = .ok (.putfield 73, 3) := by decide +kernel
theorem dX3_tryOil_93 : decode cX3_tryOil 93 = .ok (.aload_n 0, 1) := by decide +kernel
theorem dX3_tryOil_94 : decode cX3_tryOil 94 = .ok (.iload_n 3, 1) := by decide +kernel
theorem dX3_tryOil_95 : decode cX3_tryOil 95 = .ok (.putfield 69, 3) := by decide +kernel
theorem dX3_tryOil_98 : decode cX3_tryOil 98 = .ok (.return_, 1) := by decide +kernel
theorem dX3_daysWith_0 : decode cX3_daysWith 0 = .ok (.aload_n 0, 1) := by decide +kernel
theorem dX3_daysWith_1 : decode cX3_daysWith 1 = .ok (.iload_n 1, 1) := by decide +kernel
theorem dX3_daysWith_2 : decode cX3_daysWith 2 = .ok (.iload_n 2, 1) := by decide +kernel
theorem dX3_daysWith_3 : decode cX3_daysWith 3 = .ok (.invokevirtual 62, 3) := by decide +kernel
theorem dX3_daysWith_6 : decode cX3_daysWith 6 = .ok (.aload_n 0, 1) := by decide +kernel
theorem dX3_daysWith_7 : decode cX3_daysWith 7 = .ok (.getfield 12, 3) := by decide +kernel
theorem dX3_daysWith_10 : decode cX3_daysWith 10 = .ok (.iload_n 3, 1) := by decide +kernel
theorem dX3_daysWith_11 : decode cX3_daysWith 11 = .ok (.invokevirtual 87, 3) := by decide +kernel
theorem dX3_daysWith_14 : decode cX3_daysWith 14 = .ok (.ireturn, 1) := by decide +kernel
theorem dX3_restAt_0 : decode cX3_restAt 0 = .ok (.iconst 0, 1) := by decide +kernel
theorem dX3_restAt_1 : decode cX3_restAt 1 = .ok (.istore 5, 2) := by decide +kernel
theorem dX3_restAt_3 : decode cX3_restAt 3 = .ok (.iload 5, 2) := by decide +kernel
theorem dX3_restAt_5 : decode cX3_restAt 5 = .ok (.bipush 19, 2) := by decide +kernel
theorem dX3_restAt_7 : decode cX3_restAt 7 = .ok (.if_icmp .ge 50, 3) := by decide +kernel
theorem dX3_restAt_10 : decode cX3_restAt 10 = .ok (.aload_n 0, 1) := by decide +kernel
theorem dX3_restAt_11 : decode cX3_restAt 11 = .ok (.iload 5, 2) := by decide +kernel
theorem dX3_restAt_13 : decode cX3_restAt 13 = .ok (.iload_n 3, 1) := by decide +kernel
theorem dX3_restAt_14 : decode cX3_restAt 14 = .ok (.invokevirtual 62, 3) := by decide +kernel
theorem dX3_restAt_17 : decode cX3_restAt 17 = .ok (.aload_n 0, 1) := by decide +kernel
theorem dX3_restAt_18 : decode cX3_restAt 18 = .ok (.getfield 18, 3) := by decide +kernel
theorem dX3_restAt_21 : decode cX3_restAt 21 = .ok (.iload 5, 2) := by decide +kernel
theorem dX3_restAt_23 : decode cX3_restAt 23 = .ok (.aload_n 0, 1) := by decide +kernel
theorem dX3_restAt_24 : decode cX3_restAt 24 = .ok (.getfield 12, 3) := by decide +kernel
theorem dX3_restAt_27 : decode cX3_restAt 27 = .ok (.iload_n 1, 1) := by decide +kernel
theorem dX3_restAt_28 : decode cX3_restAt 28 = .ok (.invokevirtual 87, 3) := by decide +kernel
theorem dX3_restAt_31 : decode cX3_restAt 31 = .ok (.invokestatic 90, 3) := by decide +kernel
theorem dX3_restAt_34 : decode cX3_restAt 34 = .ok (.aload_n 0, 1) := by decide +kernel
theorem dX3_restAt_35 : decode cX3_restAt 35 = .ok (.getfield 22, 3) := by decide +kernel
theorem dX3_restAt_38 : decode cX3_restAt 38 = .ok (.iload 5, 2) := by decide +kernel
theorem dX3_restAt_40 : decode cX3_restAt 40 = .ok (.aload_n 0, 1) := by decide +kernel
theorem dX3_restAt_41 : decode cX3_restAt 41 = .ok (.getfield 12, 3) := by decide +kernel
theorem dX3_restAt_44 : decode cX3_restAt 44 = .ok (.iload_n 2, 1) := by decide +kernel
theorem dX3_restAt_45 : decode cX3_restAt 45 = .ok (.invokevirtual 87, 3) := by decide +kernel
theorem dX3_restAt_48 : decode cX3_restAt 48 = .ok (.invokestatic 90, 3) := by decide +kernel
theorem dX3_restAt_51 : decode cX3_restAt 51 = .ok (.iinc 5 1, 3) := by decide +kernel
theorem dX3_restAt_54 : decode cX3_restAt 54 = .ok (.goto (-51), 3) := by decide +kernel
theorem dX3_restAt_57 : decode cX3_restAt 57 = .ok (.iconst 0, 1) := by decide +kernel
theorem dX3_restAt_58 : decode cX3_restAt 58 = .ok (.istore 5, 2) := by decide +kernel
theorem dX3_restAt_60 : decode cX3_restAt 60 = .ok (.iconst 0, 1) := by decide +kernel
theorem dX3_restAt_61 : decode cX3_restAt 61 = .ok (.istore 6, 2) := by decide +kernel
theorem dX3_restAt_63 : decode cX3_restAt 63 = .ok (.iload 6, 2) := by decide +kernel
theorem dX3_restAt_65 : decode cX3_restAt 65 = .ok (.bipush 100, 2) := by decide +kernel
theorem dX3_restAt_67 : decode cX3_restAt 67 = .ok (.if_icmp .ge 39, 3) := by decide +kernel
theorem dX3_restAt_70 : decode cX3_restAt 70 = .ok (.aload_n 0, 1) := by decide +kernel
theorem dX3_restAt_71 : decode cX3_restAt 71 = .ok (.iload 6, 2) := by decide +kernel
theorem dX3_restAt_73 : decode cX3_restAt 73 = .ok (.bipush 10, 2) := by decide +kernel
theorem dX3_restAt_75 : decode cX3_restAt 75 = .ok (.idiv, 1) := by decide +kernel
theorem dX3_restAt_76 : decode cX3_restAt 76 = .ok (.iload 6, 2) := by decide +kernel
theorem dX3_restAt_78 : decode cX3_restAt 78 = .ok (.bipush 10, 2) := by decide +kernel
theorem dX3_restAt_80 : decode cX3_restAt 80 = .ok (.irem, 1) := by decide +kernel
theorem dX3_restAt_81 : decode cX3_restAt 81 = .ok (.invokevirtual 94, 3) := by decide +kernel
theorem dX3_restAt_84 : decode cX3_restAt 84 = .ok (.ifCond .eq 16, 3) := by decide +kernel
theorem dX3_restAt_87 : decode cX3_restAt 87 = .ok (.iload 5, 2) := by decide +kernel
theorem dX3_restAt_89 : decode cX3_restAt 89 = .ok (.iload 4, 2) := by decide +kernel
theorem dX3_restAt_91 : decode cX3_restAt 91 = .ok (.if_icmp .ne 6, 3) := by decide +kernel
theorem dX3_restAt_94 : decode cX3_restAt 94 = .ok (.iload 6, 2) := by decide +kernel
theorem dX3_restAt_96 : decode cX3_restAt 96 = .ok (.ireturn, 1) := by decide +kernel
theorem dX3_restAt_97 : decode cX3_restAt 97 = .ok (.iinc 5 1, 3) := by decide +kernel
theorem dX3_restAt_100 : decode cX3_restAt 100 = .ok (.iinc 6 1, 3) := by decide +kernel
theorem dX3_restAt_103 : decode cX3_restAt 103 = .ok (.goto (-40), 3) := by decide +kernel
theorem dX3_restAt_106 : decode cX3_restAt 106 = .ok (.iload 4, 2) := by decide +kernel
theorem dX3_restAt_108 : decode cX3_restAt 108 = .ok (.iconst (-1), 1) := by decide +kernel
theorem dX3_restAt_109 : decode cX3_restAt 109 = .ok (.if_icmp .ne 8, 3) := by decide +kernel
theorem dX3_restAt_112 : decode cX3_restAt 112 = .ok (.iload 5, 2) := by decide +kernel
theorem dX3_restAt_114 : decode cX3_restAt 114 = .ok (.goto 4, 3) := by decide +kernel
theorem dX3_restAt_117 : decode cX3_restAt 117 = .ok (.iconst (-1), 1) := by decide +kernel
theorem dX3_restAt_118 : decode cX3_restAt 118 = .ok (.ireturn, 1) := by decide +kernel
theorem dX3_isRest_0 : decode cX3_isRest 0 = .ok (.aload_n 0, 1) := by decide +kernel
theorem dX3_isRest_1 : decode cX3_isRest 1 = .ok (.getfield 18, 3) := by decide +kernel
theorem dX3_isRest_4 : decode cX3_isRest 4 = .ok (.iload_n 1, 1) := by decide +kernel
theorem dX3_isRest_5 : decode cX3_isRest 5 = .ok (.iload_n 2, 1) := by decide +kernel
theorem dX3_isRest_6 : decode cX3_isRest 6 = .ok (.invokestatic 98, 3) := by decide +kernel
theorem dX3_isRest_9 : decode cX3_isRest 9 = .ok (.istore_n 3, 1) := by decide +kernel
theorem dX3_isRest_10 : decode cX3_isRest 10 = .ok (.aload_n 0, 1) := by decide +kernel
theorem dX3_isRest_11 : decode cX3_isRest 11 = .ok (.getfield 22, 3) := by decide +kernel
theorem dX3_isRest_14 : decode cX3_isRest 14 = .ok (.iload_n 2, 1) := by decide +kernel
theorem dX3_isRest_15 : decode cX3_isRest 15 = .ok (.iload_n 1, 1) := by decide +kernel
theorem dX3_isRest_16 : decode cX3_isRest 16 = .ok (.invokestatic 98, 3) := by decide +kernel
theorem dX3_isRest_19 : decode cX3_isRest 19 = .ok (.istore 4, 2) := by decide +kernel
theorem dX3_isRest_21 : decode cX3_isRest 21 = .ok (.iconst 0, 1) := by decide +kernel
theorem dX3_isRest_22 : decode cX3_isRest 22 = .ok (.istore 5, 2) := by decide +kernel
theorem dX3_isRest_24 : decode cX3_isRest 24 = .ok (.iload 5, 2) := by decide +kernel
theorem dX3_isRest_26 : decode cX3_isRest 26 = .ok (.bipush 10, 2) := by decide +kernel
theorem dX3_isRest_28 : decode cX3_isRest 28 = .ok (.if_icmp .ge 40, 3) := by decide +kernel
theorem dX3_isRest_31 : decode cX3_isRest 31 = .ok (.aload_n 0, 1) := by decide +kernel
theorem dX3_isRest_32 : decode cX3_isRest 32 = .ok (.getfield 18, 3) := by decide +kernel
theorem dX3_isRest_35 : decode cX3_isRest 35 = .ok (.iload 5, 2) := by decide +kernel
theorem dX3_isRest_37 : decode cX3_isRest 37 = .ok (.iload_n 2, 1) := by decide +kernel
theorem dX3_isRest_38 : decode cX3_isRest 38 = .ok (.invokestatic 98, 3) := by decide +kernel
theorem dX3_isRest_41 : decode cX3_isRest 41 = .ok (.iload_n 3, 1) := by decide +kernel
theorem dX3_isRest_42 : decode cX3_isRest 42 = .ok (.if_icmp .gt 18, 3) := by decide +kernel
theorem dX3_isRest_45 : decode cX3_isRest 45 = .ok (.aload_n 0, 1) := by decide +kernel
theorem dX3_isRest_46 : decode cX3_isRest 46 = .ok (.getfield 22, 3) := by decide +kernel
theorem dX3_isRest_49 : decode cX3_isRest 49 = .ok (.iload 5, 2) := by decide +kernel
theorem dX3_isRest_51 : decode cX3_isRest 51 = .ok (.iload_n 1, 1) := by decide +kernel
theorem dX3_isRest_52 : decode cX3_isRest 52 = .ok (.invokestatic 98, 3) := by decide +kernel
theorem dX3_isRest_55 : decode cX3_isRest 55 = .ok (.iload 4, 2) := by decide +kernel
theorem dX3_isRest_57 : decode cX3_isRest 57 = .ok (.if_icmp .le 5, 3) := by decide +kernel
theorem dX3_isRest_60 : decode cX3_isRest 60 = .ok (.iconst 0, 1) := by decide +kernel
theorem dX3_isRest_61 : decode cX3_isRest 61 = .ok (.ireturn, 1) := by decide +kernel
theorem dX3_isRest_62 : decode cX3_isRest 62 = .ok (.iinc 5 1, 3) := by decide +kernel
theorem dX3_isRest_65 : decode cX3_isRest 65 = .ok (.goto (-41), 3) := by decide +kernel
theorem dX3_isRest_68 : decode cX3_isRest 68 = .ok (.iconst 1, 1) := by decide +kernel
theorem dX3_isRest_69 : decode cX3_isRest 69 = .ok (.ireturn, 1) := by decide +kernel
theorem dX3_gain_0 : decode cX3_gain 0 = .ok (.iconst 2, 1) := by decide +kernel
theorem dX3_gain_1 : decode cX3_gain 1 = .ok (.aload_n 0, 1) := by decide +kernel
theorem dX3_gain_2 : decode cX3_gain 2 = .ok (.iload_n 1, 1) := by decide +kernel
theorem dX3_gain_3 : decode cX3_gain 3 = .ok (.iload_n 2, 1) := by decide +kernel
theorem dX3_gain_4 : decode cX3_gain 4 = .ok (.iadd, 1) := by decide +kernel
theorem dX3_gain_5 : decode cX3_gain 5 = .ok (.invokestatic 102, 3) := by decide +kernel
theorem dX3_gain_8 : decode cX3_gain 8 = .ok (.imul, 1) := by decide +kernel
theorem dX3_gain_9 : decode cX3_gain 9 = .ok (.iload_n 1, 1) := by decide +kernel
theorem dX3_gain_10 : decode cX3_gain 10 = .ok (.isub, 1) := by decide +kernel
theorem dX3_gain_11 : decode cX3_gain 11 = .ok (.ireturn, 1) := by decide +kernel
theorem dX3_shareOf_0 : decode cX3_shareOf 0 = .ok (.aload_n 0, 1) := by decide +kernel
theorem dX3_shareOf_1 : decode cX3_shareOf 1 = .ok (.iconst 0, 1) := by decide +kernel
theorem dX3_shareOf_2 : decode cX3_shareOf 2 = .ok (.iload_n 2, 1) := by decide +kernel
theorem dX3_shareOf_3 : decode cX3_shareOf 3 = .ok (.invokevirtual 62, 3) := by decide +kernel
theorem dX3_shareOf_6 : decode cX3_shareOf 6 = .ok (.iconst 0, 1) := by decide +kernel
theorem dX3_shareOf_7 : decode cX3_shareOf 7 = .ok (.istore 4, 2) := by decide +kernel
theorem dX3_shareOf_9 : decode cX3_shareOf 9 = .ok (.iconst 0, 1) := by decide +kernel
theorem dX3_shareOf_10 : decode cX3_shareOf 10 = .ok (.istore 5, 2) := by decide +kernel
theorem dX3_shareOf_12 : decode cX3_shareOf 12 = .ok (.iload 5, 2) := by decide +kernel
theorem dX3_shareOf_14 : decode cX3_shareOf 14 = .ok (.aload_n 0, 1) := by decide +kernel
theorem dX3_shareOf_15 : decode cX3_shareOf 15 = .ok (.getfield 29, 3) := by decide +kernel
theorem dX3_shareOf_18 : decode cX3_shareOf 18 = .ok (.bipush 9, 2) := by decide +kernel
theorem dX3_shareOf_20 : decode cX3_shareOf 20 = .ok (.invokevirtual 47, 3) := by decide +kernel
theorem dX3_shareOf_23 : decode cX3_shareOf 23 = .ok (.if_icmp .ge 23, 3) := by decide +kernel
theorem dX3_shareOf_26 : decode cX3_shareOf 26 = .ok (.iload 4, 2) := by decide +kernel
theorem dX3_shareOf_28 : decode cX3_shareOf 28 = .ok (.aload_n 0, 1) := by decide +kernel
theorem dX3_shareOf_29 : decode cX3_shareOf 29 = .ok (.getfield 12, 3) := by decide +kernel
theorem dX3_shareOf_32 : decode cX3_shareOf 32 = .ok (.iload 5, 2) := by decide +kernel
theorem dX3_shareOf_34 : decode cX3_shareOf 34 = .ok (.invokevirtual 87, 3) := by decide +kernel
theorem dX3_shareOf_37 : decode cX3_shareOf 37 = .ok (.iadd, 1) := by decide +kernel
theorem dX3_shareOf_38 : decode cX3_shareOf 38 = .ok (.istore 4, 2) := by decide +kernel
theorem dX3_shareOf_40 : decode cX3_shareOf 40 = .ok (.iinc 5 1, 3) := by decide +kernel
theorem dX3_shareOf_43 : decode cX3_shareOf 43 = .ok (.goto (-31), 3) := by decide +kernel
theorem dX3_shareOf_46 : decode cX3_shareOf 46 = .ok (.iload 4, 2) := by decide +kernel
theorem dX3_shareOf_48 : decode cX3_shareOf 48 = .ok (.ifCond .ne 7, 3) := by decide +kernel
theorem dX3_shareOf_51 : decode cX3_shareOf 51 = .ok (.iconst 0, 1) := by decide +kernel
theorem dX3_shareOf_52 : decode cX3_shareOf 52 = .ok (.goto 16, 3) := by decide +kernel
theorem dX3_shareOf_55 : decode cX3_shareOf 55 = .ok (.iload_n 3, 1) := by decide +kernel
theorem dX3_shareOf_56 : decode cX3_shareOf 56 = .ok (.aload_n 0, 1) := by decide +kernel
theorem dX3_shareOf_57 : decode cX3_shareOf 57 = .ok (.getfield 12, 3) := by decide +kernel
theorem dX3_shareOf_60 : decode cX3_shareOf 60 = .ok (.iload_n 1, 1) := by decide +kernel
theorem dX3_shareOf_61 : decode cX3_shareOf 61 = .ok (.invokevirtual 87, 3) := by decide +kernel
theorem dX3_shareOf_64 : decode cX3_shareOf 64 = .ok (.imul, 1) := by decide +kernel
theorem dX3_shareOf_65 : decode cX3_shareOf 65 = .ok (.iload 4, 2) := by decide +kernel
theorem dX3_shareOf_67 : decode cX3_shareOf 67 = .ok (.idiv, 1) := by decide +kernel
theorem dX3_shareOf_68 : decode cX3_shareOf 68 = .ok (.ireturn, 1) := by decide +kernel
theorem dX3_neverBits_0 : decode cX3_neverBits 0 = .ok (.aload_n 0, 1) := by decide +kernel
theorem dX3_neverBits_1 : decode cX3_neverBits 1 = .ok (.iconst 0, 1) := by decide +kernel
theorem dX3_neverBits_2 : decode cX3_neverBits 2 = .ok (.iload_n 1, 1) := by decide +kernel
theorem dX3_neverBits_3 : decode cX3_neverBits 3 = .ok (.invokevirtual 62, 3) := by decide +kernel
theorem dX3_neverBits_6 : decode cX3_neverBits 6 = .ok (.iconst 0, 1) := by decide +kernel
theorem dX3_neverBits_7 : decode cX3_neverBits 7 = .ok (.istore_n 2, 1) := by decide +kernel
theorem dX3_neverBits_8 : decode cX3_neverBits 8 = .ok (.iconst 0, 1) := by decide +kernel
theorem dX3_neverBits_9 : decode cX3_neverBits 9 = .ok (.istore_n 3, 1) := by decide +kernel
theorem dX3_neverBits_10 : decode cX3_neverBits 10 = .ok (.iload_n 3, 1) := by decide +kernel
theorem dX3_neverBits_11 : decode cX3_neverBits 11 = .ok (.aload_n 0, 1) := by decide +kernel
theorem dX3_neverBits_12 : decode cX3_neverBits 12 = .ok (.getfield 29, 3) := by decide +kernel
theorem dX3_neverBits_15 : decode cX3_neverBits 15 = .ok (.bipush 9, 2) := by decide +kernel
theorem dX3_neverBits_17 : decode cX3_neverBits 17 = .ok (.invokevirtual 47, 3) := by decide +kernel
theorem dX3_neverBits_20 : decode cX3_neverBits 20 = .ok (.if_icmp .ge 30, 3) := by decide +kernel
theorem dX3_neverBits_23 : decode cX3_neverBits 23 = .ok (.iload_n 2, 1) := by decide +kernel
theorem dX3_neverBits_24 : decode cX3_neverBits 24 = .ok (.aload_n 0, 1) := by decide +kernel
theorem dX3_neverBits_25 : decode cX3_neverBits 25 = .ok (.getfield 12, 3) := by decide +kernel
theorem dX3_neverBits_28 : decode cX3_neverBits 28 = .ok (.iload_n 3, 1) := by decide +kernel
theorem dX3_neverBits_29 : decode cX3_neverBits 29 = .ok (.invokevirtual 87, 3) := by decide +kernel
theorem dX3_neverBits_32 : decode cX3_neverBits 32 = .ok (.ifCond .ne 9, 3) := by decide +kernel
theorem dX3_neverBits_35 : decode cX3_neverBits 35 = .ok (.iconst 1, 1) := by decide +kernel
theorem dX3_neverBits_36 : decode cX3_neverBits 36 = .ok (.iload_n 3, 1) := by decide +kernel
theorem dX3_neverBits_37 : decode cX3_neverBits 37 = .ok (.ishl, 1) := by decide +kernel
theorem dX3_neverBits_38 : decode cX3_neverBits 38 = .ok (.goto 4, 3) := by decide +kernel
theorem dX3_neverBits_41 : decode cX3_neverBits 41 = .ok (.iconst 0, 1) := by decide +kernel
theorem dX3_neverBits_42 : decode cX3_neverBits 42 = .ok (.ior, 1) := by decide +kernel
theorem dX3_neverBits_43 : decode cX3_neverBits 43 = .ok (.istore_n 2, 1) := by decide +kernel
theorem dX3_neverBits_44 : decode cX3_neverBits 44 = .ok (.iinc 3 1, 3) := by decide +kernel
theorem dX3_neverBits_47 : decode cX3_neverBits 47 = .ok (.goto (-37), 3) := by decide +kernel
theorem dX3_neverBits_50 : decode cX3_neverBits 50 = .ok (.iload_n 2, 1) := by decide +kernel
theorem dX3_neverBits_51 : decode cX3_neverBits 51 = .ok (.ireturn, 1) := by decide +kernel
theorem dX3_partAt_0 : decode cX3_partAt 0 = .ok (.iload_n 1, 1) := by decide +kernel
theorem dX3_partAt_1 : decode cX3_partAt 1 = .ok (.ifCond .lt 12, 3) := by decide +kernel
theorem dX3_partAt_4 : decode cX3_partAt 4 = .ok (.iload_n 1, 1) := by decide +kernel
theorem dX3_partAt_5 : decode cX3_partAt 5 = .ok (.aload_n 0, 1) := by decide +kernel
theorem dX3_partAt_6 : decode cX3_partAt 6 = .ok (.getfield 25, 3) := by decide +kernel
theorem dX3_partAt_9 : decode cX3_partAt 9 = .ok (.arraylength, 1) := by decide +kernel
theorem dX3_partAt_10 : decode cX3_partAt 10 = .ok (.if_icmp .lt 7, 3) := by decide +kernel
theorem dX3_partAt_13 : decode cX3_partAt 13 = .ok (.lconst 0, 1) := by decide +kernel
theorem dX3_partAt_14 : decode cX3_partAt 14 = .ok (.goto 9, 3) := by decide +kernel
theorem dX3_partAt_17 : decode cX3_partAt 17 = .ok (.aload_n 0, 1) := by decide +kernel
theorem dX3_partAt_18 : decode cX3_partAt 18 = .ok (.getfield 25, 3) := by decide +kernel
theorem dX3_partAt_21 : decode cX3_partAt 21 = .ok (.iload_n 1, 1) := by decide +kernel
theorem dX3_partAt_22 : decode cX3_partAt 22 = .ok (.laload, 1) := by decide +kernel
theorem dX3_partAt_23 : decode cX3_partAt 23 = .ok (.lreturn, 1) := by decide +kernel
theorem dX3_setPart_0 : decode cX3_setPart 0 = .ok (.iload_n 1, 1) := by decide +kernel
theorem dX3_setPart_1 : decode cX3_setPart 1 = .ok (.ifCond .lt 19, 3) := by decide +kernel
theorem dX3_setPart_4 : decode cX3_setPart 4 = .ok (.iload_n 1, 1) := by decide +kernel
theorem dX3_setPart_5 : decode cX3_setPart 5 = .ok (.aload_n 0, 1) := by decide +kernel
theorem dX3_setPart_6 : decode cX3_setPart 6 = .ok (.getfield 25, 3) := by decide +kernel
theorem dX3_setPart_9 : decode cX3_setPart 9 = .ok (.arraylength, 1) := by decide +kernel
theorem dX3_setPart_10 : decode cX3_setPart 10 = .ok (.if_icmp .ge 10, 3) := by decide +kernel
theorem dX3_setPart_13 : decode cX3_setPart 13 = .ok (.aload_n 0, 1) := by decide +kernel
theorem dX3_setPart_14 : decode cX3_setPart 14 = .ok (.getfield 25, 3) := by decide +kernel
theorem dX3_setPart_17 : decode cX3_setPart 17 = .ok (.iload_n 1, 1) := by decide +kernel
theorem dX3_setPart_18 : decode cX3_setPart 18 = .ok (.lload_n 2, 1) := by decide +kernel
theorem dX3_setPart_19 : decode cX3_setPart 19 = .ok (.lastore, 1) := by decide +kernel
theorem dX3_setPart_20 : decode cX3_setPart 20 = .ok (.return_, 1) := by decide +kernel
theorem dX3_deadParts_0 : decode cX3_deadParts 0 = .ok (.iconst 0, 1) := by decide +kernel
theorem dX3_deadParts_1 : decode cX3_deadParts 1 = .ok (.istore_n 3, 1) := by decide +kernel
theorem dX3_deadParts_2 : decode cX3_deadParts 2 = .ok (.iload_n 3, 1) := by decide +kernel
theorem dX3_deadParts_3 : decode cX3_deadParts 3 = .ok (.aload_n 0, 1) := by decide +kernel
theorem dX3_deadParts_4 : decode cX3_deadParts 4 = .ok (.getfield 25, 3) := by decide +kernel
theorem dX3_deadParts_7 : decode cX3_deadParts 7 = .ok (.arraylength, 1) := by decide +kernel
theorem dX3_deadParts_8 : decode cX3_deadParts 8 = .ok (.if_icmp .ge 15, 3) := by decide +kernel
theorem dX3_deadParts_11 : decode cX3_deadParts 11 = .ok (.aload_n 0, 1) := by decide +kernel
theorem dX3_deadParts_12 : decode cX3_deadParts 12 = .ok (.iload_n 3, 1) := by decide +kernel
theorem dX3_deadParts_13 : decode cX3_deadParts 13 = .ok (.lconst 0, 1) := by decide +kernel
theorem dX3_deadParts_14 : decode cX3_deadParts 14 = .ok (.invokevirtual 106, 3) := by decide +kernel
theorem dX3_deadParts_17 : decode cX3_deadParts 17 = .ok (.iinc 3 1, 3) := by decide +kernel
theorem dX3_deadParts_20 : decode cX3_deadParts 20 = .ok (.goto (-18), 3) := by decide +kernel
theorem dX3_deadParts_23 : decode cX3_deadParts 23 = .ok (.aload_n 0, 1) := by decide +kernel
theorem dX3_deadParts_24 : decode cX3_deadParts 24 = .ok (.aload_n 0, 1) := by decide +kernel
theorem dX3_deadParts_25 : decode cX3_deadParts 25 = .ok (.getfield 29, 3) := by decide +kernel
theorem dX3_deadParts_28 : decode cX3_deadParts 28 = .ok (.iconst 0, 1) := by decide +kernel
theorem dX3_deadParts_29 : decode cX3_deadParts 29 = .ok (.invokevirtual 47, 3) := by decide +kernel
theorem dX3_deadParts_32 : decode cX3_deadParts 32 = .ok (.ldc2_w 110, 3) := by decide +kernel
theorem dX3_deadParts_35 : decode cX3_deadParts 35 = .ok (.invokevirtual 106, 3) := by decide +kernel
theorem dX3_deadParts_38 : decode cX3_deadParts 38 = .ok (.iconst 0, 1) := by decide +kernel
theorem dX3_deadParts_39 : decode cX3_deadParts 39 = .ok (.istore_n 3, 1) := by decide +kernel
theorem dX3_deadParts_40 : decode cX3_deadParts 40 = .ok (.iload_n 3, 1) := by decide +kernel
theorem dX3_deadParts_41 : decode cX3_deadParts 41 = .ok (.iload_n 1, 1) := by decide +kernel
theorem dX3_deadParts_42 : decode cX3_deadParts 42 = .ok (.if_icmp .ge 77, 3) := by decide +kernel
theorem dX3_deadParts_45 : decode cX3_deadParts 45 = .ok (.iconst 1, 1) := by decide +kernel
theorem dX3_deadParts_46 : decode cX3_deadParts 46 = .ok (.istore 4, 2) := by decide +kernel
theorem dX3_deadParts_48 : decode cX3_deadParts 48 = .ok (.iload 4, 2) := by decide +kernel
theorem dX3_deadParts_50 : decode cX3_deadParts 50 = .ok (.aload_n 0, 1) := by decide +kernel
theorem dX3_deadParts_51 : decode cX3_deadParts 51 = .ok (.getfield 25, 3) := by decide +kernel
theorem dX3_deadParts_54 : decode cX3_deadParts 54 = .ok (.arraylength, 1) := by decide +kernel
theorem dX3_deadParts_55 : decode cX3_deadParts 55 = .ok (.if_icmp .ge 58, 3) := by decide +kernel
theorem dX3_deadParts_58 : decode cX3_deadParts 58 = .ok (.aload_n 0, 1) := by decide +kernel
theorem dX3_deadParts_59 : decode cX3_deadParts 59 = .ok (.iload 4, 2) := by decide +kernel
theorem dX3_deadParts_61 : decode cX3_deadParts 61 = .ok (.invokevirtual 112, 3) := by decide +kernel
theorem dX3_deadParts_64 : decode cX3_deadParts 64 = .ok (.iload_n 2, 1) := by decide +kernel
theorem dX3_deadParts_65 : decode cX3_deadParts 65 = .ok (.i2l, 1) := by decide +kernel
theorem dX3_deadParts_66 : decode cX3_deadParts 66 = .ok (.lmul, 1) := by decide +kernel
theorem dX3_deadParts_67 : decode cX3_deadParts 67 = .ok (.ldc2_w 116, 3) := by decide +kernel
theorem dX3_deadParts_70 : decode cX3_deadParts 70 = .ok (.ldiv, 1) := by decide +kernel
theorem dX3_deadParts_71 : decode cX3_deadParts 71 = .ok (.lstore 5, 2) := by decide +kernel
theorem dX3_deadParts_73 : decode cX3_deadParts 73 = .ok (.aload_n 0, 1) := by decide +kernel
theorem dX3_deadParts_74 : decode cX3_deadParts 74 = .ok (.iload 4, 2) := by decide +kernel
theorem dX3_deadParts_76 : decode cX3_deadParts 76 = .ok (.aload_n 0, 1) := by decide +kernel
theorem dX3_deadParts_77 : decode cX3_deadParts 77 = .ok (.iload 4, 2) := by decide +kernel
theorem dX3_deadParts_79 : decode cX3_deadParts 79 = .ok (.invokevirtual 112, 3) := by decide +kernel
theorem dX3_deadParts_82 : decode cX3_deadParts 82 = .ok (.lload 5, 2) := by decide +kernel
theorem dX3_deadParts_84 : decode cX3_deadParts 84 = .ok (.lsub, 1) := by decide +kernel
theorem dX3_deadParts_85 : decode cX3_deadParts 85 = .ok (.invokevirtual 106, 3) := by decide +kernel
theorem dX3_deadParts_88 : decode cX3_deadParts 88 = .ok (.aload_n 0, 1) := by decide +kernel
theorem dX3_deadParts_89 : decode cX3_deadParts 89 = .ok (.iload 4, 2) := by decide +kernel
theorem dX3_deadParts_91 : decode cX3_deadParts 91 = .ok (.iconst 1, 1) := by decide +kernel
theorem dX3_deadParts_92 : decode cX3_deadParts 92 = .ok (.isub, 1) := by decide +kernel
theorem dX3_deadParts_93 : decode cX3_deadParts 93 = .ok (.aload_n 0, 1) := by decide +kernel
theorem dX3_deadParts_94 : decode cX3_deadParts 94 = .ok (.iload 4, 2) := by decide +kernel
theorem dX3_deadParts_96 : decode cX3_deadParts 96 = .ok (.iconst 1, 1) := by decide +kernel
theorem dX3_deadParts_97 : decode cX3_deadParts 97 = .ok (.isub, 1) := by decide +kernel
theorem dX3_deadParts_98 : decode cX3_deadParts 98 = .ok (.invokevirtual 112, 3) := by decide +kernel
theorem dX3_deadParts_101 : decode cX3_deadParts 101 = .ok (.lload 5, 2) := by decide +kernel
theorem dX3_deadParts_103 : decode cX3_deadParts 103 = .ok (.ladd, 1) := by decide +kernel
theorem dX3_deadParts_104 : decode cX3_deadParts 104 = .ok (.invokevirtual 106, 3) := by decide +kernel
theorem dX3_deadParts_107 : decode cX3_deadParts 107 = .ok (.iinc 4 1, 3) := by decide +kernel
theorem dX3_deadParts_110 : decode cX3_deadParts 110 = .ok (.goto (-62), 3) := by decide +kernel
theorem dX3_deadParts_113 : decode cX3_deadParts 113 = .ok (.iinc 3 1, 3) := by decide +kernel
theorem dX3_deadParts_116 : decode cX3_deadParts 116 = .ok (.goto (-76), 3) := by decide +kernel
theorem dX3_deadParts_119 : decode cX3_deadParts 119 = .ok (.aload_n 0, 1) := by decide +kernel
theorem dX3_deadParts_120 : decode cX3_deadParts 120 = .ok (.iconst 0, 1) := by decide +kernel
theorem dX3_deadParts_121 : decode cX3_deadParts 121 = .ok (.invokevirtual 112, 3) := by decide +kernel
theorem dX3_deadParts_124 : decode cX3_deadParts 124 = .ok (.lreturn, 1) := by decide +kernel
theorem dX4_init_0 : decode cX4_init 0 = .ok (.aload_n 0, 1) := by decide +kernel
theorem dX4_init_1 : decode cX4_init 1 = .ok (.invokespecial 3, 3) := by decide +kernel
theorem dX4_init_4 : decode cX4_init 4 = .ok (.aload_n 0, 1) := by decide +kernel
theorem dX4_init_5 : decode cX4_init 5 = .ok (.sipush 240, 3) := by decide +kernel
theorem dX4_init_8 : decode cX4_init 8 = .ok (.newarray .int, 2) := by decide +kernel
theorem dX4_init_10 : decode cX4_init 10 = .ok (.putfield 9, 3) := by decide +kernel
theorem dX4_init_13 : decode cX4_init 13 = .ok (.aload_n 0, 1) := by decide +kernel
theorem dX4_init_14 : decode cX4_init 14 = .ok (.new 15, 3) := by decide +kernel
theorem dX4_init_17 : decode cX4_init 17 = .ok (.dup, 1) := by decide +kernel
theorem dX4_init_18 : decode cX4_init 18 = .ok (.aload_n 1, 1) := by decide +kernel
theorem dX4_init_19 : decode cX4_init 19 = .ok (.invokespecial 17, 3) := by decide +kernel
theorem dX4_init_22 : decode cX4_init 22 = .ok (.putfield 20, 3) := by decide +kernel
theorem dX4_init_25 : decode cX4_init 25 = .ok (.return_, 1) := by decide +kernel
theorem dX4_readLaw_0 : decode cX4_readLaw 0 = .ok (.aload_n 0, 1) := by decide +kernel
theorem dX4_readLaw_1 : decode cX4_readLaw 1 = .ok (.getfield 20, 3) := by decide +kernel
theorem dX4_readLaw_4 : decode cX4_readLaw 4 = .ok (.invokevirtual 24, 3) := by decide +kernel
theorem dX4_readLaw_7 : decode cX4_readLaw 7 = .ok (.aload_n 0, 1) := by decide +kernel
theorem dX4_readLaw_8 : decode cX4_readLaw 8 = .ok (.iconst 0, 1) := by decide +kernel
theorem dX4_readLaw_9 : decode cX4_readLaw 9 = .ok (.putfield 27, 3) := by decide +kernel
theorem dX4_readLaw_12 : decode cX4_readLaw 12 = .ok (.aload_n 0, 1) := by decide +kernel
theorem dX4_readLaw_13 : decode cX4_readLaw 13 = .ok (.invokevirtual 31, 3) := by decide +kernel
theorem dX4_readLaw_16 : decode cX4_readLaw 16 = .ok (.iconst 0, 1) := by decide +kernel
theorem dX4_readLaw_17 : decode cX4_readLaw 17 = .ok (.istore_n 1, 1) := by decide +kernel
theorem dX4_readLaw_18 : decode cX4_readLaw 18 = .ok (.iload_n 1, 1) := by decide +kernel
theorem dX4_readLaw_19 : decode cX4_readLaw 19 = .ok (.sipush 240, 3) := by decide +kernel
theorem dX4_readLaw_22 : decode cX4_readLaw 22 = .ok (.if_icmp .ge 42, 3) := by decide +kernel
theorem dX4_readLaw_25 : decode cX4_readLaw 25 = .ok (.aload_n 0, 1) := by decide +kernel
theorem dX4_readLaw_26 : decode cX4_readLaw 26 = .ok (.getfield 20, 3) := by decide +kernel
theorem dX4_readLaw_29 : decode cX4_readLaw 29 = .ok (.invokevirtual 34, 3) := by decide +kernel
theorem dX4_readLaw_32 : decode cX4_readLaw 32 = .ok (.ifCond .ne 32, 3) := by decide +kernel
theorem dX4_readLaw_35 : decode cX4_readLaw 35 = .ok (.aload_n 0, 1) := by decide +kernel
theorem dX4_readLaw_36 : decode cX4_readLaw 36 = .ok (.getfield 20, 3) := by decide +kernel
theorem dX4_readLaw_39 : decode cX4_readLaw 39 = .ok (.invokevirtual 38, 3) := by decide +kernel
theorem dX4_readLaw_42 : decode cX4_readLaw 42 = .ok (.bipush 59, 2) := by decide +kernel
theorem dX4_readLaw_44 : decode cX4_readLaw 44 = .ok (.if_icmp .ne 20, 3) := by decide +kernel
theorem dX4_readLaw_47 : decode cX4_readLaw 47 = .ok (.aload_n 0, 1) := by decide +kernel
theorem dX4_readLaw_48 : decode cX4_readLaw 48 = .ok (.getfield 20, 3) := by decide +kernel
theorem dX4_readLaw_51 : decode cX4_readLaw 51 = .ok (.invokevirtual 42, 3) := by decide +kernel
theorem dX4_readLaw_54 : decode cX4_readLaw 54 = .ok (.aload_n 0, 1) := by decide +kernel
theorem dX4_readLaw_55 : decode cX4_readLaw 55 = .ok (.invokevirtual 31, 3) := by decide +kernel
theorem dX4_readLaw_58 : decode cX4_readLaw 58 = .ok (.iinc 1 1, 3) := by decide +kernel
theorem dX4_readLaw_61 : decode cX4_readLaw 61 = .ok (.goto (-43), 3) := by decide +kernel
theorem dX4_readLaw_64 : decode cX4_readLaw 64 = .ok (.aload_n 0, 1) := by decide +kernel
theorem dX4_readLaw_65 : decode cX4_readLaw 65 = .ok (.getfield 20, 3) := by decide +kernel
theorem dX4_readLaw_68 : decode cX4_readLaw 68 = .ok (.invokevirtual 38, 3) := by decide +kernel
theorem dX4_readLaw_71 : decode cX4_readLaw 71 = .ok (.iconst (-1), 1) := by decide +kernel
theorem dX4_readLaw_72 : decode cX4_readLaw 72 = .ok (.if_icmp .eq 10, 3) := by decide +kernel
theorem dX4_readLaw_75 : decode cX4_readLaw 75 = .ok (.aload_n 0, 1) := by decide +kernel
theorem dX4_readLaw_76 : decode cX4_readLaw 76 = .ok (.getfield 20, 3) := by decide +kernel
theorem dX4_readLaw_79 : decode cX4_readLaw 79 = .ok (.invokevirtual 47, 3) := by decide +kernel
theorem dX4_readLaw_82 : decode cX4_readLaw 82 = .ok (.aload_n 0, 1) := by decide +kernel
theorem dX4_readLaw_83 : decode cX4_readLaw 83 = .ok (.getfield 20, 3) := by decide +kernel
theorem dX4_readLaw_86 : decode cX4_readLaw 86 = .ok (.getfield 50, 3) := by decide +kernel
theorem dX4_readLaw_89 : decode cX4_readLaw 89 = .ok (.ireturn, 1) := by decide +kernel
theorem dX4_write_0 : decode cX4_write 0 = .ok (.aload_n 0, 1) := by decide +kernel
theorem dX4_write_1 : decode cX4_write 1 = .ok (.getfield 9, 3) := by decide +kernel
theorem dX4_write_4 : decode cX4_write 4 = .ok (.aload_n 0, 1) := by decide +kernel
theorem dX4_write_5 : decode cX4_write 5 = .ok (.getfield 27, 3) := by decide +kernel
theorem dX4_write_8 : decode cX4_write 8 = .ok (.iload_n 1, 1) := by decide +kernel
theorem dX4_write_9 : decode cX4_write 9 = .ok (.sipush 10000, 3) := by decide +kernel
theorem dX4_write_12 : decode cX4_write 12 = .ok (.imul, 1) := by decide +kernel
theorem dX4_write_13 : decode cX4_write 13 = .ok (.iload_n 2, 1) := by decide +kernel
theorem dX4_write_14 : decode cX4_write 14 = .ok (.iadd, 1) := by decide +kernel
theorem dX4_write_15 : decode cX4_write 15 = .ok (.invokestatic 55, 3) := by decide +kernel
theorem dX4_write_18 : decode cX4_write 18 = .ok (.aload_n 0, 1) := by decide +kernel
theorem dX4_write_19 : decode cX4_write 19 = .ok (.dup, 1) := by decide +kernel
theorem dX4_write_20 : decode cX4_write 20 = .ok (.getfield 27, 3) := by decide +kernel
theorem dX4_write_23 : decode cX4_write 23 = .ok (.iconst 1, 1) := by decide +kernel
theorem dX4_write_24 : decode cX4_write 24 = .ok (.iadd, 1) := by decide +kernel
theorem dX4_write_25 : decode cX4_write 25 = .ok (.putfield 27, 3) := by decide +kernel
theorem dX4_write_28 : decode cX4_write 28 = .ok (.return_, 1) := by decide +kernel
theorem dX4_readClause_0 : decode cX4_readClause 0 = .ok (.aload_n 0, 1) := by decide +kernel
theorem dX4_readClause_1 : decode cX4_readClause 1 = .ok (.getfield 20, 3) := by decide +kernel
theorem dX4_readClause_4 : decode cX4_readClause 4 = .ok (.bipush 121, 2) := by decide +kernel
theorem dX4_readClause_6 : decode cX4_readClause 6 = .ok (.invokevirtual 59, 3) := by decide +kernel
theorem dX4_readClause_9 : decode cX4_readClause 9 = .ok (.aload_n 0, 1) := by decide +kernel
theorem dX4_readClause_10 : decode cX4_readClause 10 = .ok (.getfield 20, 3) := by decide +kernel
theorem dX4_readClause_13 : decode cX4_readClause 13 = .ok (.bipush 58, 2) := by decide +kernel
theorem dX4_readClause_15 : decode cX4_readClause 15 = .ok (.invokevirtual 59, 3) := by decide +kernel
theorem dX4_readClause_18 : decode cX4_readClause 18 = .ok (.aload_n 0, 1) := by decide +kernel
theorem dX4_readClause_19 : decode cX4_readClause 19 = .ok (.getfield 20, 3) := by decide +kernel
theorem dX4_readClause_22 : decode cX4_readClause 22 = .ok (.invokevirtual 38, 3) := by decide +kernel
theorem dX4_readClause_25 : decode cX4_readClause 25 = .ok (.istore_n 1, 1) := by decide +kernel
theorem dX4_readClause_26 : decode cX4_readClause 26 = .ok (.iload_n 1, 1) := by decide +kernel
theorem dX4_readClause_27 : decode cX4_readClause 27 = .ok (.bipush 33, 2) := by decide +kernel
theorem dX4_readClause_29 : decode cX4_readClause 29 = .ok (.if_icmp .eq 9, 3) := by decide +kernel
theorem dX4_readClause_32 : decode cX4_readClause 32 = .ok (.iload_n 1, 1) := by decide +kernel
theorem dX4_readClause_33 : decode cX4_readClause 33 = .ok (.bipush 40, 2) := by decide +kernel
theorem dX4_readClause_35 : decode cX4_readClause 35 = .ok (.if_icmp .ne 7, 3) := by decide +kernel
theorem dX4_readClause_38 : decode cX4_readClause 38 = .ok (.iconst 1, 1) := by decide +kernel
theorem dX4_readClause_39 : decode cX4_readClause 39 = .ok (.goto 4, 3) := by decide +kernel
theorem dX4_readClause_42 : decode cX4_readClause 42 = .ok (.iconst 0, 1) := by decide +kernel
theorem dX4_readClause_43 : decode cX4_readClause 43 = .ok (.istore_n 2, 1) := by decide +kernel
theorem dX4_readClause_44 : decode cX4_readClause 44 = .ok (.iload_n 2, 1) := by decide +kernel
theorem dX4_readClause_45 : decode cX4_readClause 45 = .ok (.ifCond .ne 32, 3) := by decide +kernel
theorem dX4_readClause_48 : decode cX4_readClause 48 = .ok (.aload_n 0, 1) := by decide +kernel
theorem dX4_readClause_49 : decode cX4_readClause 49 = .ok (.iconst 0, 1) := by decide +kernel
theorem dX4_readClause_50 : decode cX4_readClause 50 = .ok (.invokevirtual 63, 3) := by decide +kernel
theorem dX4_readClause_53 : decode cX4_readClause 53 = .ok (.aload_n 0, 1) := by decide +kernel
theorem dX4_readClause_54 : decode cX4_readClause 54 = .ok (.getfield 20, 3) := by decide +kernel
theorem dX4_readClause_57 : decode cX4_readClause 57 = .ok (.invokevirtual 38, 3) := by decide +kernel
theorem dX4_readClause_60 : decode cX4_readClause 60 = .ok (.invokestatic 66, 3) := by decide +kernel
theorem dX4_readClause_63 : decode cX4_readClause 63 = .ok (.istore_n 2, 1) := by decide +kernel
theorem dX4_readClause_64 : decode cX4_readClause 64 = .ok (.iload_n 2, 1) := by decide +kernel
theorem dX4_readClause_65 : decode cX4_readClause 65 = .ok (.ifCond .eq 18, 3) := by decide +kernel
theorem dX4_readClause_68 : decode cX4_readClause 68 = .ok (.aload_n 0, 1) := by decide +kernel
theorem dX4_readClause_69 : decode cX4_readClause 69 = .ok (.iconst 0, 1) := by decide +kernel
theorem dX4_readClause_70 : decode cX4_readClause 70 = .ok (.iconst 1, 1) := by decide +kernel
theorem dX4_readClause_71 : decode cX4_readClause 71 = .ok (.invokevirtual 70, 3) := by decide +kernel
theorem dX4_readClause_74 : decode cX4_readClause 74 = .ok (.goto 9, 3) := by decide +kernel
theorem dX4_readClause_77 : decode cX4_readClause 77 = .ok (.aload_n 0, 1) := by decide +kernel
theorem dX4_readClause_78 : decode cX4_readClause 78 = .ok (.iconst 0, 1) := by decide +kernel
theorem dX4_readClause_79 : decode cX4_readClause 79 = .ok (.iconst 0, 1) := by decide +kernel
theorem dX4_readClause_80 : decode cX4_readClause 80 = .ok (.invokevirtual 70, 3) := by decide +kernel
theorem dX4_readClause_83 : decode cX4_readClause 83 = .ok (.iload_n 2, 1) := by decide +kernel
theorem dX4_readClause_84 : decode cX4_readClause 84 = .ok (.ifCond .eq 53, 3) := by decide +kernel
theorem dX4_readClause_87 : decode cX4_readClause 87 = .ok (.aload_n 0, 1) := by decide +kernel
theorem dX4_readClause_88 : decode cX4_readClause 88 = .ok (.getfield 20, 3) := by decide +kernel
theorem dX4_readClause_91 : decode cX4_readClause 91 = .ok (.bipush 63, 2) := by decide +kernel
theorem dX4_readClause_93 : decode cX4_readClause 93 = .ok (.invokevirtual 59, 3) := by decide +kernel
theorem dX4_readClause_96 : decode cX4_readClause 96 = .ok (.aload_n 0, 1) := by decide +kernel
theorem dX4_readClause_97 : decode cX4_readClause 97 = .ok (.getfield 27, 3) := by decide +kernel
theorem dX4_readClause_100 : decode cX4_readClause 100 = .ok (.istore_n 3, 1) := by decide +kernel
theorem dX4_readClause_101 : decode cX4_readClause 101 = .ok (.aload_n 0, 1) := by decide +kernel
theorem dX4_readClause_102 : decode cX4_readClause 102 = .ok (.iconst 3, 1) := by decide +kernel
theorem dX4_readClause_103 : decode cX4_readClause 103 = .ok (.iconst 0, 1) := by decide +kernel
theorem dX4_readClause_104 : decode cX4_readClause 104 = .ok (.invokevirtual 74, 3) := by decide +kernel
theorem dX4_readClause_107 : decode cX4_readClause 107 = .ok (.aload_n 0, 1) := by decide +kernel
theorem dX4_readClause_108 : decode cX4_readClause 108 = .ok (.iconst 0, 1) := by decide +kernel
theorem dX4_readClause_109 : decode cX4_readClause 109 = .ok (.invokevirtual 63, 3) := by decide +kernel
theorem dX4_readClause_112 : decode cX4_readClause 112 = .ok (.aload_n 0, 1) := by decide +kernel
theorem dX4_readClause_113 : decode cX4_readClause 113 = .ok (.iconst 4, 1) := by decide +kernel
theorem dX4_readClause_114 : decode cX4_readClause 114 = .ok (.iconst 0, 1) := by decide +kernel
theorem dX4_readClause_115 : decode cX4_readClause 115 = .ok (.invokevirtual 74, 3) := by decide +kernel
theorem dX4_readClause_118 : decode cX4_readClause 118 = .ok (.aload_n 0, 1) := by decide +kernel
theorem dX4_readClause_119 : decode cX4_readClause 119 = .ok (.getfield 9, 3) := by decide +kernel
theorem dX4_readClause_122 : decode cX4_readClause 122 = .ok (.iload_n 3, 1) := by decide +kernel
theorem dX4_readClause_123 : decode cX4_readClause 123 = .ok (.sipush 30000, 3) := by decide +kernel
theorem dX4_readClause_126 : decode cX4_readClause 126 = .ok (.aload_n 0, 1) := by decide +kernel
theorem dX4_readClause_127 : decode cX4_readClause 127 = .ok (.getfield 27, 3) := by decide +kernel
theorem dX4_readClause_130 : decode cX4_readClause 130 = .ok (.iadd, 1) := by decide +kernel
theorem dX4_readClause_131 : decode cX4_readClause 131 = .ok (.invokestatic 55, 3) := by decide +kernel
theorem dX4_readClause_134 : decode cX4_readClause 134 = .ok (.goto 9, 3) := by decide +kernel
theorem dX4_readClause_137 : decode cX4_readClause 137 = .ok (.aload_n 0, 1) := by decide +kernel
theorem dX4_readClause_138 : decode cX4_readClause 138 = .ok (.iconst 4, 1) := by decide +kernel
theorem dX4_readClause_139 : decode cX4_readClause 139 = .ok (.iconst 0, 1) := by decide +kernel
theorem dX4_readClause_140 : decode cX4_readClause 140 = .ok (.invokevirtual 74, 3) := by decide +kernel
theorem dX4_readClause_143 : decode cX4_readClause 143 = .ok (.return_, 1) := by decide +kernel
theorem dX4_isComparison_0 : decode cX4_isComparison 0 = .ok (.iload_n 0, 1) := by decide +kernel
theorem dX4_isComparison_1 : decode cX4_isComparison 1 = .ok (.bipush 61, 2) := by decide +kernel
theorem dX4_isComparison_3 : decode cX4_isComparison 3 = .ok (.if_icmp .eq 15, 3) := by decide +kernel
theorem dX4_isComparison_6 : decode cX4_isComparison 6 = .ok (.iload_n 0, 1) := by decide +kernel
theorem dX4_isComparison_7 : decode cX4_isComparison 7 = .ok (.bipush 60, 2) := by decide +kernel
theorem dX4_isComparison_9 : decode cX4_isComparison 9 = .ok (.if_icmp .eq 9, 3) := by decide +kernel
theorem dX4_isComparison_12 : decode cX4_isComparison 12 = .ok (.iload_n 0, 1) := by decide +kernel
theorem dX4_isComparison_13 : decode cX4_isComparison 13 = .ok (.bipush 62, 2) := by decide +kernel
theorem dX4_isComparison_15 : decode cX4_isComparison 15 = .ok (.if_icmp .ne 7, 3) := by decide +kernel
theorem dX4_isComparison_18 : decode cX4_isComparison 18 = .ok (.iconst 1, 1) := by decide +kernel
theorem dX4_isComparison_19 : decode cX4_isComparison 19 = .ok (.goto 4, 3) := by decide +kernel
theorem dX4_isComparison_22 : decode cX4_isComparison 22 = .ok (.iconst 0, 1) := by decide +kernel
theorem dX4_isComparison_23 : decode cX4_isComparison 23 = .ok (.ireturn, 1) := by decide +kernel
theorem dX4_readCondition_0 : decode cX4_readCondition 0 = .ok (.aload_n 0, 1) := by decide +kernel
theorem dX4_readCondition_1 : decode cX4_readCondition 1 = .ok (.iload_n 1, 1) := by decide +kernel
theorem dX4_readCondition_2 : decode cX4_readCondition 2 = .ok (.iload_n 2, 1) := by decide +kernel
theorem dX4_readCondition_3 : decode cX4_readCondition 3 = .ok (.invokevirtual 78, 3) := by decide +kernel
theorem dX4_readCondition_6 : decode cX4_readCondition 6 = .ok (.iconst 0, 1) := by decide +kernel
theorem dX4_readCondition_7 : decode cX4_readCondition 7 = .ok (.istore_n 3, 1) := by decide +kernel
theorem dX4_readCondition_8 : decode cX4_readCondition 8 = .ok (.iload_n 3, 1) := by decide +kernel
theorem dX4_readCondition_9 : decode cX4_readCondition 9 = .ok (.sipush 240, 3) := by decide +kernel
theorem dX4_readCondition_12 : decode cX4_readCondition 12 = .ok (.if_icmp .ge 51, 3) := by decide +kernel
theorem dX4_readCondition_15 : decode cX4_readCondition 15 = .ok (.aload_n 0, 1) := by decide +kernel
theorem dX4_readCondition_16 : decode cX4_readCondition 16 = .ok (.getfield 20, 3) := by decide +kernel
theorem dX4_readCondition_19 : decode cX4_readCondition 19 = .ok (.invokevirtual 34, 3) := by decide +kernel
theorem dX4_readCondition_22 : decode cX4_readCondition 22 = .ok (.ifCond .ne 41, 3) := by decide +kernel
theorem dX4_readCondition_25 : decode cX4_readCondition 25 = .ok (.aload_n 0, 1) := by decide +kernel
theorem dX4_readCondition_26 : decode cX4_readCondition 26 = .ok (.getfield 20, 3) := by decide +kernel
theorem dX4_readCondition_29 : decode cX4_readCondition 29 = .ok (.invokevirtual 38, 3) := by decide +kernel
theorem dX4_readCondition_32 : decode cX4_readCondition 32 = .ok (.bipush 124, 2) := by decide +kernel
theorem dX4_readCondition_34 : decode cX4_readCondition 34 = .ok (.if_icmp .ne 29, 3) := by decide +kernel
theorem dX4_readCondition_37 : decode cX4_readCondition 37 = .ok (.aload_n 0, 1) := by decide +kernel
theorem dX4_readCondition_38 : decode cX4_readCondition 38 = .ok (.getfield 20, 3) := by decide +kernel
theorem dX4_readCondition_41 : decode cX4_readCondition 41 = .ok (.invokevirtual 42, 3) := by decide +kernel
theorem dX4_readCondition_44 : decode cX4_readCondition 44 = .ok (.aload_n 0, 1) := by decide +kernel
theorem dX4_readCondition_45 : decode cX4_readCondition 45 = .ok (.iload_n 1, 1) := by decide +kernel
theorem dX4_readCondition_46 : decode cX4_readCondition 46 = .ok (.iconst 0, 1) := by decide +kernel
theorem dX4_readCondition_47 : decode cX4_readCondition 47 = .ok (.invokevirtual 78, 3) := by decide +kernel
theorem dX4_readCondition_50 : decode cX4_readCondition 50 = .ok (.aload_n 0, 1) := by decide +kernel
theorem dX4_readCondition_51 : decode cX4_readCondition 51 = .ok (.iconst 2, 1) := by decide +kernel
theorem dX4_readCondition_52 : decode cX4_readCondition 52 = .ok (.bipush 124, 2) := by decide +kernel
theorem dX4_readCondition_54 : decode cX4_readCondition 54 = .ok (.invokevirtual 74, 3) := by decide +kernel
theorem dX4_readCondition_57 : decode cX4_readCondition 57 = .ok (.iinc 3 1, 3) := by decide +kernel
theorem dX4_readCondition_60 : decode cX4_readCondition 60 = .ok (.goto (-52), 3) := by decide +kernel
theorem dX4_readCondition_63 : decode cX4_readCondition 63 = .ok (.return_, 1) := by decide +kernel
theorem dX4_readTruth_0 : decode cX4_readTruth 0 = .ok (.aload_n 0, 1) := by decide +kernel
theorem dX4_readTruth_1 : decode cX4_readTruth 1 = .ok (.iload_n 1, 1) := by decide +kernel
theorem dX4_readTruth_2 : decode cX4_readTruth 2 = .ok (.iload_n 2, 1) := by decide +kernel
theorem dX4_readTruth_3 : decode cX4_readTruth 3 = .ok (.invokevirtual 81, 3) := by decide +kernel
theorem dX4_readTruth_6 : decode cX4_readTruth 6 = .ok (.iconst 0, 1) := by decide +kernel
theorem dX4_readTruth_7 : decode cX4_readTruth 7 = .ok (.istore_n 3, 1) := by decide +kernel
theorem dX4_readTruth_8 : decode cX4_readTruth 8 = .ok (.iload_n 3, 1) := by decide +kernel
theorem dX4_readTruth_9 : decode cX4_readTruth 9 = .ok (.sipush 240, 3) := by decide +kernel
theorem dX4_readTruth_12 : decode cX4_readTruth 12 = .ok (.if_icmp .ge 51, 3) := by decide +kernel
theorem dX4_readTruth_15 : decode cX4_readTruth 15 = .ok (.aload_n 0, 1) := by decide +kernel
theorem dX4_readTruth_16 : decode cX4_readTruth 16 = .ok (.getfield 20, 3) := by decide +kernel
theorem dX4_readTruth_19 : decode cX4_readTruth 19 = .ok (.invokevirtual 34, 3) := by decide +kernel
theorem dX4_readTruth_22 : decode cX4_readTruth 22 = .ok (.ifCond .ne 41, 3) := by decide +kernel
theorem dX4_readTruth_25 : decode cX4_readTruth 25 = .ok (.aload_n 0, 1) := by decide +kernel
theorem dX4_readTruth_26 : decode cX4_readTruth 26 = .ok (.getfield 20, 3) := by decide +kernel
theorem dX4_readTruth_29 : decode cX4_readTruth 29 = .ok (.invokevirtual 38, 3) := by decide +kernel
theorem dX4_readTruth_32 : decode cX4_readTruth 32 = .ok (.bipush 38, 2) := by decide +kernel
theorem dX4_readTruth_34 : decode cX4_readTruth 34 = .ok (.if_icmp .ne 29, 3) := by decide +kernel
theorem dX4_readTruth_37 : decode cX4_readTruth 37 = .ok (.aload_n 0, 1) := by decide +kernel
theorem dX4_readTruth_38 : decode cX4_readTruth 38 = .ok (.getfield 20, 3) := by decide +kernel
theorem dX4_readTruth_41 : decode cX4_readTruth 41 = .ok (.invokevirtual 42, 3) := by decide +kernel
theorem dX4_readTruth_44 : decode cX4_readTruth 44 = .ok (.aload_n 0, 1) := by decide +kernel
theorem dX4_readTruth_45 : decode cX4_readTruth 45 = .ok (.iload_n 1, 1) := by decide +kernel
theorem dX4_readTruth_46 : decode cX4_readTruth 46 = .ok (.iconst 0, 1) := by decide +kernel
theorem dX4_readTruth_47 : decode cX4_readTruth 47 = .ok (.invokevirtual 81, 3) := by decide +kernel
theorem dX4_readTruth_50 : decode cX4_readTruth 50 = .ok (.aload_n 0, 1) := by decide +kernel
theorem dX4_readTruth_51 : decode cX4_readTruth 51 = .ok (.iconst 2, 1) := by decide +kernel
theorem dX4_readTruth_52 : decode cX4_readTruth 52 = .ok (.bipush 38, 2) := by decide +kernel
theorem dX4_readTruth_54 : decode cX4_readTruth 54 = .ok (.invokevirtual 74, 3) := by decide +kernel
theorem dX4_readTruth_57 : decode cX4_readTruth 57 = .ok (.iinc 3 1, 3) := by decide +kernel
theorem dX4_readTruth_60 : decode cX4_readTruth 60 = .ok (.goto (-52), 3) := by decide +kernel
theorem dX4_readTruth_63 : decode cX4_readTruth 63 = .ok (.return_, 1) := by decide +kernel
theorem dX4_readUnit_0 : decode cX4_readUnit 0 = .ok (.aload_n 0, 1) := by decide +kernel
theorem dX4_readUnit_1 : decode cX4_readUnit 1 = .ok (.getfield 20, 3) := by decide +kernel
theorem dX4_readUnit_4 : decode cX4_readUnit 4 = .ok (.invokevirtual 34, 3) := by decide +kernel
theorem dX4_readUnit_7 : decode cX4_readUnit 7 = .ok (.ifCond .eq 4, 3) := by decide +kernel
theorem dX4_readUnit_10 : decode cX4_readUnit 10 = .ok (.return_, 1) := by decide +kernel
theorem dX4_readUnit_11 : decode cX4_readUnit 11 = .ok (.aload_n 0, 1) := by decide +kernel
theorem dX4_readUnit_12 : decode cX4_readUnit 12 = .ok (.getfield 20, 3) := by decide +kernel
theorem dX4_readUnit_15 : decode cX4_readUnit 15 = .ok (.invokevirtual 38, 3) := by decide +kernel
theorem dX4_readUnit_18 : decode cX4_readUnit 18 = .ok (.istore_n 3, 1) := by decide +kernel
theorem dX4_readUnit_19 : decode cX4_readUnit 19 = .ok (.iload_n 2, 1) := by decide +kernel
theorem dX4_readUnit_20 : decode cX4_readUnit 20 = .ok (.ifCond .ne 22, 3) := by decide +kernel
theorem dX4_readUnit_23 : decode cX4_readUnit 23 = .ok (.iload_n 3, 1) := by decide +kernel
theorem dX4_readUnit_24 : decode cX4_readUnit 24 = .ok (.bipush 33, 2) := by decide +kernel
theorem dX4_readUnit_26 : decode cX4_readUnit 26 = .ok (.if_icmp .eq 9, 3) := by decide +kernel
theorem dX4_readUnit_29 : decode cX4_readUnit 29 = .ok (.iload_n 3, 1) := by decide +kernel
theorem dX4_readUnit_30 : decode cX4_readUnit 30 = .ok (.bipush 40, 2) := by decide +kernel
theorem dX4_readUnit_32 : decode cX4_readUnit 32 = .ok (.if_icmp .ne 10, 3) := by decide +kernel
theorem dX4_readUnit_35 : decode cX4_readUnit 35 = .ok (.aload_n 0, 1) := by decide +kernel
theorem dX4_readUnit_36 : decode cX4_readUnit 36 = .ok (.iload_n 1, 1) := by decide +kernel
theorem dX4_readUnit_37 : decode cX4_readUnit 37 = .ok (.iload_n 3, 1) := by decide +kernel
theorem dX4_readUnit_38 : decode cX4_readUnit 38 = .ok (.invokevirtual 84, 3) := by decide +kernel
theorem dX4_readUnit_41 : decode cX4_readUnit 41 = .ok (.return_, 1) := by decide +kernel
theorem dX4_readUnit_42 : decode cX4_readUnit 42 = .ok (.iload_n 2, 1) := by decide +kernel
theorem dX4_readUnit_43 : decode cX4_readUnit 43 = .ok (.ifCond .ne 8, 3) := by decide +kernel
theorem dX4_readUnit_46 : decode cX4_readUnit 46 = .ok (.aload_n 0, 1) := by decide +kernel
theorem dX4_readUnit_47 : decode cX4_readUnit 47 = .ok (.iload_n 1, 1) := by decide +kernel
theorem dX4_readUnit_48 : decode cX4_readUnit 48 = .ok (.invokevirtual 63, 3) := by decide +kernel
theorem dX4_readUnit_51 : decode cX4_readUnit 51 = .ok (.aload_n 0, 1) := by decide +kernel
theorem dX4_readUnit_52 : decode cX4_readUnit 52 = .ok (.getfield 20, 3) := by decide +kernel
theorem dX4_readUnit_55 : decode cX4_readUnit 55 = .ok (.invokevirtual 38, 3) := by decide +kernel
theorem dX4_readUnit_58 : decode cX4_readUnit 58 = .ok (.istore 4, 2) := by decide +kernel
theorem dX4_readUnit_60 : decode cX4_readUnit 60 = .ok (.aload_n 0, 1) := by decide +kernel
theorem dX4_readUnit_61 : decode cX4_readUnit 61 = .ok (.getfield 20, 3) := by decide +kernel
theorem dX4_readUnit_64 : decode cX4_readUnit 64 = .ok (.invokevirtual 34, 3) := by decide +kernel
theorem dX4_readUnit_67 : decode cX4_readUnit 67 = .ok (.ifCond .ne 11, 3) := by decide +kernel
theorem dX4_readUnit_70 : decode cX4_readUnit 70 = .ok (.iload 4, 2) := by decide +kernel
theorem dX4_readUnit_72 : decode cX4_readUnit 72 = .ok (.invokestatic 66, 3) := by decide +kernel
theorem dX4_readUnit_75 : decode cX4_readUnit 75 = .ok (.ifCond .ne 11, 3) := by decide +kernel
theorem dX4_readUnit_78 : decode cX4_readUnit 78 = .ok (.aload_n 0, 1) := by decide +kernel
theorem dX4_readUnit_79 : decode cX4_readUnit 79 = .ok (.getfield 20, 3) := by decide +kernel
theorem dX4_readUnit_82 : decode cX4_readUnit 82 = .ok (.invokevirtual 47, 3) := by decide +kernel
theorem dX4_readUnit_85 : decode cX4_readUnit 85 = .ok (.return_, 1) := by decide +kernel
theorem dX4_readUnit_86 : decode cX4_readUnit 86 = .ok (.aload_n 0, 1) := by decide +kernel
theorem dX4_readUnit_87 : decode cX4_readUnit 87 = .ok (.getfield 20, 3) := by decide +kernel
theorem dX4_readUnit_90 : decode cX4_readUnit 90 = .ok (.invokevirtual 42, 3) := by decide +kernel
theorem dX4_readUnit_93 : decode cX4_readUnit 93 = .ok (.aload_n 0, 1) := by decide +kernel
theorem dX4_readUnit_94 : decode cX4_readUnit 94 = .ok (.iload_n 1, 1) := by decide +kernel
theorem dX4_readUnit_95 : decode cX4_readUnit 95 = .ok (.invokevirtual 63, 3) := by decide +kernel
theorem dX4_readUnit_98 : decode cX4_readUnit 98 = .ok (.aload_n 0, 1) := by decide +kernel
theorem dX4_readUnit_99 : decode cX4_readUnit 99 = .ok (.iconst 2, 1) := by decide +kernel
theorem dX4_readUnit_100 : decode cX4_readUnit 100 = .ok (.iload 4, 2) := by decide +kernel
theorem dX4_readUnit_102 : decode cX4_readUnit 102 = .ok (.invokevirtual 74, 3) := by decide +kernel
theorem dX4_readUnit_105 : decode cX4_readUnit 105 = .ok (.return_, 1) := by decide +kernel
theorem dX4_readNested_0 : decode cX4_readNested 0 = .ok (.iload_n 1, 1) := by decide +kernel
theorem dX4_readNested_1 : decode cX4_readNested 1 = .ok (.bipush 6, 2) := by decide +kernel
theorem dX4_readNested_3 : decode cX4_readNested 3 = .ok (.if_icmp .lt 11, 3) := by decide +kernel
theorem dX4_readNested_6 : decode cX4_readNested 6 = .ok (.aload_n 0, 1) := by decide +kernel
theorem dX4_readNested_7 : decode cX4_readNested 7 = .ok (.getfield 20, 3) := by decide +kernel
theorem dX4_readNested_10 : decode cX4_readNested 10 = .ok (.invokevirtual 47, 3) := by decide +kernel
theorem dX4_readNested_13 : decode cX4_readNested 13 = .ok (.return_, 1) := by decide +kernel
theorem dX4_readNested_14 : decode cX4_readNested 14 = .ok (.aload_n 0, 1) := by decide +kernel
theorem dX4_readNested_15 : decode cX4_readNested 15 = .ok (.getfield 20, 3) := by decide +kernel
theorem dX4_readNested_18 : decode cX4_readNested 18 = .ok (.invokevirtual 42, 3) := by decide +kernel
theorem dX4_readNested_21 : decode cX4_readNested 21 = .ok (.iload_n 2, 1) := by decide +kernel
theorem dX4_readNested_22 : decode cX4_readNested 22 = .ok (.bipush 33, 2) := by decide +kernel
theorem dX4_readNested_24 : decode cX4_readNested 24 = .ok (.if_icmp .ne 21, 3) := by decide +kernel
theorem dX4_readNested_27 : decode cX4_readNested 27 = .ok (.aload_n 0, 1) := by decide +kernel
theorem dX4_readNested_28 : decode cX4_readNested 28 = .ok (.iload_n 1, 1) := by decide +kernel
theorem dX4_readNested_29 : decode cX4_readNested 29 = .ok (.iconst 1, 1) := by decide +kernel
theorem dX4_readNested_30 : decode cX4_readNested 30 = .ok (.iadd, 1) := by decide +kernel
theorem dX4_readNested_31 : decode cX4_readNested 31 = .ok (.iconst 0, 1) := by decide +kernel
theorem dX4_readNested_32 : decode cX4_readNested 32 = .ok (.invokevirtual 81, 3) := by decide +kernel
theorem dX4_readNested_35 : decode cX4_readNested 35 = .ok (.aload_n 0, 1) := by decide +kernel
theorem dX4_readNested_36 : decode cX4_readNested 36 = .ok (.iconst 2, 1) := by decide +kernel
theorem dX4_readNested_37 : decode cX4_readNested 37 = .ok (.bipush 33, 2) := by decide +kernel
theorem dX4_readNested_39 : decode cX4_readNested 39 = .ok (.invokevirtual 74, 3) := by decide +kernel
theorem dX4_readNested_42 : decode cX4_readNested 42 = .ok (.goto 20, 3) := by decide +kernel
theorem dX4_readNested_45 : decode cX4_readNested 45 = .ok (.aload_n 0, 1) := by decide +kernel
theorem dX4_readNested_46 : decode cX4_readNested 46 = .ok (.iload_n 1, 1) := by decide +kernel
theorem dX4_readNested_47 : decode cX4_readNested 47 = .ok (.iconst 1, 1) := by decide +kernel
theorem dX4_readNested_48 : decode cX4_readNested 48 = .ok (.iadd, 1) := by decide +kernel
theorem dX4_readNested_49 : decode cX4_readNested 49 = .ok (.iconst 0, 1) := by decide +kernel
theorem dX4_readNested_50 : decode cX4_readNested 50 = .ok (.invokevirtual 70, 3) := by decide +kernel
theorem dX4_readNested_53 : decode cX4_readNested 53 = .ok (.aload_n 0, 1) := by decide +kernel
theorem dX4_readNested_54 : decode cX4_readNested 54 = .ok (.getfield 20, 3) := by decide +kernel
theorem dX4_readNested_57 : decode cX4_readNested 57 = .ok (.bipush 41, 2) := by decide +kernel
theorem dX4_readNested_59 : decode cX4_readNested 59 = .ok (.invokevirtual 59, 3) := by decide +kernel
theorem dX4_readNested_62 : decode cX4_readNested 62 = .ok (.return_, 1) := by decide +kernel
theorem dX4_readSum_0 : decode cX4_readSum 0 = .ok (.aload_n 0, 1) := by decide +kernel
theorem dX4_readSum_1 : decode cX4_readSum 1 = .ok (.iload_n 1, 1) := by decide +kernel
theorem dX4_readSum_2 : decode cX4_readSum 2 = .ok (.invokevirtual 87, 3) := by decide +kernel
theorem dX4_readSum_5 : decode cX4_readSum 5 = .ok (.iconst 0, 1) := by decide +kernel
theorem dX4_readSum_6 : decode cX4_readSum 6 = .ok (.istore_n 2, 1) := by decide +kernel
theorem dX4_readSum_7 : decode cX4_readSum 7 = .ok (.iload_n 2, 1) := by decide +kernel
theorem dX4_readSum_8 : decode cX4_readSum 8 = .ok (.sipush 240, 3) := by decide +kernel
theorem dX4_readSum_11 : decode cX4_readSum 11 = .ok (.if_icmp .ge 58, 3) := by decide +kernel
theorem dX4_readSum_14 : decode cX4_readSum 14 = .ok (.aload_n 0, 1) := by decide +kernel
theorem dX4_readSum_15 : decode cX4_readSum 15 = .ok (.getfield 20, 3) := by decide +kernel
theorem dX4_readSum_18 : decode cX4_readSum 18 = .ok (.invokevirtual 34, 3) := by decide +kernel
theorem dX4_readSum_21 : decode cX4_readSum 21 = .ok (.ifCond .ne 48, 3) := by decide +kernel
theorem dX4_readSum_24 : decode cX4_readSum 24 = .ok (.aload_n 0, 1) := by decide +kernel
theorem dX4_readSum_25 : decode cX4_readSum 25 = .ok (.getfield 20, 3) := by decide +kernel
theorem dX4_readSum_28 : decode cX4_readSum 28 = .ok (.invokevirtual 38, 3) := by decide +kernel
theorem dX4_readSum_31 : decode cX4_readSum 31 = .ok (.istore_n 3, 1) := by decide +kernel
theorem dX4_readSum_32 : decode cX4_readSum 32 = .ok (.iload_n 3, 1) := by decide +kernel
theorem dX4_readSum_33 : decode cX4_readSum 33 = .ok (.bipush 43, 2) := by decide +kernel
theorem dX4_readSum_35 : decode cX4_readSum 35 = .ok (.if_icmp .eq 10, 3) := by decide +kernel
theorem dX4_readSum_38 : decode cX4_readSum 38 = .ok (.iload_n 3, 1) := by decide +kernel
theorem dX4_readSum_39 : decode cX4_readSum 39 = .ok (.bipush 45, 2) := by decide +kernel
theorem dX4_readSum_41 : decode cX4_readSum 41 = .ok (.if_icmp .eq 4, 3) := by decide +kernel
theorem dX4_readSum_44 : decode cX4_readSum 44 = .ok (.return_, 1) := by decide +kernel
theorem dX4_readSum_45 : decode cX4_readSum 45 = .ok (.aload_n 0, 1) := by decide +kernel
theorem dX4_readSum_46 : decode cX4_readSum 46 = .ok (.getfield 20, 3) := by decide +kernel
theorem dX4_readSum_49 : decode cX4_readSum 49 = .ok (.invokevirtual 42, 3) := by decide +kernel
theorem dX4_readSum_52 : decode cX4_readSum 52 = .ok (.aload_n 0, 1) := by decide +kernel
theorem dX4_readSum_53 : decode cX4_readSum 53 = .ok (.iload_n 1, 1) := by decide +kernel
theorem dX4_readSum_54 : decode cX4_readSum 54 = .ok (.invokevirtual 87, 3) := by decide +kernel
theorem dX4_readSum_57 : decode cX4_readSum 57 = .ok (.aload_n 0, 1) := by decide +kernel
theorem dX4_readSum_58 : decode cX4_readSum 58 = .ok (.iconst 2, 1) := by decide +kernel
theorem dX4_readSum_59 : decode cX4_readSum 59 = .ok (.iload_n 3, 1) := by decide +kernel
theorem dX4_readSum_60 : decode cX4_readSum 60 = .ok (.invokevirtual 74, 3) := by decide +kernel
theorem dX4_readSum_63 : decode cX4_readSum 63 = .ok (.iinc 2 1, 3) := by decide +kernel
theorem dX4_readSum_66 : decode cX4_readSum 66 = .ok (.goto (-59), 3) := by decide +kernel
theorem dX4_readSum_69 : decode cX4_readSum 69 = .ok (.return_, 1) := by decide +kernel
theorem dX4_readTerm_0 : decode cX4_readTerm 0 = .ok (.aload_n 0, 1) := by decide +kernel
theorem dX4_readTerm_1 : decode cX4_readTerm 1 = .ok (.iload_n 1, 1) := by decide +kernel
theorem dX4_readTerm_2 : decode cX4_readTerm 2 = .ok (.invokevirtual 90, 3) := by decide +kernel
theorem dX4_readTerm_5 : decode cX4_readTerm 5 = .ok (.iconst 0, 1) := by decide +kernel
theorem dX4_readTerm_6 : decode cX4_readTerm 6 = .ok (.istore_n 2, 1) := by decide +kernel
theorem dX4_readTerm_7 : decode cX4_readTerm 7 = .ok (.iload_n 2, 1) := by decide +kernel
theorem dX4_readTerm_8 : decode cX4_readTerm 8 = .ok (.sipush 240, 3) := by decide +kernel
theorem dX4_readTerm_11 : decode cX4_readTerm 11 = .ok (.if_icmp .ge 58, 3) := by decide +kernel
theorem dX4_readTerm_14 : decode cX4_readTerm 14 = .ok (.aload_n 0, 1) := by decide +kernel
theorem dX4_readTerm_15 : decode cX4_readTerm 15 = .ok (.getfield 20, 3) := by decide +kernel
theorem dX4_readTerm_18 : decode cX4_readTerm 18 = .ok (.invokevirtual 34, 3) := by decide +kernel
theorem dX4_readTerm_21 : decode cX4_readTerm 21 = .ok (.ifCond .ne 48, 3) := by decide +kernel
theorem dX4_readTerm_24 : decode cX4_readTerm 24 = .ok (.aload_n 0, 1) := by decide +kernel
theorem dX4_readTerm_25 : decode cX4_readTerm 25 = .ok (.getfield 20, 3) := by decide +kernel
theorem dX4_readTerm_28 : decode cX4_readTerm 28 = .ok (.invokevirtual 38, 3) := by decide +kernel
theorem dX4_readTerm_31 : decode cX4_readTerm 31 = .ok (.istore_n 3, 1) := by decide +kernel
theorem dX4_readTerm_32 : decode cX4_readTerm 32 = .ok (.iload_n 3, 1) := by decide +kernel
theorem dX4_readTerm_33 : decode cX4_readTerm 33 = .ok (.bipush 42, 2) := by decide +kernel
theorem dX4_readTerm_35 : decode cX4_readTerm 35 = .ok (.if_icmp .eq 10, 3) := by decide +kernel
theorem dX4_readTerm_38 : decode cX4_readTerm 38 = .ok (.iload_n 3, 1) := by decide +kernel
theorem dX4_readTerm_39 : decode cX4_readTerm 39 = .ok (.bipush 47, 2) := by decide +kernel
theorem dX4_readTerm_41 : decode cX4_readTerm 41 = .ok (.if_icmp .eq 4, 3) := by decide +kernel
theorem dX4_readTerm_44 : decode cX4_readTerm 44 = .ok (.return_, 1) := by decide +kernel
theorem dX4_readTerm_45 : decode cX4_readTerm 45 = .ok (.aload_n 0, 1) := by decide +kernel
theorem dX4_readTerm_46 : decode cX4_readTerm 46 = .ok (.getfield 20, 3) := by decide +kernel
theorem dX4_readTerm_49 : decode cX4_readTerm 49 = .ok (.invokevirtual 42, 3) := by decide +kernel
theorem dX4_readTerm_52 : decode cX4_readTerm 52 = .ok (.aload_n 0, 1) := by decide +kernel
theorem dX4_readTerm_53 : decode cX4_readTerm 53 = .ok (.iload_n 1, 1) := by decide +kernel
theorem dX4_readTerm_54 : decode cX4_readTerm 54 = .ok (.invokevirtual 90, 3) := by decide +kernel
theorem dX4_readTerm_57 : decode cX4_readTerm 57 = .ok (.aload_n 0, 1) := by decide +kernel
theorem dX4_readTerm_58 : decode cX4_readTerm 58 = .ok (.iconst 2, 1) := by decide +kernel
theorem dX4_readTerm_59 : decode cX4_readTerm 59 = .ok (.iload_n 3, 1) := by decide +kernel
theorem dX4_readTerm_60 : decode cX4_readTerm 60 = .ok (.invokevirtual 74, 3) := by decide +kernel
theorem dX4_readTerm_63 : decode cX4_readTerm 63 = .ok (.iinc 2 1, 3) := by decide +kernel
theorem dX4_readTerm_66 : decode cX4_readTerm 66 = .ok (.goto (-59), 3) := by decide +kernel
theorem dX4_readTerm_69 : decode cX4_readTerm 69 = .ok (.return_, 1) := by decide +kernel
theorem dX4_readAtom_0 : decode cX4_readAtom 0 = .ok (.aload_n 0, 1) := by decide +kernel
theorem dX4_readAtom_1 : decode cX4_readAtom 1 = .ok (.getfield 20, 3) := by decide +kernel
theorem dX4_readAtom_4 : decode cX4_readAtom 4 = .ok (.invokevirtual 34, 3) := by decide +kernel
theorem dX4_readAtom_7 : decode cX4_readAtom 7 = .ok (.ifCond .eq 4, 3) := by decide +kernel
theorem dX4_readAtom_10 : decode cX4_readAtom 10 = .ok (.return_, 1) := by decide +kernel
theorem dX4_readAtom_11 : decode cX4_readAtom 11 = .ok (.aload_n 0, 1) := by decide +kernel
theorem dX4_readAtom_12 : decode cX4_readAtom 12 = .ok (.getfield 20, 3) := by decide +kernel
theorem dX4_readAtom_15 : decode cX4_readAtom 15 = .ok (.invokevirtual 38, 3) := by decide +kernel
theorem dX4_readAtom_18 : decode cX4_readAtom 18 = .ok (.istore_n 2, 1) := by decide +kernel
theorem dX4_readAtom_19 : decode cX4_readAtom 19 = .ok (.aload_n 0, 1) := by decide +kernel
theorem dX4_readAtom_20 : decode cX4_readAtom 20 = .ok (.getfield 20, 3) := by decide +kernel
theorem dX4_readAtom_23 : decode cX4_readAtom 23 = .ok (.ldc 93, 2) := by decide +kernel
theorem dX4_readAtom_25 : decode cX4_readAtom 25 = .ok (.invokevirtual 95, 3) := by decide +kernel
theorem dX4_readAtom_28 : decode cX4_readAtom 28 = .ok (.istore_n 3, 1) := by decide +kernel
theorem dX4_readAtom_29 : decode cX4_readAtom 29 = .ok (.iload_n 3, 1) := by decide +kernel
theorem dX4_readAtom_30 : decode cX4_readAtom 30 = .ok (.ifCond .lt 19, 3) := by decide +kernel
theorem dX4_readAtom_33 : decode cX4_readAtom 33 = .ok (.aload_n 0, 1) := by decide +kernel
theorem dX4_readAtom_34 : decode cX4_readAtom 34 = .ok (.getfield 20, 3) := by decide +kernel
theorem dX4_readAtom_37 : decode cX4_readAtom 37 = .ok (.invokevirtual 42, 3) := by decide +kernel
theorem dX4_readAtom_40 : decode cX4_readAtom 40 = .ok (.aload_n 0, 1) := by decide +kernel
theorem dX4_readAtom_41 : decode cX4_readAtom 41 = .ok (.iconst 1, 1) := by decide +kernel
theorem dX4_readAtom_42 : decode cX4_readAtom 42 = .ok (.iload_n 3, 1) := by decide +kernel
theorem dX4_readAtom_43 : decode cX4_readAtom 43 = .ok (.invokevirtual 74, 3) := by decide +kernel
theorem dX4_readAtom_46 : decode cX4_readAtom 46 = .ok (.goto 68, 3) := by decide +kernel
theorem dX4_readAtom_49 : decode cX4_readAtom 49 = .ok (.iload_n 2, 1) := by decide +kernel
theorem dX4_readAtom_50 : decode cX4_readAtom 50 = .ok (.bipush 91, 2) := by decide +kernel
theorem dX4_readAtom_52 : decode cX4_readAtom 52 = .ok (.if_icmp .eq 23, 3) := by decide +kernel
theorem dX4_readAtom_55 : decode cX4_readAtom 55 = .ok (.aload_n 0, 1) := by decide +kernel
theorem dX4_readAtom_56 : decode cX4_readAtom 56 = .ok (.iconst 0, 1) := by decide +kernel
theorem dX4_readAtom_57 : decode cX4_readAtom 57 = .ok (.aload_n 0, 1) := by decide +kernel
theorem dX4_readAtom_58 : decode cX4_readAtom 58 = .ok (.getfield 20, 3) := by decide +kernel
theorem dX4_readAtom_61 : decode cX4_readAtom 61 = .ok (.iconst 4, 1) := by decide +kernel
theorem dX4_readAtom_62 : decode cX4_readAtom 62 = .ok (.iconst 0, 1) := by decide +kernel
theorem dX4_readAtom_63 : decode cX4_readAtom 63 = .ok (.sipush 9999, 3) := by decide +kernel
theorem dX4_readAtom_66 : decode cX4_readAtom 66 = .ok (.invokevirtual 99, 3) := by decide +kernel
theorem dX4_readAtom_69 : decode cX4_readAtom 69 = .ok (.invokevirtual 74, 3) := by decide +kernel
theorem dX4_readAtom_72 : decode cX4_readAtom 72 = .ok (.goto 42, 3) := by decide +kernel
theorem dX4_readAtom_75 : decode cX4_readAtom 75 = .ok (.iload_n 1, 1) := by decide +kernel
theorem dX4_readAtom_76 : decode cX4_readAtom 76 = .ok (.bipush 6, 2) := by decide +kernel
theorem dX4_readAtom_78 : decode cX4_readAtom 78 = .ok (.if_icmp .lt 13, 3) := by decide +kernel
theorem dX4_readAtom_81 : decode cX4_readAtom 81 = .ok (.aload_n 0, 1) := by decide +kernel
theorem dX4_readAtom_82 : decode cX4_readAtom 82 = .ok (.getfield 20, 3) := by decide +kernel
theorem dX4_readAtom_85 : decode cX4_readAtom 85 = .ok (.invokevirtual 47, 3) := by decide +kernel
theorem dX4_readAtom_88 : decode cX4_readAtom 88 = .ok (.goto 26, 3) := by decide +kernel
theorem dX4_readAtom_91 : decode cX4_readAtom 91 = .ok (.aload_n 0, 1) := by decide +kernel
theorem dX4_readAtom_92 : decode cX4_readAtom 92 = .ok (.getfield 20, 3) := by decide +kernel
theorem dX4_readAtom_95 : decode cX4_readAtom 95 = .ok (.invokevirtual 42, 3) := by decide +kernel
theorem dX4_readAtom_98 : decode cX4_readAtom 98 = .ok (.aload_n 0, 1) := by decide +kernel
theorem dX4_readAtom_99 : decode cX4_readAtom 99 = .ok (.iload_n 1, 1) := by decide +kernel
theorem dX4_readAtom_100 : decode cX4_readAtom 100 = .ok (.iconst 1, 1) := by decide +kernel
theorem dX4_readAtom_101 : decode cX4_readAtom 101 = .ok (.iadd, 1) := by decide +kernel
theorem dX4_readAtom_102 : decode cX4_readAtom 102 = .ok (.invokevirtual 63, 3) := by decide +kernel
theorem dX4_readAtom_105 : decode cX4_readAtom 105 = .ok (.aload_n 0, 1) := by decide +kernel
theorem dX4_readAtom_106 : decode cX4_readAtom 106 = .ok (.getfield 20, 3) := by decide +kernel
theorem dX4_readAtom_109 : decode cX4_readAtom 109 = .ok (.bipush 93, 2) := by decide +kernel
theorem dX4_readAtom_111 : decode cX4_readAtom 111 = .ok (.invokevirtual 59, 3) := by decide +kernel
theorem dX4_readAtom_114 : decode cX4_readAtom 114 = .ok (.return_, 1) := by decide +kernel
theorem dX5_init_0 : decode cX5_init 0 = .ok (.aload_n 0, 1) := by decide +kernel
theorem dX5_init_1 : decode cX5_init 1 = .ok (.invokespecial 3, 3) := by decide +kernel
theorem dX5_init_4 : decode cX5_init 4 = .ok (.aload_n 0, 1) := by decide +kernel
theorem dX5_init_5 : decode cX5_init 5 = .ok (.sipush 960, 3) := by decide +kernel
theorem dX5_init_8 : decode cX5_init 8 = .ok (.newarray .int, 2) := by decide +kernel
theorem dX5_init_10 : decode cX5_init 10 = .ok (.putfield 9, 3) := by decide +kernel
theorem dX5_init_13 : decode cX5_init 13 = .ok (.aload_n 0, 1) := by decide +kernel
theorem dX5_init_14 : decode cX5_init 14 = .ok (.iconst 4, 1) := by decide +kernel
theorem dX5_init_15 : decode cX5_init 15 = .ok (.newarray .int, 2) := by decide +kernel
theorem dX5_init_17 : decode cX5_init 17 = .ok (.putfield 15, 3) := by decide +kernel
theorem dX5_init_20 : decode cX5_init 20 = .ok (.aload_n 0, 1) := by decide +kernel
theorem dX5_init_21 : decode cX5_init 21 = .ok (.bipush 6, 2) := by decide +kernel
theorem dX5_init_23 : decode cX5_init 23 = .ok (.newarray .int, 2) := by decide +kernel
theorem dX5_init_25 : decode cX5_init 25 = .ok (.putfield 18, 3) := by decide +kernel
theorem dX5_init_28 : decode cX5_init 28 = .ok (.aload_n 0, 1) := by decide +kernel
theorem dX5_init_29 : decode cX5_init 29 = .ok (.bipush 64, 2) := by decide +kernel
theorem dX5_init_31 : decode cX5_init 31 = .ok (.newarray .int, 2) := by decide +kernel
theorem dX5_init_33 : decode cX5_init 33 = .ok (.putfield 21, 3) := by decide +kernel
theorem dX5_init_36 : decode cX5_init 36 = .ok (.aload_n 0, 1) := by decide +kernel
theorem dX5_init_37 : decode cX5_init 37 = .ok (.iconst (-1), 1) := by decide +kernel
theorem dX5_init_38 : decode cX5_init 38 = .ok (.putfield 24, 3) := by decide +kernel
theorem dX5_init_41 : decode cX5_init 41 = .ok (.return_, 1) := by decide +kernel
theorem dX5_addLaw_0 : decode cX5_addLaw 0 = .ok (.iconst 0, 1) := by decide +kernel
theorem dX5_addLaw_1 : decode cX5_addLaw 1 = .ok (.istore_n 3, 1) := by decide +kernel
theorem dX5_addLaw_2 : decode cX5_addLaw 2 = .ok (.iload_n 3, 1) := by decide +kernel
theorem dX5_addLaw_3 : decode cX5_addLaw 3 = .ok (.iload_n 2, 1) := by decide +kernel
theorem dX5_addLaw_4 : decode cX5_addLaw 4 = .ok (.if_icmp .ge 38, 3) := by decide +kernel
theorem dX5_addLaw_7 : decode cX5_addLaw 7 = .ok (.iload_n 3, 1) := by decide +kernel
theorem dX5_addLaw_8 : decode cX5_addLaw 8 = .ok (.sipush 240, 3) := by decide +kernel
theorem dX5_addLaw_11 : decode cX5_addLaw 11 = .ok (.if_icmp .ge 31, 3) := by decide +kernel
theorem dX5_addLaw_14 : decode cX5_addLaw 14 = .ok (.aload_n 0, 1) := by decide +kernel
theorem dX5_addLaw_15 : decode cX5_addLaw 15 = .ok (.getfield 9, 3) := by decide +kernel
theorem dX5_addLaw_18 : decode cX5_addLaw 18 = .ok (.aload_n 0, 1) := by decide +kernel
theorem dX5_addLaw_19 : decode cX5_addLaw 19 = .ok (.getfield 28, 3) := by decide +kernel
theorem dX5_addLaw_22 : decode cX5_addLaw 22 = .ok (.sipush 240, 3) := by decide +kernel
theorem dX5_addLaw_25 : decode cX5_addLaw 25 = .ok (.imul, 1) := by decide +kernel
theorem dX5_addLaw_26 : decode cX5_addLaw 26 = .ok (.iload_n 3, 1) := by decide +kernel
theorem dX5_addLaw_27 : decode cX5_addLaw 27 = .ok (.iadd, 1) := by decide +kernel
theorem dX5_addLaw_28 : decode cX5_addLaw 28 = .ok (.aload_n 1, 1) := by decide +kernel
theorem dX5_addLaw_29 : decode cX5_addLaw 29 = .ok (.iload_n 3, 1) := by decide +kernel
theorem dX5_addLaw_30 : decode cX5_addLaw 30 = .ok (.invokestatic 31, 3) := by decide +kernel
theorem dX5_addLaw_33 : decode cX5_addLaw 33 = .ok (.invokestatic 35, 3) := by decide +kernel
theorem dX5_addLaw_36 : decode cX5_addLaw 36 = .ok (.iinc 3 1, 3) := by decide +kernel
theorem dX5_addLaw_39 : decode cX5_addLaw 39 = .ok (.goto (-37), 3) := by decide +kernel
theorem dX5_addLaw_42 : decode cX5_addLaw 42 = .ok (.aload_n 0, 1) := by decide +kernel
theorem dX5_addLaw_43 : decode cX5_addLaw 43 = .ok (.getfield 15, 3) := by decide +kernel
theorem dX5_addLaw_46 : decode cX5_addLaw 46 = .ok (.aload_n 0, 1) := by decide +kernel
theorem dX5_addLaw_47 : decode cX5_addLaw 47 = .ok (.getfield 28, 3) := by decide +kernel
theorem dX5_addLaw_50 : decode cX5_addLaw 50 = .ok (.iload_n 2, 1) := by decide +kernel
theorem dX5_addLaw_51 : decode cX5_addLaw 51 = .ok (.invokestatic 35, 3) := by decide +kernel
theorem dX5_addLaw_54 : decode cX5_addLaw 54 = .ok (.aload_n 0, 1) := by decide +kernel
theorem dX5_addLaw_55 : decode cX5_addLaw 55 = .ok (.dup, 1) := by decide +kernel
theorem dX5_addLaw_56 : decode cX5_addLaw 56 = .ok (.getfield 28, 3) := by decide +kernel
theorem dX5_addLaw_59 : decode cX5_addLaw 59 = .ok (.iconst 1, 1) := by decide +kernel
theorem dX5_addLaw_60 : decode cX5_addLaw 60 = .ok (.iadd, 1) := by decide +kernel
theorem dX5_addLaw_61 : decode cX5_addLaw 61 = .ok (.putfield 28, 3) := by decide +kernel
theorem dX5_addLaw_64 : decode cX5_addLaw 64 = .ok (.aload_n 0, 1) := by decide +kernel
theorem dX5_addLaw_65 : decode cX5_addLaw 65 = .ok (.getfield 28, 3) := by decide +kernel
theorem dX5_addLaw_68 : decode cX5_addLaw 68 = .ok (.iconst 1, 1) := by decide +kernel
theorem dX5_addLaw_69 : decode cX5_addLaw 69 = .ok (.isub, 1) := by decide +kernel
theorem dX5_addLaw_70 : decode cX5_addLaw 70 = .ok (.ireturn, 1) := by decide +kernel
theorem dX5_pullFor_0 : decode cX5_pullFor 0 = .ok (.aload_n 1, 1) := by decide +kernel
theorem dX5_pullFor_1 : decode cX5_pullFor 1 = .ok (.iconst 0, 1) := by decide +kernel
theorem dX5_pullFor_2 : decode cX5_pullFor 2 = .ok (.invokevirtual 39, 3) := by decide +kernel
theorem dX5_pullFor_5 : decode cX5_pullFor 5 = .ok (.istore_n 2, 1) := by decide +kernel
theorem dX5_pullFor_6 : decode cX5_pullFor 6 = .ok (.iload_n 2, 1) := by decide +kernel
theorem dX5_pullFor_7 : decode cX5_pullFor 7 = .ok (.iconst 1, 1) := by decide +kernel
theorem dX5_pullFor_8 : decode cX5_pullFor 8 = .ok (.if_icmp .ge 5, 3) := by decide +kernel
theorem dX5_pullFor_11 : decode cX5_pullFor 11 = .ok (.iconst 0, 1) := by decide +kernel
theorem dX5_pullFor_12 : decode cX5_pullFor 12 = .ok (.ireturn, 1) := by decide +kernel
theorem dX5_pullFor_13 : decode cX5_pullFor 13 = .ok (.aload_n 1, 1) := by decide +kernel
theorem dX5_pullFor_14 : decode cX5_pullFor 14 = .ok (.iconst 5, 1) := by decide +kernel
theorem dX5_pullFor_15 : decode cX5_pullFor 15 = .ok (.invokevirtual 39, 3) := by decide +kernel
theorem dX5_pullFor_18 : decode cX5_pullFor 18 = .ok (.istore_n 3, 1) := by decide +kernel
theorem dX5_pullFor_19 : decode cX5_pullFor 19 = .ok (.aload_n 1, 1) := by decide +kernel
theorem dX5_pullFor_20 : decode cX5_pullFor 20 = .ok (.iload_n 3, 1) := by decide +kernel
theorem dX5_pullFor_21 : decode cX5_pullFor 21 = .ok (.iconst 1, 1) := by decide +kernel
theorem dX5_pullFor_22 : decode cX5_pullFor 22 = .ok (.invokevirtual 45, 3) := by decide +kernel
theorem dX5_pullFor_25 : decode cX5_pullFor 25 = .ok (.istore 4, 2) := by decide +kernel
theorem dX5_pullFor_27 : decode cX5_pullFor 27 = .ok (.aload_n 0, 1) := by decide +kernel
theorem dX5_pullFor_28 : decode cX5_pullFor 28 = .ok (.getfield 24, 3) := by decide +kernel
theorem dX5_pullFor_31 : decode cX5_pullFor 31 = .ok (.iconst (-1), 1) := by decide +kernel
theorem dX5_pullFor_32 : decode cX5_pullFor 32 = .ok (.if_icmp .ne 13, 3) := by decide +kernel
theorem dX5_pullFor_35 : decode cX5_pullFor 35 = .ok (.iload_n 2, 1) := by decide +kernel
theorem dX5_pullFor_36 : decode cX5_pullFor 36 = .ok (.iconst 2, 1) := by decide +kernel
theorem dX5_pullFor_37 : decode cX5_pullFor 37 = .ok (.iload 4, 2) := by decide +kernel
theorem dX5_pullFor_39 : decode cX5_pullFor 39 = .ok (.imul, 1) := by decide +kernel
theorem dX5_pullFor_40 : decode cX5_pullFor 40 = .ok (.iadd, 1) := by decide +kernel
theorem dX5_pullFor_41 : decode cX5_pullFor 41 = .ok (.bipush 6, 2) := by decide +kernel
theorem dX5_pullFor_43 : decode cX5_pullFor 43 = .ok (.idiv, 1) := by decide +kernel
theorem dX5_pullFor_44 : decode cX5_pullFor 44 = .ok (.ireturn, 1) := by decide +kernel
theorem dX5_pullFor_45 : decode cX5_pullFor 45 = .ok (.aload_n 0, 1) := by decide +kernel
theorem dX5_pullFor_46 : decode cX5_pullFor 46 = .ok (.getfield 18, 3) := by decide +kernel
theorem dX5_pullFor_49 : decode cX5_pullFor 49 = .ok (.iconst 0, 1) := by decide +kernel
theorem dX5_pullFor_50 : decode cX5_pullFor 50 = .ok (.iload_n 2, 1) := by decide +kernel
theorem dX5_pullFor_51 : decode cX5_pullFor 51 = .ok (.invokestatic 35, 3) := by decide +kernel
theorem dX5_pullFor_54 : decode cX5_pullFor 54 = .ok (.aload_n 0, 1) := by decide +kernel
theorem dX5_pullFor_55 : decode cX5_pullFor 55 = .ok (.getfield 18, 3) := by decide +kernel
theorem dX5_pullFor_58 : decode cX5_pullFor 58 = .ok (.iconst 1, 1) := by decide +kernel
theorem dX5_pullFor_59 : decode cX5_pullFor 59 = .ok (.aload_n 1, 1) := by decide +kernel
theorem dX5_pullFor_60 : decode cX5_pullFor 60 = .ok (.iconst 1, 1) := by decide +kernel
theorem dX5_pullFor_61 : decode cX5_pullFor 61 = .ok (.invokevirtual 39, 3) := by decide +kernel
theorem dX5_pullFor_64 : decode cX5_pullFor 64 = .ok (.invokestatic 35, 3) := by decide +kernel
theorem dX5_pullFor_67 : decode cX5_pullFor 67 = .ok (.aload_n 0, 1) := by decide +kernel
theorem dX5_pullFor_68 : decode cX5_pullFor 68 = .ok (.getfield 18, 3) := by decide +kernel
theorem dX5_pullFor_71 : decode cX5_pullFor 71 = .ok (.iconst 2, 1) := by decide +kernel
theorem dX5_pullFor_72 : decode cX5_pullFor 72 = .ok (.iload 4, 2) := by decide +kernel
theorem dX5_pullFor_74 : decode cX5_pullFor 74 = .ok (.invokestatic 35, 3) := by decide +kernel
theorem dX5_pullFor_77 : decode cX5_pullFor 77 = .ok (.aload_n 0, 1) := by decide +kernel
theorem dX5_pullFor_78 : decode cX5_pullFor 78 = .ok (.getfield 18, 3) := by decide +kernel
theorem dX5_pullFor_81 : decode cX5_pullFor 81 = .ok (.iconst 3, 1) := by decide +kernel
theorem dX5_pullFor_82 : decode cX5_pullFor 82 = .ok (.aload_n 1, 1) := by decide +kernel
theorem dX5_pullFor_83 : decode cX5_pullFor 83 = .ok (.iload_n 3, 1) := by decide +kernel
theorem dX5_pullFor_84 : decode cX5_pullFor 84 = .ok (.iconst 0, 1) := by decide +kernel
theorem dX5_pullFor_85 : decode cX5_pullFor 85 = .ok (.invokevirtual 45, 3) := by decide +kernel
theorem dX5_pullFor_88 : decode cX5_pullFor 88 = .ok (.invokestatic 35, 3) := by decide +kernel
theorem dX5_pullFor_91 : decode cX5_pullFor 91 = .ok (.aload_n 0, 1) := by decide +kernel
theorem dX5_pullFor_92 : decode cX5_pullFor 92 = .ok (.getfield 18, 3) := by decide +kernel
theorem dX5_pullFor_95 : decode cX5_pullFor 95 = .ok (.iconst 4, 1) := by decide +kernel
theorem dX5_pullFor_96 : decode cX5_pullFor 96 = .ok (.aload_n 1, 1) := by decide +kernel
theorem dX5_pullFor_97 : decode cX5_pullFor 97 = .ok (.bipush 6, 2) := by decide +kernel
theorem dX5_pullFor_99 : decode cX5_pullFor 99 = .ok (.invokevirtual 39, 3) := by decide +kernel
theorem dX5_pullFor_102 : decode cX5_pullFor 102 = .ok (.invokestatic 35, 3) := by decide +kernel
theorem dX5_pullFor_105 : decode cX5_pullFor 105 = .ok (.aload_n 0, 1) := by decide +kernel
theorem dX5_pullFor_106 : decode cX5_pullFor 106 = .ok (.getfield 18, 3) := by decide +kernel
theorem dX5_pullFor_109 : decode cX5_pullFor 109 = .ok (.iconst 5, 1) := by decide +kernel
theorem dX5_pullFor_110 : decode cX5_pullFor 110 = .ok (.iload_n 3, 1) := by decide +kernel
theorem dX5_pullFor_111 : decode cX5_pullFor 111 = .ok (.invokestatic 35, 3) := by decide +kernel
theorem dX5_pullFor_114 : decode cX5_pullFor 114 = .ok (.iconst 0, 1) := by decide +kernel
theorem dX5_pullFor_115 : decode cX5_pullFor 115 = .ok (.bipush 9, 2) := by decide +kernel
theorem dX5_pullFor_117 : decode cX5_pullFor 117 = .ok (.aload_n 0, 1) := by decide +kernel
theorem dX5_pullFor_118 : decode cX5_pullFor 118 = .ok (.invokevirtual 49, 3) := by decide +kernel
theorem dX5_pullFor_121 : decode cX5_pullFor 121 = .ok (.invokestatic 53, 3) := by decide +kernel
theorem dX5_pullFor_124 : decode cX5_pullFor 124 = .ok (.invokestatic 58, 3) := by decide +kernel
theorem dX5_pullFor_127 : decode cX5_pullFor 127 = .ok (.ireturn, 1) := by decide +kernel
theorem dX5_worth_0 : decode cX5_worth 0 = .ok (.aload_n 0, 1) := by decide +kernel
theorem dX5_worth_1 : decode cX5_worth 1 = .ok (.getfield 24, 3) := by decide +kernel
theorem dX5_worth_4 : decode cX5_worth 4 = .ok (.sipush 240, 3) := by decide +kernel
theorem dX5_worth_7 : decode cX5_worth 7 = .ok (.imul, 1) := by decide +kernel
theorem dX5_worth_8 : decode cX5_worth 8 = .ok (.istore_n 1, 1) := by decide +kernel
theorem dX5_worth_9 : decode cX5_worth 9 = .ok (.sipush 240, 3) := by decide +kernel
theorem dX5_worth_12 : decode cX5_worth 12 = .ok (.aload_n 0, 1) := by decide +kernel
theorem dX5_worth_13 : decode cX5_worth 13 = .ok (.getfield 15, 3) := by decide +kernel
theorem dX5_worth_16 : decode cX5_worth 16 = .ok (.aload_n 0, 1) := by decide +kernel
theorem dX5_worth_17 : decode cX5_worth 17 = .ok (.getfield 24, 3) := by decide +kernel
theorem dX5_worth_20 : decode cX5_worth 20 = .ok (.invokestatic 31, 3) := by decide +kernel
theorem dX5_worth_23 : decode cX5_worth 23 = .ok (.invokestatic 53, 3) := by decide +kernel
theorem dX5_worth_26 : decode cX5_worth 26 = .ok (.istore_n 2, 1) := by decide +kernel
theorem dX5_worth_27 : decode cX5_worth 27 = .ok (.aload_n 0, 1) := by decide +kernel
theorem dX5_worth_28 : decode cX5_worth 28 = .ok (.iconst 0, 1) := by decide +kernel
theorem dX5_worth_29 : decode cX5_worth 29 = .ok (.putfield 61, 3) := by decide +kernel
theorem dX5_worth_32 : decode cX5_worth 32 = .ok (.iconst 0, 1) := by decide +kernel
theorem dX5_worth_33 : decode cX5_worth 33 = .ok (.istore_n 3, 1) := by decide +kernel
theorem dX5_worth_34 : decode cX5_worth 34 = .ok (.iload_n 3, 1) := by decide +kernel
theorem dX5_worth_35 : decode cX5_worth 35 = .ok (.iload_n 2, 1) := by decide +kernel
theorem dX5_worth_36 : decode cX5_worth 36 = .ok (.if_icmp .ge 153, 3) := by decide +kernel
theorem dX5_worth_39 : decode cX5_worth 39 = .ok (.aload_n 0, 1) := by decide +kernel
theorem dX5_worth_40 : decode cX5_worth 40 = .ok (.getfield 9, 3) := by decide +kernel
theorem dX5_worth_43 : decode cX5_worth 43 = .ok (.iload_n 1, 1) := by decide +kernel
theorem dX5_worth_44 : decode cX5_worth 44 = .ok (.iload_n 3, 1) := by decide +kernel
theorem dX5_worth_45 : decode cX5_worth 45 = .ok (.iadd, 1) := by decide +kernel
theorem dX5_worth_46 : decode cX5_worth 46 = .ok (.invokestatic 31, 3) := by decide +kernel
theorem dX5_worth_49 : decode cX5_worth 49 = .ok (.istore 4, 2) := by decide +kernel
theorem dX5_worth_51 : decode cX5_worth 51 = .ok (.iload 4, 2) := by decide +kernel
theorem dX5_worth_53 : decode cX5_worth 53 = .ok (.sipush 10000, 3) := by decide +kernel
theorem dX5_worth_56 : decode cX5_worth 56 = .ok (.irem, 1) := by decide +kernel
theorem dX5_worth_57 : decode cX5_worth 57 = .ok (.istore 5, 2) := by decide +kernel
theorem dX5_worth_59 : decode cX5_worth 59 = .ok (.iload 4, 2) := by decide +kernel
theorem dX5_worth_61 : decode cX5_worth 61 = .ok (.sipush 10000, 3) := by decide +kernel
theorem dX5_worth_64 : decode cX5_worth 64 = .ok (.idiv, 1) := by decide +kernel
theorem dX5_worth_65 : decode cX5_worth 65 = .ok (.tableswitch 113 0 3 #[31, 40, 56, 94], 31) := by decide +kernel
theorem dX5_worth_96 : decode cX5_worth 96 = .ok (.aload_n 0, 1) := by decide +kernel
theorem dX5_worth_97 : decode cX5_worth 97 = .ok (.iload 5, 2) := by decide +kernel
theorem dX5_worth_99 : decode cX5_worth 99 = .ok (.invokevirtual 64, 3) := by decide +kernel
theorem dX5_worth_102 : decode cX5_worth 102 = .ok (.goto 81, 3) := by decide +kernel
theorem dX5_worth_105 : decode cX5_worth 105 = .ok (.aload_n 0, 1) := by decide +kernel
theorem dX5_worth_106 : decode cX5_worth 106 = .ok (.aload_n 0, 1) := by decide +kernel
theorem dX5_worth_107 : decode cX5_worth 107 = .ok (.getfield 18, 3) := by decide +kernel
theorem dX5_worth_110 : decode cX5_worth 110 = .ok (.iload 5, 2) := by decide +kernel
theorem dX5_worth_112 : decode cX5_worth 112 = .ok (.invokestatic 31, 3) := by decide +kernel
theorem dX5_worth_115 : decode cX5_worth 115 = .ok (.invokevirtual 64, 3) := by decide +kernel
theorem dX5_worth_118 : decode cX5_worth 118 = .ok (.goto 65, 3) := by decide +kernel
theorem dX5_worth_121 : decode cX5_worth 121 = .ok (.aload_n 0, 1) := by decide +kernel
theorem dX5_worth_122 : decode cX5_worth 122 = .ok (.invokevirtual 68, 3) := by decide +kernel
theorem dX5_worth_125 : decode cX5_worth 125 = .ok (.istore 6, 2) := by decide +kernel
theorem dX5_worth_127 : decode cX5_worth 127 = .ok (.aload_n 0, 1) := by decide +kernel
theorem dX5_worth_128 : decode cX5_worth 128 = .ok (.iload 5, 2) := by decide +kernel
theorem dX5_worth_130 : decode cX5_worth 130 = .ok (.bipush 33, 2) := by decide +kernel
theorem dX5_worth_132 : decode cX5_worth 132 = .ok (.if_icmp .ne 7, 3) := by decide +kernel
theorem dX5_worth_135 : decode cX5_worth 135 = .ok (.iconst 0, 1) := by decide +kernel
theorem dX5_worth_136 : decode cX5_worth 136 = .ok (.goto 7, 3) := by decide +kernel
theorem dX5_worth_139 : decode cX5_worth 139 = .ok (.aload_n 0, 1) := by decide +kernel
theorem dX5_worth_140 : decode cX5_worth 140 = .ok (.invokevirtual 68, 3) := by decide +kernel
theorem dX5_worth_143 : decode cX5_worth 143 = .ok (.iload 5, 2) := by decide +kernel
theorem dX5_worth_145 : decode cX5_worth 145 = .ok (.iload 6, 2) := by decide +kernel
theorem dX5_worth_147 : decode cX5_worth 147 = .ok (.invokestatic 71, 3) := by decide +kernel
theorem dX5_worth_150 : decode cX5_worth 150 = .ok (.invokestatic 75, 3) := by decide +kernel
theorem dX5_worth_153 : decode cX5_worth 153 = .ok (.invokevirtual 64, 3) := by decide +kernel
theorem dX5_worth_156 : decode cX5_worth 156 = .ok (.goto 27, 3) := by decide +kernel
theorem dX5_worth_159 : decode cX5_worth 159 = .ok (.aload_n 0, 1) := by decide +kernel
theorem dX5_worth_160 : decode cX5_worth 160 = .ok (.invokevirtual 68, 3) := by decide +kernel
theorem dX5_worth_163 : decode cX5_worth 163 = .ok (.ifCond .ne 20, 3) := by decide +kernel
theorem dX5_worth_166 : decode cX5_worth 166 = .ok (.iload_n 3, 1) := by decide +kernel
theorem dX5_worth_167 : decode cX5_worth 167 = .ok (.iload 5, 2) := by decide +kernel
theorem dX5_worth_169 : decode cX5_worth 169 = .ok (.iconst 1, 1) := by decide +kernel
theorem dX5_worth_170 : decode cX5_worth 170 = .ok (.isub, 1) := by decide +kernel
theorem dX5_worth_171 : decode cX5_worth 171 = .ok (.invokestatic 58, 3) := by decide +kernel
theorem dX5_worth_174 : decode cX5_worth 174 = .ok (.istore_n 3, 1) := by decide +kernel
theorem dX5_worth_175 : decode cX5_worth 175 = .ok (.goto 8, 3) := by decide +kernel
theorem dX5_worth_178 : decode cX5_worth 178 = .ok (.aload_n 0, 1) := by decide +kernel
theorem dX5_worth_179 : decode cX5_worth 179 = .ok (.invokevirtual 68, 3) := by decide +kernel
theorem dX5_worth_182 : decode cX5_worth 182 = .ok (.ireturn, 1) := by decide +kernel
theorem dX5_worth_183 : decode cX5_worth 183 = .ok (.iinc 3 1, 3) := by decide +kernel
theorem dX5_worth_186 : decode cX5_worth 186 = .ok (.goto (-152), 3) := by decide +kernel
theorem dX5_worth_189 : decode cX5_worth 189 = .ok (.iconst 0, 1) := by decide +kernel
theorem dX5_worth_190 : decode cX5_worth 190 = .ok (.ireturn, 1) := by decide +kernel
theorem dX5_push_0 : decode cX5_push 0 = .ok (.aload_n 0, 1) := by decide +kernel
theorem dX5_push_1 : decode cX5_push 1 = .ok (.getfield 61, 3) := by decide +kernel
theorem dX5_push_4 : decode cX5_push 4 = .ok (.ifCond .lt 35, 3) := by decide +kernel
theorem dX5_push_7 : decode cX5_push 7 = .ok (.aload_n 0, 1) := by decide +kernel
theorem dX5_push_8 : decode cX5_push 8 = .ok (.getfield 61, 3) := by decide +kernel
theorem dX5_push_11 : decode cX5_push 11 = .ok (.aload_n 0, 1) := by decide +kernel
theorem dX5_push_12 : decode cX5_push 12 = .ok (.getfield 21, 3) := by decide +kernel
theorem dX5_push_15 : decode cX5_push 15 = .ok (.arraylength, 1) := by decide +kernel
theorem dX5_push_16 : decode cX5_push 16 = .ok (.if_icmp .ge 23, 3) := by decide +kernel
theorem dX5_push_19 : decode cX5_push 19 = .ok (.aload_n 0, 1) := by decide +kernel
theorem dX5_push_20 : decode cX5_push 20 = .ok (.getfield 21, 3) := by decide +kernel
theorem dX5_push_23 : decode cX5_push 23 = .ok (.aload_n 0, 1) := by decide +kernel
theorem dX5_push_24 : decode cX5_push 24 = .ok (.getfield 61, 3) := by decide +kernel
theorem dX5_push_27 : decode cX5_push 27 = .ok (.iload_n 1, 1) := by decide +kernel
theorem dX5_push_28 : decode cX5_push 28 = .ok (.iastore, 1) := by decide +kernel
theorem dX5_push_29 : decode cX5_push 29 = .ok (.aload_n 0, 1) := by decide +kernel
theorem dX5_push_30 : decode cX5_push 30 = .ok (.dup, 1) := by decide +kernel
theorem dX5_push_31 : decode cX5_push 31 = .ok (.getfield 61, 3) := by decide +kernel
theorem dX5_push_34 : decode cX5_push 34 = .ok (.iconst 1, 1) := by decide +kernel
theorem dX5_push_35 : decode cX5_push 35 = .ok (.iadd, 1) := by decide +kernel
theorem dX5_push_36 : decode cX5_push 36 = .ok (.putfield 61, 3) := by decide +kernel
theorem dX5_push_39 : decode cX5_push 39 = .ok (.return_, 1) := by decide +kernel
theorem dX5_pop_0 : decode cX5_pop 0 = .ok (.aload_n 0, 1) := by decide +kernel
theorem dX5_pop_1 : decode cX5_pop 1 = .ok (.getfield 61, 3) := by decide +kernel
theorem dX5_pop_4 : decode cX5_pop 4 = .ok (.iconst 1, 1) := by decide +kernel
theorem dX5_pop_5 : decode cX5_pop 5 = .ok (.if_icmp .lt 15, 3) := by decide +kernel
theorem dX5_pop_8 : decode cX5_pop 8 = .ok (.aload_n 0, 1) := by decide +kernel
theorem dX5_pop_9 : decode cX5_pop 9 = .ok (.getfield 61, 3) := by decide +kernel
theorem dX5_pop_12 : decode cX5_pop 12 = .ok (.aload_n 0, 1) := by decide +kernel
theorem dX5_pop_13 : decode cX5_pop 13 = .ok (.getfield 21, 3) := by decide +kernel
theorem dX5_pop_16 : decode cX5_pop 16 = .ok (.arraylength, 1) := by decide +kernel
theorem dX5_pop_17 : decode cX5_pop 17 = .ok (.if_icmp .le 5, 3) := by decide +kernel
theorem dX5_pop_20 : decode cX5_pop 20 = .ok (.iconst 0, 1) := by decide +kernel
theorem dX5_pop_21 : decode cX5_pop 21 = .ok (.ireturn, 1) := by decide +kernel
theorem dX5_pop_22 : decode cX5_pop 22 = .ok (.aload_n 0, 1) := by decide +kernel
theorem dX5_pop_23 : decode cX5_pop 23 = .ok (.dup, 1) := by decide +kernel
theorem dX5_pop_24 : decode cX5_pop 24 = .ok (.getfield 61, 3) := by decide +kernel
theorem dX5_pop_27 : decode cX5_pop 27 = .ok (.iconst 1, 1) := by decide +kernel
theorem dX5_pop_28 : decode cX5_pop 28 = .ok (.isub, 1) := by decide +kernel
theorem dX5_pop_29 : decode cX5_pop 29 = .ok (.putfield 61, 3) := by decide +kernel
theorem dX5_pop_32 : decode cX5_pop 32 = .ok (.aload_n 0, 1) := by decide +kernel
theorem dX5_pop_33 : decode cX5_pop 33 = .ok (.getfield 21, 3) := by decide +kernel
theorem dX5_pop_36 : decode cX5_pop 36 = .ok (.aload_n 0, 1) := by decide +kernel
theorem dX5_pop_37 : decode cX5_pop 37 = .ok (.getfield 61, 3) := by decide +kernel
theorem dX5_pop_40 : decode cX5_pop 40 = .ok (.iaload, 1) := by decide +kernel
theorem dX5_pop_41 : decode cX5_pop 41 = .ok (.ireturn, 1) := by decide +kernel
theorem dX5_joined_0 : decode cX5_joined 0 = .ok (.iload_n 1, 1) := by decide +kernel
theorem dX5_joined_1 : decode cX5_joined 1 = .ok (.lookupswitch 157 #[(38, 147), (42, 95), (43, 83), (45, 89), (47, 101), (60, 125), (61, 114), (62, 136), (124, 152)], 83) := by decide +kernel
theorem dX5_joined_84 : decode cX5_joined 84 = .ok (.iload_n 0, 1) := by decide +kernel
theorem dX5_joined_85 : decode cX5_joined 85 = .ok (.i2l, 1) := by decide +kernel
theorem dX5_joined_86 : decode cX5_joined 86 = .ok (.iload_n 2, 1) := by decide +kernel
theorem dX5_joined_87 : decode cX5_joined 87 = .ok (.i2l, 1) := by decide +kernel
theorem dX5_joined_88 : decode cX5_joined 88 = .ok (.ladd, 1) := by decide +kernel
theorem dX5_joined_89 : decode cX5_joined 89 = .ok (.lreturn, 1) := by decide +kernel
theorem dX5_joined_90 : decode cX5_joined 90 = .ok (.iload_n 0, 1) := by decide +kernel
theorem dX5_joined_91 : decode cX5_joined 91 = .ok (.i2l, 1) := by decide +kernel
theorem dX5_joined_92 : decode cX5_joined 92 = .ok (.iload_n 2, 1) := by decide +kernel
theorem dX5_joined_93 : decode cX5_joined 93 = .ok (.i2l, 1) := by decide +kernel
theorem dX5_joined_94 : decode cX5_joined 94 = .ok (.lsub, 1) := by decide +kernel
theorem dX5_joined_95 : decode cX5_joined 95 = .ok (.lreturn, 1) := by decide +kernel
theorem dX5_joined_96 : decode cX5_joined 96 = .ok (.iload_n 0, 1) := by decide +kernel
theorem dX5_joined_97 : decode cX5_joined 97 = .ok (.i2l, 1) := by decide +kernel
theorem dX5_joined_98 : decode cX5_joined 98 = .ok (.iload_n 2, 1) := by decide +kernel
theorem dX5_joined_99 : decode cX5_joined 99 = .ok (.i2l, 1) := by decide +kernel
theorem dX5_joined_100 : decode cX5_joined 100 = .ok (.lmul, 1) := by decide +kernel
theorem dX5_joined_101 : decode cX5_joined 101 = .ok (.lreturn, 1) := by decide +kernel
theorem dX5_joined_102 : decode cX5_joined 102 = .ok (.iload_n 2, 1) := by decide +kernel
theorem dX5_joined_103 : decode cX5_joined 103 = .ok (.ifCond .ne 7, 3) := by decide +kernel
theorem dX5_joined_106 : decode cX5_joined 106 = .ok (.lconst 0, 1) := by decide +kernel
theorem dX5_joined_107 : decode cX5_joined 107 = .ok (.goto 7, 3) := by decide +kernel
theorem dX5_joined_110 : decode cX5_joined 110 = .ok (.iload_n 0, 1) := by decide +kernel
theorem dX5_joined_111 : decode cX5_joined 111 = .ok (.iload_n 2, 1) := by decide +kernel
theorem dX5_joined_112 : decode cX5_joined 112 = .ok (.idiv, 1) := by decide +kernel
theorem dX5_joined_113 : decode cX5_joined 113 = .ok (.i2l, 1) := by decide +kernel
theorem dX5_joined_114 : decode cX5_joined 114 = .ok (.lreturn, 1) := by decide +kernel
theorem dX5_joined_115 : decode cX5_joined 115 = .ok (.iload_n 0, 1) := by decide +kernel
theorem dX5_joined_116 : decode cX5_joined 116 = .ok (.iload_n 2, 1) := by decide +kernel
theorem dX5_joined_117 : decode cX5_joined 117 = .ok (.if_icmp .ne 7, 3) := by decide +kernel
theorem dX5_joined_120 : decode cX5_joined 120 = .ok (.lconst 1, 1) := by decide +kernel
theorem dX5_joined_121 : decode cX5_joined 121 = .ok (.goto 4, 3) := by decide +kernel
theorem dX5_joined_124 : decode cX5_joined 124 = .ok (.lconst 0, 1) := by decide +kernel
theorem dX5_joined_125 : decode cX5_joined 125 = .ok (.lreturn, 1) := by decide +kernel
theorem dX5_joined_126 : decode cX5_joined 126 = .ok (.iload_n 0, 1) := by decide +kernel
theorem dX5_joined_127 : decode cX5_joined 127 = .ok (.iload_n 2, 1) := by decide +kernel
theorem dX5_joined_128 : decode cX5_joined 128 = .ok (.if_icmp .ge 7, 3) := by decide +kernel
theorem dX5_joined_131 : decode cX5_joined 131 = .ok (.lconst 1, 1) := by decide +kernel
theorem dX5_joined_132 : decode cX5_joined 132 = .ok (.goto 4, 3) := by decide +kernel
theorem dX5_joined_135 : decode cX5_joined 135 = .ok (.lconst 0, 1) := by decide +kernel
theorem dX5_joined_136 : decode cX5_joined 136 = .ok (.lreturn, 1) := by decide +kernel
theorem dX5_joined_137 : decode cX5_joined 137 = .ok (.iload_n 0, 1) := by decide +kernel
theorem dX5_joined_138 : decode cX5_joined 138 = .ok (.iload_n 2, 1) := by decide +kernel
theorem dX5_joined_139 : decode cX5_joined 139 = .ok (.if_icmp .le 7, 3) := by decide +kernel
theorem dX5_joined_142 : decode cX5_joined 142 = .ok (.lconst 1, 1) := by decide +kernel
theorem dX5_joined_143 : decode cX5_joined 143 = .ok (.goto 4, 3) := by decide +kernel
theorem dX5_joined_146 : decode cX5_joined 146 = .ok (.lconst 0, 1) := by decide +kernel
theorem dX5_joined_147 : decode cX5_joined 147 = .ok (.lreturn, 1) := by decide +kernel
theorem dX5_joined_148 : decode cX5_joined 148 = .ok (.iload_n 0, 1) := by decide +kernel
theorem dX5_joined_149 : decode cX5_joined 149 = .ok (.iload_n 2, 1) := by decide +kernel
theorem dX5_joined_150 : decode cX5_joined 150 = .ok (.iand, 1) := by decide +kernel
theorem dX5_joined_151 : decode cX5_joined 151 = .ok (.i2l, 1) := by decide +kernel
theorem dX5_joined_152 : decode cX5_joined 152 = .ok (.lreturn, 1) := by decide +kernel
theorem dX5_joined_153 : decode cX5_joined 153 = .ok (.iload_n 0, 1) := by decide +kernel
theorem dX5_joined_154 : decode cX5_joined 154 = .ok (.iload_n 2, 1) := by decide +kernel
theorem dX5_joined_155 : decode cX5_joined 155 = .ok (.ior, 1) := by decide +kernel
theorem dX5_joined_156 : decode cX5_joined 156 = .ok (.i2l, 1) := by decide +kernel
theorem dX5_joined_157 : decode cX5_joined 157 = .ok (.lreturn, 1) := by decide +kernel
theorem dX5_joined_158 : decode cX5_joined 158 = .ok (.iload_n 2, 1) := by decide +kernel
theorem dX5_joined_159 : decode cX5_joined 159 = .ok (.ifCond .ne 7, 3) := by decide +kernel
theorem dX5_joined_162 : decode cX5_joined 162 = .ok (.lconst 1, 1) := by decide +kernel
theorem dX5_joined_163 : decode cX5_joined 163 = .ok (.goto 4, 3) := by decide +kernel
theorem dX5_joined_166 : decode cX5_joined 166 = .ok (.lconst 0, 1) := by decide +kernel
theorem dX5_joined_167 : decode cX5_joined 167 = .ok (.lreturn, 1) := by decide +kernel
theorem dX5_held_0 : decode cX5_held 0 = .ok (.lload_n 0, 1) := by decide +kernel
theorem dX5_held_1 : decode cX5_held 1 = .ok (.ldc2_w 79, 3) := by decide +kernel
theorem dX5_held_4 : decode cX5_held 4 = .ok (.lcmp, 1) := by decide +kernel
theorem dX5_held_5 : decode cX5_held 5 = .ok (.ifCond .le 6, 3) := by decide +kernel
theorem dX5_held_8 : decode cX5_held 8 = .ok (.ldc 81, 2) := by decide +kernel
theorem dX5_held_10 : decode cX5_held 10 = .ok (.ireturn, 1) := by decide +kernel
theorem dX5_held_11 : decode cX5_held 11 = .ok (.lload_n 0, 1) := by decide +kernel
theorem dX5_held_12 : decode cX5_held 12 = .ok (.ldc2_w 82, 3) := by decide +kernel
theorem dX5_held_15 : decode cX5_held 15 = .ok (.lcmp, 1) := by decide +kernel
theorem dX5_held_16 : decode cX5_held 16 = .ok (.ifCond .ge 8, 3) := by decide +kernel
theorem dX5_held_19 : decode cX5_held 19 = .ok (.ldc 84, 2) := by decide +kernel
theorem dX5_held_21 : decode cX5_held 21 = .ok (.goto 5, 3) := by decide +kernel
theorem dX5_held_24 : decode cX5_held 24 = .ok (.lload_n 0, 1) := by decide +kernel
theorem dX5_held_25 : decode cX5_held 25 = .ok (.l2i, 1) := by decide +kernel
theorem dX5_held_26 : decode cX5_held 26 = .ok (.ireturn, 1) := by decide +kernel
