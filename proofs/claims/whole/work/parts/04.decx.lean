theorem dX0_init_0 : decode cX0_init 0 = .ok (.aload_n 0, 1) := by decide +kernel
theorem dX0_init_1 : decode cX0_init 1 = .ok (.invokespecial 3, 3) := by decide +kernel
theorem dX0_init_4 : decode cX0_init 4 = .ok (.aload_n 0, 1) := by decide +kernel
theorem dX0_init_5 : decode cX0_init 5 = .ok (.bipush 24, 2) := by decide +kernel
theorem dX0_init_7 : decode cX0_init 7 = .ok (.anewarray 9, 3) := by decide +kernel
theorem dX0_init_10 : decode cX0_init 10 = .ok (.putfield 11, 3) := by decide +kernel
theorem dX0_init_13 : decode cX0_init 13 = .ok (.aload_n 0, 1) := by decide +kernel
theorem dX0_init_14 : decode cX0_init 14 = .ok (.bipush 9, 2) := by decide +kernel
theorem dX0_init_16 : decode cX0_init 16 = .ok (.newarray .int, 2) := by decide +kernel
theorem dX0_init_18 : decode cX0_init 18 = .ok (.putfield 17, 3) := by decide +kernel
theorem dX0_init_21 : decode cX0_init 21 = .ok (.aload_n 0, 1) := by decide +kernel
theorem dX0_init_22 : decode cX0_init 22 = .ok (.iconst 0, 1) := by decide +kernel
theorem dX0_init_23 : decode cX0_init 23 = .ok (.putfield 21, 3) := by decide +kernel
theorem dX0_init_26 : decode cX0_init 26 = .ok (.aload_n 0, 1) := by decide +kernel
theorem dX0_init_27 : decode cX0_init 27 = .ok (.sipush 9000, 3) := by decide +kernel
theorem dX0_init_30 : decode cX0_init 30 = .ok (.putfield 25, 3) := by decide +kernel
theorem dX0_init_33 : decode cX0_init 33 = .ok (.aload_n 0, 1) := by decide +kernel
theorem dX0_init_34 : decode cX0_init 34 = .ok (.iconst 1, 1) := by decide +kernel
theorem dX0_init_35 : decode cX0_init 35 = .ok (.putfield 28, 3) := by decide +kernel
theorem dX0_init_38 : decode cX0_init 38 = .ok (.aload_n 0, 1) := by decide +kernel
theorem dX0_init_39 : decode cX0_init 39 = .ok (.iconst 0, 1) := by decide +kernel
theorem dX0_init_40 : decode cX0_init 40 = .ok (.putfield 32, 3) := by decide +kernel
theorem dX0_init_43 : decode cX0_init 43 = .ok (.aload_n 0, 1) := by decide +kernel
theorem dX0_init_44 : decode cX0_init 44 = .ok (.iconst 0, 1) := by decide +kernel
theorem dX0_init_45 : decode cX0_init 45 = .ok (.putfield 35, 3) := by decide +kernel
theorem dX0_init_48 : decode cX0_init 48 = .ok (.return_, 1) := by decide +kernel
theorem dX0_at_0 : decode cX0_at 0 = .ok (.iload_n 1, 1) := by decide +kernel
theorem dX0_at_1 : decode cX0_at 1 = .ok (.ifCond .lt 20, 3) := by decide +kernel
theorem dX0_at_4 : decode cX0_at 4 = .ok (.iload_n 1, 1) := by decide +kernel
theorem dX0_at_5 : decode cX0_at 5 = .ok (.aload_n 0, 1) := by decide +kernel
theorem dX0_at_6 : decode cX0_at 6 = .ok (.getfield 21, 3) := by decide +kernel
theorem dX0_at_9 : decode cX0_at 9 = .ok (.if_icmp .ge 12, 3) := by decide +kernel
theorem dX0_at_12 : decode cX0_at 12 = .ok (.iload_n 1, 1) := by decide +kernel
theorem dX0_at_13 : decode cX0_at 13 = .ok (.aload_n 0, 1) := by decide +kernel
theorem dX0_at_14 : decode cX0_at 14 = .ok (.getfield 11, 3) := by decide +kernel
theorem dX0_at_17 : decode cX0_at 17 = .ok (.arraylength, 1) := by decide +kernel
theorem dX0_at_18 : decode cX0_at 18 = .ok (.if_icmp .lt 5, 3) := by decide +kernel
theorem dX0_at_21 : decode cX0_at 21 = .ok (.aconst_null, 1) := by decide +kernel
theorem dX0_at_22 : decode cX0_at 22 = .ok (.areturn, 1) := by decide +kernel
theorem dX0_at_23 : decode cX0_at 23 = .ok (.aload_n 0, 1) := by decide +kernel
theorem dX0_at_24 : decode cX0_at 24 = .ok (.getfield 11, 3) := by decide +kernel
theorem dX0_at_27 : decode cX0_at 27 = .ok (.iload_n 1, 1) := by decide +kernel
theorem dX0_at_28 : decode cX0_at 28 = .ok (.aaload, 1) := by decide +kernel
theorem dX0_at_29 : decode cX0_at 29 = .ok (.areturn, 1) := by decide +kernel
theorem dX0_takeOn_0 : decode cX0_takeOn 0 = .ok (.aload_n 0, 1) := by decide +kernel
theorem dX0_takeOn_1 : decode cX0_takeOn 1 = .ok (.getfield 21, 3) := by decide +kernel
theorem dX0_takeOn_4 : decode cX0_takeOn 4 = .ok (.istore_n 2, 1) := by decide +kernel
theorem dX0_takeOn_5 : decode cX0_takeOn 5 = .ok (.iload_n 2, 1) := by decide +kernel
theorem dX0_takeOn_6 : decode cX0_takeOn 6 = .ok (.ifCond .lt 26, 3) := by decide +kernel
theorem dX0_takeOn_9 : decode cX0_takeOn 9 = .ok (.iload_n 2, 1) := by decide +kernel
theorem dX0_takeOn_10 : decode cX0_takeOn 10 = .ok (.aload_n 0, 1) := by decide +kernel
theorem dX0_takeOn_11 : decode cX0_takeOn 11 = .ok (.getfield 11, 3) := by decide +kernel
theorem dX0_takeOn_14 : decode cX0_takeOn 14 = .ok (.arraylength, 1) := by decide +kernel
theorem dX0_takeOn_15 : decode cX0_takeOn 15 = .ok (.if_icmp .ge 17, 3) := by decide +kernel
theorem dX0_takeOn_18 : decode cX0_takeOn 18 = .ok (.aload_n 0, 1) := by decide +kernel
theorem dX0_takeOn_19 : decode cX0_takeOn 19 = .ok (.getfield 11, 3) := by decide +kernel
theorem dX0_takeOn_22 : decode cX0_takeOn 22 = .ok (.iload_n 2, 1) := by decide +kernel
theorem dX0_takeOn_23 : decode cX0_takeOn 23 = .ok (.aload_n 1, 1) := by decide +kernel
theorem dX0_takeOn_24 : decode cX0_takeOn 24 = .ok (.aastore, 1) := by decide +kernel
theorem dX0_takeOn_25 : decode cX0_takeOn 25 = .ok (.aload_n 0, 1) := by decide +kernel
theorem dX0_takeOn_26 : decode cX0_takeOn 26 = .ok (.iload_n 2, 1) := by decide +kernel
theorem dX0_takeOn_27 : decode cX0_takeOn 27 = .ok (.iconst 1, 1) := by decide +kernel
theorem dX0_takeOn_28 : decode cX0_takeOn 28 = .ok (.iadd, 1) := by decide +kernel
theorem dX0_takeOn_29 : decode cX0_takeOn 29 = .ok (.putfield 21, 3) := by decide +kernel
theorem dX0_takeOn_32 : decode cX0_takeOn 32 = .ok (.return_, 1) := by decide +kernel
theorem dX0_letOff_0 : decode cX0_letOff 0 = .ok (.iconst 0, 1) := by decide +kernel
theorem dX0_letOff_1 : decode cX0_letOff 1 = .ok (.istore_n 2, 1) := by decide +kernel
theorem dX0_letOff_2 : decode cX0_letOff 2 = .ok (.iconst 0, 1) := by decide +kernel
theorem dX0_letOff_3 : decode cX0_letOff 3 = .ok (.istore_n 3, 1) := by decide +kernel
theorem dX0_letOff_4 : decode cX0_letOff 4 = .ok (.iload_n 3, 1) := by decide +kernel
theorem dX0_letOff_5 : decode cX0_letOff 5 = .ok (.aload_n 0, 1) := by decide +kernel
theorem dX0_letOff_6 : decode cX0_letOff 6 = .ok (.getfield 11, 3) := by decide +kernel
theorem dX0_letOff_9 : decode cX0_letOff 9 = .ok (.arraylength, 1) := by decide +kernel
theorem dX0_letOff_10 : decode cX0_letOff 10 = .ok (.if_icmp .ge 52, 3) := by decide +kernel
theorem dX0_letOff_13 : decode cX0_letOff 13 = .ok (.aload_n 0, 1) := by decide +kernel
theorem dX0_letOff_14 : decode cX0_letOff 14 = .ok (.getfield 11, 3) := by decide +kernel
theorem dX0_letOff_17 : decode cX0_letOff 17 = .ok (.iload_n 3, 1) := by decide +kernel
theorem dX0_letOff_18 : decode cX0_letOff 18 = .ok (.aaload, 1) := by decide +kernel
theorem dX0_letOff_19 : decode cX0_letOff 19 = .ok (.astore 4, 2) := by decide +kernel
theorem dX0_letOff_21 : decode cX0_letOff 21 = .ok (.aload_n 0, 1) := by decide +kernel
theorem dX0_letOff_22 : decode cX0_letOff 22 = .ok (.getfield 11, 3) := by decide +kernel
theorem dX0_letOff_25 : decode cX0_letOff 25 = .ok (.iload_n 3, 1) := by decide +kernel
theorem dX0_letOff_26 : decode cX0_letOff 26 = .ok (.aconst_null, 1) := by decide +kernel
theorem dX0_letOff_27 : decode cX0_letOff 27 = .ok (.aastore, 1) := by decide +kernel
theorem dX0_letOff_28 : decode cX0_letOff 28 = .ok (.aload 4, 2) := by decide +kernel
theorem dX0_letOff_30 : decode cX0_letOff 30 = .ok (.ifnull 26, 3) := by decide +kernel
theorem dX0_letOff_33 : decode cX0_letOff 33 = .ok (.aload 4, 2) := by decide +kernel
theorem dX0_letOff_35 : decode cX0_letOff 35 = .ok (.getfield 38, 3) := by decide +kernel
theorem dX0_letOff_38 : decode cX0_letOff 38 = .ok (.aload_n 1, 1) := by decide +kernel
theorem dX0_letOff_39 : decode cX0_letOff 39 = .ok (.getfield 38, 3) := by decide +kernel
theorem dX0_letOff_42 : decode cX0_letOff 42 = .ok (.if_icmp .eq 14, 3) := by decide +kernel
theorem dX0_letOff_45 : decode cX0_letOff 45 = .ok (.aload_n 0, 1) := by decide +kernel
theorem dX0_letOff_46 : decode cX0_letOff 46 = .ok (.getfield 11, 3) := by decide +kernel
theorem dX0_letOff_49 : decode cX0_letOff 49 = .ok (.iload_n 2, 1) := by decide +kernel
theorem dX0_letOff_50 : decode cX0_letOff 50 = .ok (.aload 4, 2) := by decide +kernel
theorem dX0_letOff_52 : decode cX0_letOff 52 = .ok (.aastore, 1) := by decide +kernel
theorem dX0_letOff_53 : decode cX0_letOff 53 = .ok (.iinc 2 1, 3) := by decide +kernel
theorem dX0_letOff_56 : decode cX0_letOff 56 = .ok (.iinc 3 1, 3) := by decide +kernel
theorem dX0_letOff_59 : decode cX0_letOff 59 = .ok (.goto (-55), 3) := by decide +kernel
theorem dX0_letOff_62 : decode cX0_letOff 62 = .ok (.aload_n 0, 1) := by decide +kernel
theorem dX0_letOff_63 : decode cX0_letOff 63 = .ok (.iload_n 2, 1) := by decide +kernel
theorem dX0_letOff_64 : decode cX0_letOff 64 = .ok (.putfield 21, 3) := by decide +kernel
theorem dX0_letOff_67 : decode cX0_letOff 67 = .ok (.return_, 1) := by decide +kernel
theorem dX0_bearsBus_0 : decode cX0_bearsBus 0 = .ok (.iconst 0, 1) := by decide +kernel
theorem dX0_bearsBus_1 : decode cX0_bearsBus 1 = .ok (.istore_n 1, 1) := by decide +kernel
theorem dX0_bearsBus_2 : decode cX0_bearsBus 2 = .ok (.iload_n 1, 1) := by decide +kernel
theorem dX0_bearsBus_3 : decode cX0_bearsBus 3 = .ok (.aload_n 0, 1) := by decide +kernel
theorem dX0_bearsBus_4 : decode cX0_bearsBus 4 = .ok (.getfield 11, 3) := by decide +kernel
theorem dX0_bearsBus_7 : decode cX0_bearsBus 7 = .ok (.arraylength, 1) := by decide +kernel
theorem dX0_bearsBus_8 : decode cX0_bearsBus 8 = .ok (.if_icmp .ge 40, 3) := by decide +kernel
theorem dX0_bearsBus_11 : decode cX0_bearsBus 11 = .ok (.aload_n 0, 1) := by decide +kernel
theorem dX0_bearsBus_12 : decode cX0_bearsBus 12 = .ok (.getfield 11, 3) := by decide +kernel
theorem dX0_bearsBus_15 : decode cX0_bearsBus 15 = .ok (.iload_n 1, 1) := by decide +kernel
theorem dX0_bearsBus_16 : decode cX0_bearsBus 16 = .ok (.aaload, 1) := by decide +kernel
theorem dX0_bearsBus_17 : decode cX0_bearsBus 17 = .ok (.astore_n 2, 1) := by decide +kernel
theorem dX0_bearsBus_18 : decode cX0_bearsBus 18 = .ok (.aload_n 2, 1) := by decide +kernel
theorem dX0_bearsBus_19 : decode cX0_bearsBus 19 = .ok (.ifnull 23, 3) := by decide +kernel
theorem dX0_bearsBus_22 : decode cX0_bearsBus 22 = .ok (.aload_n 2, 1) := by decide +kernel
theorem dX0_bearsBus_23 : decode cX0_bearsBus 23 = .ok (.getfield 41, 3) := by decide +kernel
theorem dX0_bearsBus_26 : decode cX0_bearsBus 26 = .ok (.bipush 6, 2) := by decide +kernel
theorem dX0_bearsBus_28 : decode cX0_bearsBus 28 = .ok (.if_icmp .eq 12, 3) := by decide +kernel
theorem dX0_bearsBus_31 : decode cX0_bearsBus 31 = .ok (.aload_n 2, 1) := by decide +kernel
theorem dX0_bearsBus_32 : decode cX0_bearsBus 32 = .ok (.getfield 41, 3) := by decide +kernel
theorem dX0_bearsBus_35 : decode cX0_bearsBus 35 = .ok (.bipush 7, 2) := by decide +kernel
theorem dX0_bearsBus_37 : decode cX0_bearsBus 37 = .ok (.if_icmp .ne 5, 3) := by decide +kernel
theorem dX0_bearsBus_40 : decode cX0_bearsBus 40 = .ok (.iconst 1, 1) := by decide +kernel
theorem dX0_bearsBus_41 : decode cX0_bearsBus 41 = .ok (.ireturn, 1) := by decide +kernel
theorem dX0_bearsBus_42 : decode cX0_bearsBus 42 = .ok (.iinc 1 1, 3) := by decide +kernel
theorem dX0_bearsBus_45 : decode cX0_bearsBus 45 = .ok (.goto (-43), 3) := by decide +kernel
theorem dX0_bearsBus_48 : decode cX0_bearsBus 48 = .ok (.iconst 0, 1) := by decide +kernel
theorem dX0_bearsBus_49 : decode cX0_bearsBus 49 = .ok (.ireturn, 1) := by decide +kernel
theorem dX1_init_0 : decode cX1_init 0 = .ok (.aload_n 0, 1) := by decide +kernel
theorem dX1_init_1 : decode cX1_init 1 = .ok (.aload_n 1, 1) := by decide +kernel
theorem dX1_init_2 : decode cX1_init 2 = .ok (.iload_n 2, 1) := by decide +kernel
theorem dX1_init_3 : decode cX1_init 3 = .ok (.iload_n 3, 1) := by decide +kernel
theorem dX1_init_4 : decode cX1_init 4 = .ok (.iload 4, 2) := by decide +kernel
theorem dX1_init_6 : decode cX1_init 6 = .ok (.iload 5, 2) := by decide +kernel
theorem dX1_init_8 : decode cX1_init 8 = .ok (.iload 6, 2) := by decide +kernel
theorem dX1_init_10 : decode cX1_init 10 = .ok (.invokespecial 3, 3) := by decide +kernel
theorem dX1_init_13 : decode cX1_init 13 = .ok (.return_, 1) := by decide +kernel
theorem dX1_enterAct_0 : decode cX1_enterAct 0 = .ok (.aload_n 0, 1) := by decide +kernel
theorem dX1_enterAct_1 : decode cX1_enterAct 1 = .ok (.getfield 9, 3) := by decide +kernel
theorem dX1_enterAct_4 : decode cX1_enterAct 4 = .ok (.getfield 15, 3) := by decide +kernel
theorem dX1_enterAct_7 : decode cX1_enterAct 7 = .ok (.bipush 6, 2) := by decide +kernel
theorem dX1_enterAct_9 : decode cX1_enterAct 9 = .ok (.dup2, 1) := by decide +kernel
theorem dX1_enterAct_10 : decode cX1_enterAct 10 = .ok (.iaload, 1) := by decide +kernel
theorem dX1_enterAct_11 : decode cX1_enterAct 11 = .ok (.iconst 1, 1) := by decide +kernel
theorem dX1_enterAct_12 : decode cX1_enterAct 12 = .ok (.iadd, 1) := by decide +kernel
theorem dX1_enterAct_13 : decode cX1_enterAct 13 = .ok (.iastore, 1) := by decide +kernel
theorem dX1_enterAct_14 : decode cX1_enterAct 14 = .ok (.aload_n 0, 1) := by decide +kernel
theorem dX1_enterAct_15 : decode cX1_enterAct 15 = .ok (.aload_n 0, 1) := by decide +kernel
theorem dX1_enterAct_16 : decode cX1_enterAct 16 = .ok (.getfield 21, 3) := by decide +kernel
theorem dX1_enterAct_19 : decode cX1_enterAct 19 = .ok (.bipush 40, 2) := by decide +kernel
theorem dX1_enterAct_21 : decode cX1_enterAct 21 = .ok (.iadd, 1) := by decide +kernel
theorem dX1_enterAct_22 : decode cX1_enterAct 22 = .ok (.sipush 5000, 3) := by decide +kernel
theorem dX1_enterAct_25 : decode cX1_enterAct 25 = .ok (.invokestatic 25, 3) := by decide +kernel
theorem dX1_enterAct_28 : decode cX1_enterAct 28 = .ok (.putfield 21, 3) := by decide +kernel
theorem dX1_enterAct_31 : decode cX1_enterAct 31 = .ok (.aload_n 0, 1) := by decide +kernel
theorem dX1_enterAct_32 : decode cX1_enterAct 32 = .ok (.iload_n 1, 1) := by decide +kernel
theorem dX1_enterAct_33 : decode cX1_enterAct 33 = .ok (.invokespecial 31, 3) := by decide +kernel
theorem dX1_enterAct_36 : decode cX1_enterAct 36 = .ok (.return_, 1) := by decide +kernel
theorem dX1_hasAccount_0 : decode cX1_hasAccount 0 = .ok (.iconst 1, 1) := by decide +kernel
theorem dX1_hasAccount_1 : decode cX1_hasAccount 1 = .ok (.ireturn, 1) := by decide +kernel
theorem dX2_init_0 : decode cX2_init 0 = .ok (.aload_n 0, 1) := by decide +kernel
theorem dX2_init_1 : decode cX2_init 1 = .ok (.aload_n 1, 1) := by decide +kernel
theorem dX2_init_2 : decode cX2_init 2 = .ok (.iload_n 2, 1) := by decide +kernel
theorem dX2_init_3 : decode cX2_init 3 = .ok (.iload_n 3, 1) := by decide +kernel
theorem dX2_init_4 : decode cX2_init 4 = .ok (.iload 4, 2) := by decide +kernel
theorem dX2_init_6 : decode cX2_init 6 = .ok (.iload 5, 2) := by decide +kernel
theorem dX2_init_8 : decode cX2_init 8 = .ok (.iload 6, 2) := by decide +kernel
theorem dX2_init_10 : decode cX2_init 10 = .ok (.invokespecial 3, 3) := by decide +kernel
theorem dX2_init_13 : decode cX2_init 13 = .ok (.return_, 1) := by decide +kernel
theorem dX2_tollAct_0 : decode cX2_tollAct 0 = .ok (.aload_n 0, 1) := by decide +kernel
theorem dX2_tollAct_1 : decode cX2_tollAct 1 = .ok (.getfield 9, 3) := by decide +kernel
theorem dX2_tollAct_4 : decode cX2_tollAct 4 = .ok (.getfield 15, 3) := by decide +kernel
theorem dX2_tollAct_7 : decode cX2_tollAct 7 = .ok (.iconst 3, 1) := by decide +kernel
theorem dX2_tollAct_8 : decode cX2_tollAct 8 = .ok (.dup2, 1) := by decide +kernel
theorem dX2_tollAct_9 : decode cX2_tollAct 9 = .ok (.iaload, 1) := by decide +kernel
theorem dX2_tollAct_10 : decode cX2_tollAct 10 = .ok (.iconst 1, 1) := by decide +kernel
theorem dX2_tollAct_11 : decode cX2_tollAct 11 = .ok (.iadd, 1) := by decide +kernel
theorem dX2_tollAct_12 : decode cX2_tollAct 12 = .ok (.iastore, 1) := by decide +kernel
theorem dX2_tollAct_13 : decode cX2_tollAct 13 = .ok (.aload_n 0, 1) := by decide +kernel
theorem dX2_tollAct_14 : decode cX2_tollAct 14 = .ok (.iload_n 1, 1) := by decide +kernel
theorem dX2_tollAct_15 : decode cX2_tollAct 15 = .ok (.invokespecial 21, 3) := by decide +kernel
theorem dX2_tollAct_18 : decode cX2_tollAct 18 = .ok (.istore_n 2, 1) := by decide +kernel
theorem dX2_tollAct_19 : decode cX2_tollAct 19 = .ok (.iload_n 1, 1) := by decide +kernel
theorem dX2_tollAct_20 : decode cX2_tollAct 20 = .ok (.bipush 20, 2) := by decide +kernel
theorem dX2_tollAct_22 : decode cX2_tollAct 22 = .ok (.if_icmp .ge 9, 3) := by decide +kernel
theorem dX2_tollAct_25 : decode cX2_tollAct 25 = .ok (.iload_n 1, 1) := by decide +kernel
theorem dX2_tollAct_26 : decode cX2_tollAct 26 = .ok (.bipush 6, 2) := by decide +kernel
theorem dX2_tollAct_28 : decode cX2_tollAct 28 = .ok (.if_icmp .ge 7, 3) := by decide +kernel
theorem dX2_tollAct_31 : decode cX2_tollAct 31 = .ok (.iconst 2, 1) := by decide +kernel
theorem dX2_tollAct_32 : decode cX2_tollAct 32 = .ok (.iload_n 2, 1) := by decide +kernel
theorem dX2_tollAct_33 : decode cX2_tollAct 33 = .ok (.imul, 1) := by decide +kernel
theorem dX2_tollAct_34 : decode cX2_tollAct 34 = .ok (.ireturn, 1) := by decide +kernel
theorem dX2_tollAct_35 : decode cX2_tollAct 35 = .ok (.iload_n 2, 1) := by decide +kernel
theorem dX2_tollAct_36 : decode cX2_tollAct 36 = .ok (.aload_n 0, 1) := by decide +kernel
theorem dX2_tollAct_37 : decode cX2_tollAct 37 = .ok (.getfield 25, 3) := by decide +kernel
theorem dX2_tollAct_40 : decode cX2_tollAct 40 = .ok (.iadd, 1) := by decide +kernel
theorem dX2_tollAct_41 : decode cX2_tollAct 41 = .ok (.ireturn, 1) := by decide +kernel
theorem dX2_enterAct_0 : decode cX2_enterAct 0 = .ok (.aload_n 0, 1) := by decide +kernel
theorem dX2_enterAct_1 : decode cX2_enterAct 1 = .ok (.getfield 9, 3) := by decide +kernel
theorem dX2_enterAct_4 : decode cX2_enterAct 4 = .ok (.getfield 15, 3) := by decide +kernel
theorem dX2_enterAct_7 : decode cX2_enterAct 7 = .ok (.iconst 3, 1) := by decide +kernel
theorem dX2_enterAct_8 : decode cX2_enterAct 8 = .ok (.dup2, 1) := by decide +kernel
theorem dX2_enterAct_9 : decode cX2_enterAct 9 = .ok (.iaload, 1) := by decide +kernel
theorem dX2_enterAct_10 : decode cX2_enterAct 10 = .ok (.iconst 1, 1) := by decide +kernel
theorem dX2_enterAct_11 : decode cX2_enterAct 11 = .ok (.iadd, 1) := by decide +kernel
theorem dX2_enterAct_12 : decode cX2_enterAct 12 = .ok (.iastore, 1) := by decide +kernel
theorem dX2_enterAct_13 : decode cX2_enterAct 13 = .ok (.aload_n 0, 1) := by decide +kernel
theorem dX2_enterAct_14 : decode cX2_enterAct 14 = .ok (.dup, 1) := by decide +kernel
theorem dX2_enterAct_15 : decode cX2_enterAct 15 = .ok (.getfield 25, 3) := by decide +kernel
theorem dX2_enterAct_18 : decode cX2_enterAct 18 = .ok (.iconst 1, 1) := by decide +kernel
theorem dX2_enterAct_19 : decode cX2_enterAct 19 = .ok (.iadd, 1) := by decide +kernel
theorem dX2_enterAct_20 : decode cX2_enterAct 20 = .ok (.putfield 25, 3) := by decide +kernel
theorem dX2_enterAct_23 : decode cX2_enterAct 23 = .ok (.aload_n 0, 1) := by decide +kernel
theorem dX2_enterAct_24 : decode cX2_enterAct 24 = .ok (.iload_n 1, 1) := by decide +kernel
theorem dX2_enterAct_25 : decode cX2_enterAct 25 = .ok (.invokespecial 29, 3) := by decide +kernel
theorem dX2_enterAct_28 : decode cX2_enterAct 28 = .ok (.return_, 1) := by decide +kernel
theorem dX2_leaveAct_0 : decode cX2_leaveAct 0 = .ok (.aload_n 0, 1) := by decide +kernel
theorem dX2_leaveAct_1 : decode cX2_leaveAct 1 = .ok (.getfield 9, 3) := by decide +kernel
theorem dX2_leaveAct_4 : decode cX2_leaveAct 4 = .ok (.getfield 15, 3) := by decide +kernel
theorem dX2_leaveAct_7 : decode cX2_leaveAct 7 = .ok (.iconst 3, 1) := by decide +kernel
theorem dX2_leaveAct_8 : decode cX2_leaveAct 8 = .ok (.dup2, 1) := by decide +kernel
theorem dX2_leaveAct_9 : decode cX2_leaveAct 9 = .ok (.iaload, 1) := by decide +kernel
theorem dX2_leaveAct_10 : decode cX2_leaveAct 10 = .ok (.iconst 1, 1) := by decide +kernel
theorem dX2_leaveAct_11 : decode cX2_leaveAct 11 = .ok (.iadd, 1) := by decide +kernel
theorem dX2_leaveAct_12 : decode cX2_leaveAct 12 = .ok (.iastore, 1) := by decide +kernel
theorem dX2_leaveAct_13 : decode cX2_leaveAct 13 = .ok (.aload_n 0, 1) := by decide +kernel
theorem dX2_leaveAct_14 : decode cX2_leaveAct 14 = .ok (.invokespecial 33, 3) := by decide +kernel
theorem dX2_leaveAct_17 : decode cX2_leaveAct 17 = .ok (.aload_n 0, 1) := by decide +kernel
theorem dX2_leaveAct_18 : decode cX2_leaveAct 18 = .ok (.iconst 0, 1) := by decide +kernel
theorem dX2_leaveAct_19 : decode cX2_leaveAct 19 = .ok (.putfield 25, 3) := by decide +kernel
theorem dX2_leaveAct_22 : decode cX2_leaveAct 22 = .ok (.return_, 1) := by decide +kernel
theorem dX2_hasAccount_0 : decode cX2_hasAccount 0 = .ok (.iconst 1, 1) := by decide +kernel
theorem dX2_hasAccount_1 : decode cX2_hasAccount 1 = .ok (.ireturn, 1) := by decide +kernel
theorem dX3_init_0 : decode cX3_init 0 = .ok (.aload_n 0, 1) := by decide +kernel
theorem dX3_init_1 : decode cX3_init 1 = .ok (.aload_n 1, 1) := by decide +kernel
theorem dX3_init_2 : decode cX3_init 2 = .ok (.iload_n 2, 1) := by decide +kernel
theorem dX3_init_3 : decode cX3_init 3 = .ok (.iload_n 3, 1) := by decide +kernel
theorem dX3_init_4 : decode cX3_init 4 = .ok (.iload 4, 2) := by decide +kernel
theorem dX3_init_6 : decode cX3_init 6 = .ok (.iload 5, 2) := by decide +kernel
theorem dX3_init_8 : decode cX3_init 8 = .ok (.iload 6, 2) := by decide +kernel
theorem dX3_init_10 : decode cX3_init 10 = .ok (.invokespecial 3, 3) := by decide +kernel
theorem dX3_init_13 : decode cX3_init 13 = .ok (.return_, 1) := by decide +kernel
theorem dX3_tollAct_0 : decode cX3_tollAct 0 = .ok (.aload_n 0, 1) := by decide +kernel
theorem dX3_tollAct_1 : decode cX3_tollAct 1 = .ok (.getfield 9, 3) := by decide +kernel
theorem dX3_tollAct_4 : decode cX3_tollAct 4 = .ok (.getfield 15, 3) := by decide +kernel
theorem dX3_tollAct_7 : decode cX3_tollAct 7 = .ok (.iconst 2, 1) := by decide +kernel
theorem dX3_tollAct_8 : decode cX3_tollAct 8 = .ok (.dup2, 1) := by decide +kernel
theorem dX3_tollAct_9 : decode cX3_tollAct 9 = .ok (.iaload, 1) := by decide +kernel
theorem dX3_tollAct_10 : decode cX3_tollAct 10 = .ok (.iconst 1, 1) := by decide +kernel
theorem dX3_tollAct_11 : decode cX3_tollAct 11 = .ok (.iadd, 1) := by decide +kernel
theorem dX3_tollAct_12 : decode cX3_tollAct 12 = .ok (.iastore, 1) := by decide +kernel
theorem dX3_tollAct_13 : decode cX3_tollAct 13 = .ok (.aload_n 0, 1) := by decide +kernel
theorem dX3_tollAct_14 : decode cX3_tollAct 14 = .ok (.iload_n 1, 1) := by decide +kernel
theorem dX3_tollAct_15 : decode cX3_tollAct 15 = .ok (.invokespecial 21, 3) := by decide +kernel
theorem dX3_tollAct_18 : decode cX3_tollAct 18 = .ok (.bipush 10, 2) := by decide +kernel
theorem dX3_tollAct_20 : decode cX3_tollAct 20 = .ok (.iadd, 1) := by decide +kernel
theorem dX3_tollAct_21 : decode cX3_tollAct 21 = .ok (.ireturn, 1) := by decide +kernel
theorem dX3_rebateAct_0 : decode cX3_rebateAct 0 = .ok (.aload_n 0, 1) := by decide +kernel
theorem dX3_rebateAct_1 : decode cX3_rebateAct 1 = .ok (.getfield 9, 3) := by decide +kernel
theorem dX3_rebateAct_4 : decode cX3_rebateAct 4 = .ok (.getfield 15, 3) := by decide +kernel
theorem dX3_rebateAct_7 : decode cX3_rebateAct 7 = .ok (.iconst 2, 1) := by decide +kernel
theorem dX3_rebateAct_8 : decode cX3_rebateAct 8 = .ok (.dup2, 1) := by decide +kernel
theorem dX3_rebateAct_9 : decode cX3_rebateAct 9 = .ok (.iaload, 1) := by decide +kernel
theorem dX3_rebateAct_10 : decode cX3_rebateAct 10 = .ok (.iconst 1, 1) := by decide +kernel
theorem dX3_rebateAct_11 : decode cX3_rebateAct 11 = .ok (.iadd, 1) := by decide +kernel
theorem dX3_rebateAct_12 : decode cX3_rebateAct 12 = .ok (.iastore, 1) := by decide +kernel
theorem dX3_rebateAct_13 : decode cX3_rebateAct 13 = .ok (.aload_n 0, 1) := by decide +kernel
theorem dX3_rebateAct_14 : decode cX3_rebateAct 14 = .ok (.invokespecial 25, 3) := by decide +kernel
theorem dX3_rebateAct_17 : decode cX3_rebateAct 17 = .ok (.iconst 5, 1) := by decide +kernel
theorem dX3_rebateAct_18 : decode cX3_rebateAct 18 = .ok (.iadd, 1) := by decide +kernel
theorem dX3_rebateAct_19 : decode cX3_rebateAct 19 = .ok (.bipush 100, 2) := by decide +kernel
theorem dX3_rebateAct_21 : decode cX3_rebateAct 21 = .ok (.invokestatic 29, 3) := by decide +kernel
theorem dX3_rebateAct_24 : decode cX3_rebateAct 24 = .ok (.ireturn, 1) := by decide +kernel
theorem dX4_init_0 : decode cX4_init 0 = .ok (.aload_n 0, 1) := by decide +kernel
theorem dX4_init_1 : decode cX4_init 1 = .ok (.invokespecial 3, 3) := by decide +kernel
theorem dX4_init_4 : decode cX4_init 4 = .ok (.aload_n 0, 1) := by decide +kernel
theorem dX4_init_5 : decode cX4_init 5 = .ok (.aload_n 1, 1) := by decide +kernel
theorem dX4_init_6 : decode cX4_init 6 = .ok (.putfield 9, 3) := by decide +kernel
theorem dX4_init_9 : decode cX4_init 9 = .ok (.aload_n 0, 1) := by decide +kernel
theorem dX4_init_10 : decode cX4_init 10 = .ok (.iload_n 2, 1) := by decide +kernel
theorem dX4_init_11 : decode cX4_init 11 = .ok (.putfield 15, 3) := by decide +kernel
theorem dX4_init_14 : decode cX4_init 14 = .ok (.aload_n 0, 1) := by decide +kernel
theorem dX4_init_15 : decode cX4_init 15 = .ok (.iload_n 3, 1) := by decide +kernel
theorem dX4_init_16 : decode cX4_init 16 = .ok (.putfield 19, 3) := by decide +kernel
theorem dX4_init_19 : decode cX4_init 19 = .ok (.aload_n 0, 1) := by decide +kernel
theorem dX4_init_20 : decode cX4_init 20 = .ok (.iload 4, 2) := by decide +kernel
theorem dX4_init_22 : decode cX4_init 22 = .ok (.putfield 22, 3) := by decide +kernel
theorem dX4_init_25 : decode cX4_init 25 = .ok (.aload_n 0, 1) := by decide +kernel
theorem dX4_init_26 : decode cX4_init 26 = .ok (.iload 6, 2) := by decide +kernel
theorem dX4_init_28 : decode cX4_init 28 = .ok (.putfield 25, 3) := by decide +kernel
theorem dX4_init_31 : decode cX4_init 31 = .ok (.aload_n 0, 1) := by decide +kernel
theorem dX4_init_32 : decode cX4_init 32 = .ok (.iload 5, 2) := by decide +kernel
theorem dX4_init_34 : decode cX4_init 34 = .ok (.putfield 28, 3) := by decide +kernel
theorem dX4_init_37 : decode cX4_init 37 = .ok (.aload_n 0, 1) := by decide +kernel
theorem dX4_init_38 : decode cX4_init 38 = .ok (.iconst 0, 1) := by decide +kernel
theorem dX4_init_39 : decode cX4_init 39 = .ok (.putfield 31, 3) := by decide +kernel
theorem dX4_init_42 : decode cX4_init 42 = .ok (.aload_n 0, 1) := by decide +kernel
theorem dX4_init_43 : decode cX4_init 43 = .ok (.iconst 0, 1) := by decide +kernel
theorem dX4_init_44 : decode cX4_init 44 = .ok (.putfield 34, 3) := by decide +kernel
theorem dX4_init_47 : decode cX4_init 47 = .ok (.aload_n 0, 1) := by decide +kernel
theorem dX4_init_48 : decode cX4_init 48 = .ok (.iconst 0, 1) := by decide +kernel
theorem dX4_init_49 : decode cX4_init 49 = .ok (.putfield 37, 3) := by decide +kernel
theorem dX4_init_52 : decode cX4_init 52 = .ok (.aload_n 0, 1) := by decide +kernel
theorem dX4_init_53 : decode cX4_init 53 = .ok (.iconst 0, 1) := by decide +kernel
theorem dX4_init_54 : decode cX4_init 54 = .ok (.putfield 40, 3) := by decide +kernel
theorem dX4_init_57 : decode cX4_init 57 = .ok (.return_, 1) := by decide +kernel
theorem dX4_weightAct_0 : decode cX4_weightAct 0 = .ok (.aload_n 0, 1) := by decide +kernel
theorem dX4_weightAct_1 : decode cX4_weightAct 1 = .ok (.getfield 9, 3) := by decide +kernel
theorem dX4_weightAct_4 : decode cX4_weightAct 4 = .ok (.getfield 43, 3) := by decide +kernel
theorem dX4_weightAct_7 : decode cX4_weightAct 7 = .ok (.iconst 0, 1) := by decide +kernel
theorem dX4_weightAct_8 : decode cX4_weightAct 8 = .ok (.dup2, 1) := by decide +kernel
theorem dX4_weightAct_9 : decode cX4_weightAct 9 = .ok (.iaload, 1) := by decide +kernel
theorem dX4_weightAct_10 : decode cX4_weightAct 10 = .ok (.iconst 1, 1) := by decide +kernel
theorem dX4_weightAct_11 : decode cX4_weightAct 11 = .ok (.iadd, 1) := by decide +kernel
theorem dX4_weightAct_12 : decode cX4_weightAct 12 = .ok (.iastore, 1) := by decide +kernel
theorem dX4_weightAct_13 : decode cX4_weightAct 13 = .ok (.aload_n 0, 1) := by decide +kernel
theorem dX4_weightAct_14 : decode cX4_weightAct 14 = .ok (.getfield 22, 3) := by decide +kernel
theorem dX4_weightAct_17 : decode cX4_weightAct 17 = .ok (.ireturn, 1) := by decide +kernel
theorem dX4_tollAct_0 : decode cX4_tollAct 0 = .ok (.aload_n 0, 1) := by decide +kernel
theorem dX4_tollAct_1 : decode cX4_tollAct 1 = .ok (.getfield 9, 3) := by decide +kernel
theorem dX4_tollAct_4 : decode cX4_tollAct 4 = .ok (.getfield 43, 3) := by decide +kernel
theorem dX4_tollAct_7 : decode cX4_tollAct 7 = .ok (.iconst 0, 1) := by decide +kernel
theorem dX4_tollAct_8 : decode cX4_tollAct 8 = .ok (.dup2, 1) := by decide +kernel
theorem dX4_tollAct_9 : decode cX4_tollAct 9 = .ok (.iaload, 1) := by decide +kernel
theorem dX4_tollAct_10 : decode cX4_tollAct 10 = .ok (.iconst 1, 1) := by decide +kernel
theorem dX4_tollAct_11 : decode cX4_tollAct 11 = .ok (.iadd, 1) := by decide +kernel
theorem dX4_tollAct_12 : decode cX4_tollAct 12 = .ok (.iastore, 1) := by decide +kernel
theorem dX4_tollAct_13 : decode cX4_tollAct 13 = .ok (.iconst 5, 1) := by decide +kernel
theorem dX4_tollAct_14 : decode cX4_tollAct 14 = .ok (.aload_n 0, 1) := by decide +kernel
theorem dX4_tollAct_15 : decode cX4_tollAct 15 = .ok (.invokevirtual 49, 3) := by decide +kernel
theorem dX4_tollAct_18 : decode cX4_tollAct 18 = .ok (.bipush 100, 2) := by decide +kernel
theorem dX4_tollAct_20 : decode cX4_tollAct 20 = .ok (.idiv, 1) := by decide +kernel
theorem dX4_tollAct_21 : decode cX4_tollAct 21 = .ok (.iadd, 1) := by decide +kernel
theorem dX4_tollAct_22 : decode cX4_tollAct 22 = .ok (.ireturn, 1) := by decide +kernel
theorem dX4_fitAct_0 : decode cX4_fitAct 0 = .ok (.aload_n 0, 1) := by decide +kernel
theorem dX4_fitAct_1 : decode cX4_fitAct 1 = .ok (.getfield 9, 3) := by decide +kernel
theorem dX4_fitAct_4 : decode cX4_fitAct 4 = .ok (.getfield 43, 3) := by decide +kernel
theorem dX4_fitAct_7 : decode cX4_fitAct 7 = .ok (.iconst 0, 1) := by decide +kernel
theorem dX4_fitAct_8 : decode cX4_fitAct 8 = .ok (.dup2, 1) := by decide +kernel
theorem dX4_fitAct_9 : decode cX4_fitAct 9 = .ok (.iaload, 1) := by decide +kernel
theorem dX4_fitAct_10 : decode cX4_fitAct 10 = .ok (.iconst 1, 1) := by decide +kernel
theorem dX4_fitAct_11 : decode cX4_fitAct 11 = .ok (.iadd, 1) := by decide +kernel
theorem dX4_fitAct_12 : decode cX4_fitAct 12 = .ok (.iastore, 1) := by decide +kernel
theorem dX4_fitAct_13 : decode cX4_fitAct 13 = .ok (.iconst 0, 1) := by decide +kernel
theorem dX4_fitAct_14 : decode cX4_fitAct 14 = .ok (.istore_n 1, 1) := by decide +kernel
theorem dX4_fitAct_15 : decode cX4_fitAct 15 = .ok (.iconst 0, 1) := by decide +kernel
theorem dX4_fitAct_16 : decode cX4_fitAct 16 = .ok (.istore_n 2, 1) := by decide +kernel
theorem dX4_fitAct_17 : decode cX4_fitAct 17 = .ok (.iload_n 2, 1) := by decide +kernel
theorem dX4_fitAct_18 : decode cX4_fitAct 18 = .ok (.aload_n 0, 1) := by decide +kernel
theorem dX4_fitAct_19 : decode cX4_fitAct 19 = .ok (.getfield 9, 3) := by decide +kernel
theorem dX4_fitAct_22 : decode cX4_fitAct 22 = .ok (.getfield 53, 3) := by decide +kernel
theorem dX4_fitAct_25 : decode cX4_fitAct 25 = .ok (.arraylength, 1) := by decide +kernel
theorem dX4_fitAct_26 : decode cX4_fitAct 26 = .ok (.if_icmp .ge 30, 3) := by decide +kernel
theorem dX4_fitAct_29 : decode cX4_fitAct 29 = .ok (.aload_n 0, 1) := by decide +kernel
theorem dX4_fitAct_30 : decode cX4_fitAct 30 = .ok (.getfield 9, 3) := by decide +kernel
theorem dX4_fitAct_33 : decode cX4_fitAct 33 = .ok (.getfield 53, 3) := by decide +kernel
theorem dX4_fitAct_36 : decode cX4_fitAct 36 = .ok (.iload_n 2, 1) := by decide +kernel
theorem dX4_fitAct_37 : decode cX4_fitAct 37 = .ok (.aaload, 1) := by decide +kernel
theorem dX4_fitAct_38 : decode cX4_fitAct 38 = .ok (.astore_n 3, 1) := by decide +kernel
theorem dX4_fitAct_39 : decode cX4_fitAct 39 = .ok (.aload_n 3, 1) := by decide +kernel
theorem dX4_fitAct_40 : decode cX4_fitAct 40 = .ok (.ifnull 10, 3) := by decide +kernel
theorem dX4_fitAct_43 : decode cX4_fitAct 43 = .ok (.iload_n 1, 1) := by decide +kernel
theorem dX4_fitAct_44 : decode cX4_fitAct 44 = .ok (.aload_n 3, 1) := by decide +kernel
theorem dX4_fitAct_45 : decode cX4_fitAct 45 = .ok (.invokevirtual 49, 3) := by decide +kernel
theorem dX4_fitAct_48 : decode cX4_fitAct 48 = .ok (.iadd, 1) := by decide +kernel
theorem dX4_fitAct_49 : decode cX4_fitAct 49 = .ok (.istore_n 1, 1) := by decide +kernel
theorem dX4_fitAct_50 : decode cX4_fitAct 50 = .ok (.iinc 2 1, 3) := by decide +kernel
theorem dX4_fitAct_53 : decode cX4_fitAct 53 = .ok (.goto (-36), 3) := by decide +kernel
theorem dX4_fitAct_56 : decode cX4_fitAct 56 = .ok (.iload_n 1, 1) := by decide +kernel
theorem dX4_fitAct_57 : decode cX4_fitAct 57 = .ok (.aload_n 0, 1) := by decide +kernel
theorem dX4_fitAct_58 : decode cX4_fitAct 58 = .ok (.invokevirtual 49, 3) := by decide +kernel
theorem dX4_fitAct_61 : decode cX4_fitAct 61 = .ok (.iadd, 1) := by decide +kernel
theorem dX4_fitAct_62 : decode cX4_fitAct 62 = .ok (.istore_n 1, 1) := by decide +kernel
theorem dX4_fitAct_63 : decode cX4_fitAct 63 = .ok (.aload_n 0, 1) := by decide +kernel
theorem dX4_fitAct_64 : decode cX4_fitAct 64 = .ok (.getfield 9, 3) := by decide +kernel
theorem dX4_fitAct_67 : decode cX4_fitAct 67 = .ok (.getfield 57, 3) := by decide +kernel
theorem dX4_fitAct_70 : decode cX4_fitAct 70 = .ok (.ifCond .eq 18, 3) := by decide +kernel
theorem dX4_fitAct_73 : decode cX4_fitAct 73 = .ok (.iload_n 1, 1) := by decide +kernel
theorem dX4_fitAct_74 : decode cX4_fitAct 74 = .ok (.aload_n 0, 1) := by decide +kernel
theorem dX4_fitAct_75 : decode cX4_fitAct 75 = .ok (.getfield 9, 3) := by decide +kernel
theorem dX4_fitAct_78 : decode cX4_fitAct 78 = .ok (.getfield 61, 3) := by decide +kernel
theorem dX4_fitAct_81 : decode cX4_fitAct 81 = .ok (.if_icmp .gt 7, 3) := by decide +kernel
theorem dX4_fitAct_84 : decode cX4_fitAct 84 = .ok (.iconst 1, 1) := by decide +kernel
theorem dX4_fitAct_85 : decode cX4_fitAct 85 = .ok (.goto 4, 3) := by decide +kernel
theorem dX4_fitAct_88 : decode cX4_fitAct 88 = .ok (.iconst 0, 1) := by decide +kernel
theorem dX4_fitAct_89 : decode cX4_fitAct 89 = .ok (.ireturn, 1) := by decide +kernel
theorem dX4_enterAct_0 : decode cX4_enterAct 0 = .ok (.aload_n 0, 1) := by decide +kernel
theorem dX4_enterAct_1 : decode cX4_enterAct 1 = .ok (.getfield 9, 3) := by decide +kernel
theorem dX4_enterAct_4 : decode cX4_enterAct 4 = .ok (.getfield 43, 3) := by decide +kernel
theorem dX4_enterAct_7 : decode cX4_enterAct 7 = .ok (.iconst 0, 1) := by decide +kernel
theorem dX4_enterAct_8 : decode cX4_enterAct 8 = .ok (.dup2, 1) := by decide +kernel
theorem dX4_enterAct_9 : decode cX4_enterAct 9 = .ok (.iaload, 1) := by decide +kernel
theorem dX4_enterAct_10 : decode cX4_enterAct 10 = .ok (.iconst 1, 1) := by decide +kernel
theorem dX4_enterAct_11 : decode cX4_enterAct 11 = .ok (.iadd, 1) := by decide +kernel
theorem dX4_enterAct_12 : decode cX4_enterAct 12 = .ok (.iastore, 1) := by decide +kernel
theorem dX4_enterAct_13 : decode cX4_enterAct 13 = .ok (.aload_n 0, 1) := by decide +kernel
theorem dX4_enterAct_14 : decode cX4_enterAct 14 = .ok (.invokevirtual 64, 3) := by decide +kernel
theorem dX4_enterAct_17 : decode cX4_enterAct 17 = .ok (.ifCond .ne 26, 3) := by decide +kernel
theorem dX4_enterAct_20 : decode cX4_enterAct 20 = .ok (.aload_n 0, 1) := by decide +kernel
theorem dX4_enterAct_21 : decode cX4_enterAct 21 = .ok (.getfield 9, 3) := by decide +kernel
theorem dX4_enterAct_24 : decode cX4_enterAct 24 = .ok (.dup, 1) := by decide +kernel
theorem dX4_enterAct_25 : decode cX4_enterAct 25 = .ok (.getfield 68, 3) := by decide +kernel
theorem dX4_enterAct_28 : decode cX4_enterAct 28 = .ok (.iconst 1, 1) := by decide +kernel
theorem dX4_enterAct_29 : decode cX4_enterAct 29 = .ok (.iadd, 1) := by decide +kernel
theorem dX4_enterAct_30 : decode cX4_enterAct 30 = .ok (.putfield 68, 3) := by decide +kernel
theorem dX4_enterAct_33 : decode cX4_enterAct 33 = .ok (.new 71, 3) := by decide +kernel
theorem dX4_enterAct_36 : decode cX4_enterAct 36 = .ok (.dup, 1) := by decide +kernel
theorem dX4_enterAct_37 : decode cX4_enterAct 37 = .ok (.ldc 73, 2) := by decide +kernel
theorem dX4_enterAct_39 : decode cX4_enterAct 39 = .ok (.invokespecial 75, 3) := by decide +kernel
theorem dX4_enterAct_42 : decode cX4_enterAct 42 = .ok (.athrow, 1) := by decide +kernel
theorem dX4_enterAct_43 : decode cX4_enterAct 43 = .ok (.aload_n 0, 1) := by decide +kernel
theorem dX4_enterAct_44 : decode cX4_enterAct 44 = .ok (.dup, 1) := by decide +kernel
theorem dX4_enterAct_45 : decode cX4_enterAct 45 = .ok (.getfield 34, 3) := by decide +kernel
theorem dX4_enterAct_48 : decode cX4_enterAct 48 = .ok (.aload_n 0, 1) := by decide +kernel
theorem dX4_enterAct_49 : decode cX4_enterAct 49 = .ok (.iload_n 1, 1) := by decide +kernel
theorem dX4_enterAct_50 : decode cX4_enterAct 50 = .ok (.invokevirtual 78, 3) := by decide +kernel
theorem dX4_enterAct_53 : decode cX4_enterAct 53 = .ok (.iadd, 1) := by decide +kernel
theorem dX4_enterAct_54 : decode cX4_enterAct 54 = .ok (.putfield 34, 3) := by decide +kernel
theorem dX4_enterAct_57 : decode cX4_enterAct 57 = .ok (.aload_n 0, 1) := by decide +kernel
theorem dX4_enterAct_58 : decode cX4_enterAct 58 = .ok (.dup, 1) := by decide +kernel
theorem dX4_enterAct_59 : decode cX4_enterAct 59 = .ok (.getfield 37, 3) := by decide +kernel
theorem dX4_enterAct_62 : decode cX4_enterAct 62 = .ok (.iconst 1, 1) := by decide +kernel
theorem dX4_enterAct_63 : decode cX4_enterAct 63 = .ok (.iadd, 1) := by decide +kernel
theorem dX4_enterAct_64 : decode cX4_enterAct 64 = .ok (.putfield 37, 3) := by decide +kernel
theorem dX4_enterAct_67 : decode cX4_enterAct 67 = .ok (.aload_n 0, 1) := by decide +kernel
theorem dX4_enterAct_68 : decode cX4_enterAct 68 = .ok (.iconst 1, 1) := by decide +kernel
theorem dX4_enterAct_69 : decode cX4_enterAct 69 = .ok (.putfield 31, 3) := by decide +kernel
theorem dX4_enterAct_72 : decode cX4_enterAct 72 = .ok (.aload_n 0, 1) := by decide +kernel
theorem dX4_enterAct_73 : decode cX4_enterAct 73 = .ok (.getfield 9, 3) := by decide +kernel
theorem dX4_enterAct_76 : decode cX4_enterAct 76 = .ok (.aload_n 0, 1) := by decide +kernel
theorem dX4_enterAct_77 : decode cX4_enterAct 77 = .ok (.invokevirtual 82, 3) := by decide +kernel
theorem dX4_enterAct_80 : decode cX4_enterAct 80 = .ok (.return_, 1) := by decide +kernel
theorem dX4_leaveAct_0 : decode cX4_leaveAct 0 = .ok (.aload_n 0, 1) := by decide +kernel
theorem dX4_leaveAct_1 : decode cX4_leaveAct 1 = .ok (.getfield 9, 3) := by decide +kernel
theorem dX4_leaveAct_4 : decode cX4_leaveAct 4 = .ok (.getfield 43, 3) := by decide +kernel
theorem dX4_leaveAct_7 : decode cX4_leaveAct 7 = .ok (.iconst 0, 1) := by decide +kernel
theorem dX4_leaveAct_8 : decode cX4_leaveAct 8 = .ok (.dup2, 1) := by decide +kernel
theorem dX4_leaveAct_9 : decode cX4_leaveAct 9 = .ok (.iaload, 1) := by decide +kernel
theorem dX4_leaveAct_10 : decode cX4_leaveAct 10 = .ok (.iconst 1, 1) := by decide +kernel
theorem dX4_leaveAct_11 : decode cX4_leaveAct 11 = .ok (.iadd, 1) := by decide +kernel
theorem dX4_leaveAct_12 : decode cX4_leaveAct 12 = .ok (.iastore, 1) := by decide +kernel
theorem dX4_leaveAct_13 : decode cX4_leaveAct 13 = .ok (.aload_n 0, 1) := by decide +kernel
theorem dX4_leaveAct_14 : decode cX4_leaveAct 14 = .ok (.iconst 0, 1) := by decide +kernel
theorem dX4_leaveAct_15 : decode cX4_leaveAct 15 = .ok (.putfield 31, 3) := by decide +kernel
theorem dX4_leaveAct_18 : decode cX4_leaveAct 18 = .ok (.aload_n 0, 1) := by decide +kernel
theorem dX4_leaveAct_19 : decode cX4_leaveAct 19 = .ok (.getfield 9, 3) := by decide +kernel
theorem dX4_leaveAct_22 : decode cX4_leaveAct 22 = .ok (.aload_n 0, 1) := by decide +kernel
theorem dX4_leaveAct_23 : decode cX4_leaveAct 23 = .ok (.invokevirtual 86, 3) := by decide +kernel
theorem dX4_leaveAct_26 : decode cX4_leaveAct 26 = .ok (.return_, 1) := by decide +kernel
theorem dX4_rebateAct_0 : decode cX4_rebateAct 0 = .ok (.aload_n 0, 1) := by decide +kernel
theorem dX4_rebateAct_1 : decode cX4_rebateAct 1 = .ok (.getfield 9, 3) := by decide +kernel
theorem dX4_rebateAct_4 : decode cX4_rebateAct 4 = .ok (.getfield 43, 3) := by decide +kernel
theorem dX4_rebateAct_7 : decode cX4_rebateAct 7 = .ok (.iconst 0, 1) := by decide +kernel
theorem dX4_rebateAct_8 : decode cX4_rebateAct 8 = .ok (.dup2, 1) := by decide +kernel
theorem dX4_rebateAct_9 : decode cX4_rebateAct 9 = .ok (.iaload, 1) := by decide +kernel
theorem dX4_rebateAct_10 : decode cX4_rebateAct 10 = .ok (.iconst 1, 1) := by decide +kernel
theorem dX4_rebateAct_11 : decode cX4_rebateAct 11 = .ok (.iadd, 1) := by decide +kernel
theorem dX4_rebateAct_12 : decode cX4_rebateAct 12 = .ok (.iastore, 1) := by decide +kernel
theorem dX4_rebateAct_13 : decode cX4_rebateAct 13 = .ok (.aload_n 0, 1) := by decide +kernel
theorem dX4_rebateAct_14 : decode cX4_rebateAct 14 = .ok (.getfield 25, 3) := by decide +kernel
theorem dX4_rebateAct_17 : decode cX4_rebateAct 17 = .ok (.ireturn, 1) := by decide +kernel
theorem dX4_hasAccount_0 : decode cX4_hasAccount 0 = .ok (.iconst 0, 1) := by decide +kernel
theorem dX4_hasAccount_1 : decode cX4_hasAccount 1 = .ok (.ireturn, 1) := by decide +kernel
theorem dX4_billOf_0 : decode cX4_billOf 0 = .ok (.aload_n 0, 1) := by decide +kernel
theorem dX4_billOf_1 : decode cX4_billOf 1 = .ok (.iload_n 1, 1) := by decide +kernel
theorem dX4_billOf_2 : decode cX4_billOf 2 = .ok (.invokevirtual 78, 3) := by decide +kernel
theorem dX4_billOf_5 : decode cX4_billOf 5 = .ok (.istore_n 2, 1) := by decide +kernel
theorem dX4_billOf_6 : decode cX4_billOf 6 = .ok (.iload_n 2, 1) := by decide +kernel
theorem dX4_billOf_7 : decode cX4_billOf 7 = .ok (.iload_n 2, 1) := by decide +kernel
theorem dX4_billOf_8 : decode cX4_billOf 8 = .ok (.aload_n 0, 1) := by decide +kernel
theorem dX4_billOf_9 : decode cX4_billOf 9 = .ok (.invokevirtual 89, 3) := by decide +kernel
theorem dX4_billOf_12 : decode cX4_billOf 12 = .ok (.imul, 1) := by decide +kernel
theorem dX4_billOf_13 : decode cX4_billOf 13 = .ok (.bipush 100, 2) := by decide +kernel
theorem dX4_billOf_15 : decode cX4_billOf 15 = .ok (.idiv, 1) := by decide +kernel
theorem dX4_billOf_16 : decode cX4_billOf 16 = .ok (.isub, 1) := by decide +kernel
theorem dX4_billOf_17 : decode cX4_billOf 17 = .ok (.ireturn, 1) := by decide +kernel
theorem dX4_monthOf_0 : decode cX4_monthOf 0 = .ok (.bipush 20, 2) := by decide +kernel
theorem dX4_monthOf_2 : decode cX4_monthOf 2 = .ok (.iload_n 1, 1) := by decide +kernel
theorem dX4_monthOf_3 : decode cX4_monthOf 3 = .ok (.imul, 1) := by decide +kernel
theorem dX4_monthOf_4 : decode cX4_monthOf 4 = .ok (.aload_n 0, 1) := by decide +kernel
theorem dX4_monthOf_5 : decode cX4_monthOf 5 = .ok (.bipush 12, 2) := by decide +kernel
theorem dX4_monthOf_7 : decode cX4_monthOf 7 = .ok (.invokevirtual 92, 3) := by decide +kernel
theorem dX4_monthOf_10 : decode cX4_monthOf 10 = .ok (.iadd, 1) := by decide +kernel
theorem dX4_monthOf_11 : decode cX4_monthOf 11 = .ok (.ireturn, 1) := by decide +kernel
theorem dX5_init_0 : decode cX5_init 0 = .ok (.aload_n 0, 1) := by decide +kernel
theorem dX5_init_1 : decode cX5_init 1 = .ok (.aload_n 1, 1) := by decide +kernel
theorem dX5_init_2 : decode cX5_init 2 = .ok (.iload_n 2, 1) := by decide +kernel
theorem dX5_init_3 : decode cX5_init 3 = .ok (.iload_n 3, 1) := by decide +kernel
theorem dX5_init_4 : decode cX5_init 4 = .ok (.iload 4, 2) := by decide +kernel
theorem dX5_init_6 : decode cX5_init 6 = .ok (.iload 5, 2) := by decide +kernel
theorem dX5_init_8 : decode cX5_init 8 = .ok (.iload 6, 2) := by decide +kernel
theorem dX5_init_10 : decode cX5_init 10 = .ok (.invokespecial 3, 3) := by decide +kernel
theorem dX5_init_13 : decode cX5_init 13 = .ok (.return_, 1) := by decide +kernel
theorem dX5_tollAct_0 : decode cX5_tollAct 0 = .ok (.aload_n 0, 1) := by decide +kernel
theorem dX5_tollAct_1 : decode cX5_tollAct 1 = .ok (.getfield 9, 3) := by decide +kernel
theorem dX5_tollAct_4 : decode cX5_tollAct 4 = .ok (.getfield 15, 3) := by decide +kernel
theorem dX5_tollAct_7 : decode cX5_tollAct 7 = .ok (.bipush 8, 2) := by decide +kernel
theorem dX5_tollAct_9 : decode cX5_tollAct 9 = .ok (.dup2, 1) := by decide +kernel
theorem dX5_tollAct_10 : decode cX5_tollAct 10 = .ok (.iaload, 1) := by decide +kernel
theorem dX5_tollAct_11 : decode cX5_tollAct 11 = .ok (.iconst 1, 1) := by decide +kernel
theorem dX5_tollAct_12 : decode cX5_tollAct 12 = .ok (.iadd, 1) := by decide +kernel
theorem dX5_tollAct_13 : decode cX5_tollAct 13 = .ok (.iastore, 1) := by decide +kernel
theorem dX5_tollAct_14 : decode cX5_tollAct 14 = .ok (.aload_n 0, 1) := by decide +kernel
theorem dX5_tollAct_15 : decode cX5_tollAct 15 = .ok (.getfield 21, 3) := by decide +kernel
theorem dX5_tollAct_18 : decode cX5_tollAct 18 = .ok (.ifCond .ne 26, 3) := by decide +kernel
theorem dX5_tollAct_21 : decode cX5_tollAct 21 = .ok (.aload_n 0, 1) := by decide +kernel
theorem dX5_tollAct_22 : decode cX5_tollAct 22 = .ok (.getfield 9, 3) := by decide +kernel
theorem dX5_tollAct_25 : decode cX5_tollAct 25 = .ok (.dup, 1) := by decide +kernel
theorem dX5_tollAct_26 : decode cX5_tollAct 26 = .ok (.getfield 25, 3) := by decide +kernel
theorem dX5_tollAct_29 : decode cX5_tollAct 29 = .ok (.iconst 1, 1) := by decide +kernel
theorem dX5_tollAct_30 : decode cX5_tollAct 30 = .ok (.iadd, 1) := by decide +kernel
theorem dX5_tollAct_31 : decode cX5_tollAct 31 = .ok (.putfield 25, 3) := by decide +kernel
theorem dX5_tollAct_34 : decode cX5_tollAct 34 = .ok (.new 28, 3) := by decide +kernel
theorem dX5_tollAct_37 : decode cX5_tollAct 37 = .ok (.dup, 1) := by decide +kernel
theorem dX5_tollAct_38 : decode cX5_tollAct 38 = .ok (.ldc 30, 2) := by decide +kernel
theorem dX5_tollAct_40 : decode cX5_tollAct 40 = .ok (.invokespecial 32, 3) := by decide +kernel
theorem dX5_tollAct_43 : decode cX5_tollAct 43 = .ok (.athrow, 1) := by decide +kernel
theorem dX5_tollAct_44 : decode cX5_tollAct 44 = .ok (.bipush 100, 2) := by decide +kernel
theorem dX5_tollAct_46 : decode cX5_tollAct 46 = .ok (.aload_n 0, 1) := by decide +kernel
theorem dX5_tollAct_47 : decode cX5_tollAct 47 = .ok (.getfield 21, 3) := by decide +kernel
theorem dX5_tollAct_50 : decode cX5_tollAct 50 = .ok (.idiv, 1) := by decide +kernel
theorem dX5_tollAct_51 : decode cX5_tollAct 51 = .ok (.ireturn, 1) := by decide +kernel
theorem dX5_fitAct_0 : decode cX5_fitAct 0 = .ok (.aload_n 0, 1) := by decide +kernel
theorem dX5_fitAct_1 : decode cX5_fitAct 1 = .ok (.getfield 9, 3) := by decide +kernel
theorem dX5_fitAct_4 : decode cX5_fitAct 4 = .ok (.getfield 15, 3) := by decide +kernel
theorem dX5_fitAct_7 : decode cX5_fitAct 7 = .ok (.bipush 8, 2) := by decide +kernel
theorem dX5_fitAct_9 : decode cX5_fitAct 9 = .ok (.dup2, 1) := by decide +kernel
theorem dX5_fitAct_10 : decode cX5_fitAct 10 = .ok (.iaload, 1) := by decide +kernel
theorem dX5_fitAct_11 : decode cX5_fitAct 11 = .ok (.iconst 1, 1) := by decide +kernel
theorem dX5_fitAct_12 : decode cX5_fitAct 12 = .ok (.iadd, 1) := by decide +kernel
theorem dX5_fitAct_13 : decode cX5_fitAct 13 = .ok (.iastore, 1) := by decide +kernel
theorem dX5_fitAct_14 : decode cX5_fitAct 14 = .ok (.aload_n 0, 1) := by decide +kernel
theorem dX5_fitAct_15 : decode cX5_fitAct 15 = .ok (.getfield 9, 3) := by decide +kernel
theorem dX5_fitAct_18 : decode cX5_fitAct 18 = .ok (.getfield 35, 3) := by decide +kernel
theorem dX5_fitAct_21 : decode cX5_fitAct 21 = .ok (.ireturn, 1) := by decide +kernel
theorem dX5_enterAct_0 : decode cX5_enterAct 0 = .ok (.aload_n 0, 1) := by decide +kernel
theorem dX5_enterAct_1 : decode cX5_enterAct 1 = .ok (.getfield 9, 3) := by decide +kernel
theorem dX5_enterAct_4 : decode cX5_enterAct 4 = .ok (.getfield 15, 3) := by decide +kernel
theorem dX5_enterAct_7 : decode cX5_enterAct 7 = .ok (.bipush 8, 2) := by decide +kernel
theorem dX5_enterAct_9 : decode cX5_enterAct 9 = .ok (.dup2, 1) := by decide +kernel
theorem dX5_enterAct_10 : decode cX5_enterAct 10 = .ok (.iaload, 1) := by decide +kernel
theorem dX5_enterAct_11 : decode cX5_enterAct 11 = .ok (.iconst 1, 1) := by decide +kernel
theorem dX5_enterAct_12 : decode cX5_enterAct 12 = .ok (.iadd, 1) := by decide +kernel
theorem dX5_enterAct_13 : decode cX5_enterAct 13 = .ok (.iastore, 1) := by decide +kernel
theorem dX5_enterAct_14 : decode cX5_enterAct 14 = .ok (.iconst 0, 1) := by decide +kernel
theorem dX5_enterAct_15 : decode cX5_enterAct 15 = .ok (.istore_n 2, 1) := by decide +kernel
theorem dX5_enterAct_16 : decode cX5_enterAct 16 = .ok (.aload_n 0, 1) := by decide +kernel
theorem dX5_enterAct_17 : decode cX5_enterAct 17 = .ok (.iload_n 1, 1) := by decide +kernel
theorem dX5_enterAct_18 : decode cX5_enterAct 18 = .ok (.invokespecial 39, 3) := by decide +kernel
theorem dX5_enterAct_21 : decode cX5_enterAct 21 = .ok (.goto 6, 3) := by decide +kernel
theorem dX5_enterAct_24 : decode cX5_enterAct 24 = .ok (.astore_n 3, 1) := by decide +kernel
theorem dX5_enterAct_25 : decode cX5_enterAct 25 = .ok (.iconst 1, 1) := by decide +kernel
theorem dX5_enterAct_26 : decode cX5_enterAct 26 = .ok (.istore_n 2, 1) := by decide +kernel
theorem dX5_enterAct_27 : decode cX5_enterAct 27 = .ok (.iload_n 2, 1) := by decide +kernel
theorem dX5_enterAct_28 : decode cX5_enterAct 28 = .ok (.ifCond .eq 8, 3) := by decide +kernel
theorem dX5_enterAct_31 : decode cX5_enterAct 31 = .ok (.aload_n 0, 1) := by decide +kernel
theorem dX5_enterAct_32 : decode cX5_enterAct 32 = .ok (.iload_n 1, 1) := by decide +kernel
theorem dX5_enterAct_33 : decode cX5_enterAct 33 = .ok (.invokespecial 39, 3) := by decide +kernel
theorem dX5_enterAct_36 : decode cX5_enterAct 36 = .ok (.return_, 1) := by decide +kernel
theorem dX6_init_0 : decode cX6_init 0 = .ok (.aload_n 0, 1) := by decide +kernel
theorem dX6_init_1 : decode cX6_init 1 = .ok (.aload_n 1, 1) := by decide +kernel
theorem dX6_init_2 : decode cX6_init 2 = .ok (.iload_n 2, 1) := by decide +kernel
theorem dX6_init_3 : decode cX6_init 3 = .ok (.iload_n 3, 1) := by decide +kernel
theorem dX6_init_4 : decode cX6_init 4 = .ok (.iload 4, 2) := by decide +kernel
theorem dX6_init_6 : decode cX6_init 6 = .ok (.iload 5, 2) := by decide +kernel
theorem dX6_init_8 : decode cX6_init 8 = .ok (.iload 6, 2) := by decide +kernel
theorem dX6_init_10 : decode cX6_init 10 = .ok (.invokespecial 3, 3) := by decide +kernel
theorem dX6_init_13 : decode cX6_init 13 = .ok (.return_, 1) := by decide +kernel
theorem dX6_weightAct_0 : decode cX6_weightAct 0 = .ok (.aload_n 0, 1) := by decide +kernel
theorem dX6_weightAct_1 : decode cX6_weightAct 1 = .ok (.getfield 9, 3) := by decide +kernel
theorem dX6_weightAct_4 : decode cX6_weightAct 4 = .ok (.getfield 15, 3) := by decide +kernel
theorem dX6_weightAct_7 : decode cX6_weightAct 7 = .ok (.bipush 7, 2) := by decide +kernel
theorem dX6_weightAct_9 : decode cX6_weightAct 9 = .ok (.dup2, 1) := by decide +kernel
theorem dX6_weightAct_10 : decode cX6_weightAct 10 = .ok (.iaload, 1) := by decide +kernel
theorem dX6_weightAct_11 : decode cX6_weightAct 11 = .ok (.iconst 1, 1) := by decide +kernel
theorem dX6_weightAct_12 : decode cX6_weightAct 12 = .ok (.iadd, 1) := by decide +kernel
theorem dX6_weightAct_13 : decode cX6_weightAct 13 = .ok (.iastore, 1) := by decide +kernel
theorem dX6_weightAct_14 : decode cX6_weightAct 14 = .ok (.aload_n 0, 1) := by decide +kernel
theorem dX6_weightAct_15 : decode cX6_weightAct 15 = .ok (.invokespecial 21, 3) := by decide +kernel
theorem dX6_weightAct_18 : decode cX6_weightAct 18 = .ok (.bipush 10, 2) := by decide +kernel
theorem dX6_weightAct_20 : decode cX6_weightAct 20 = .ok (.isub, 1) := by decide +kernel
theorem dX6_weightAct_21 : decode cX6_weightAct 21 = .ok (.ireturn, 1) := by decide +kernel
theorem dX6_tollAct_0 : decode cX6_tollAct 0 = .ok (.aload_n 0, 1) := by decide +kernel
theorem dX6_tollAct_1 : decode cX6_tollAct 1 = .ok (.getfield 9, 3) := by decide +kernel
theorem dX6_tollAct_4 : decode cX6_tollAct 4 = .ok (.getfield 15, 3) := by decide +kernel
theorem dX6_tollAct_7 : decode cX6_tollAct 7 = .ok (.bipush 7, 2) := by decide +kernel
theorem dX6_tollAct_9 : decode cX6_tollAct 9 = .ok (.dup2, 1) := by decide +kernel
theorem dX6_tollAct_10 : decode cX6_tollAct 10 = .ok (.iaload, 1) := by decide +kernel
theorem dX6_tollAct_11 : decode cX6_tollAct 11 = .ok (.iconst 1, 1) := by decide +kernel
theorem dX6_tollAct_12 : decode cX6_tollAct 12 = .ok (.iadd, 1) := by decide +kernel
theorem dX6_tollAct_13 : decode cX6_tollAct 13 = .ok (.iastore, 1) := by decide +kernel
theorem dX6_tollAct_14 : decode cX6_tollAct 14 = .ok (.iload_n 1, 1) := by decide +kernel
theorem dX6_tollAct_15 : decode cX6_tollAct 15 = .ok (.bipush 22, 2) := by decide +kernel
theorem dX6_tollAct_17 : decode cX6_tollAct 17 = .ok (.if_icmp .ge 8, 3) := by decide +kernel
theorem dX6_tollAct_20 : decode cX6_tollAct 20 = .ok (.iload_n 1, 1) := by decide +kernel
theorem dX6_tollAct_21 : decode cX6_tollAct 21 = .ok (.iconst 5, 1) := by decide +kernel
theorem dX6_tollAct_22 : decode cX6_tollAct 22 = .ok (.if_icmp .ge 5, 3) := by decide +kernel
theorem dX6_tollAct_25 : decode cX6_tollAct 25 = .ok (.iconst 0, 1) := by decide +kernel
theorem dX6_tollAct_26 : decode cX6_tollAct 26 = .ok (.ireturn, 1) := by decide +kernel
theorem dX6_tollAct_27 : decode cX6_tollAct 27 = .ok (.aload_n 0, 1) := by decide +kernel
theorem dX6_tollAct_28 : decode cX6_tollAct 28 = .ok (.iload_n 1, 1) := by decide +kernel
theorem dX6_tollAct_29 : decode cX6_tollAct 29 = .ok (.invokespecial 25, 3) := by decide +kernel
theorem dX6_tollAct_32 : decode cX6_tollAct 32 = .ok (.ireturn, 1) := by decide +kernel
theorem dX6_fitAct_0 : decode cX6_fitAct 0 = .ok (.aload_n 0, 1) := by decide +kernel
theorem dX6_fitAct_1 : decode cX6_fitAct 1 = .ok (.getfield 9, 3) := by decide +kernel
theorem dX6_fitAct_4 : decode cX6_fitAct 4 = .ok (.getfield 15, 3) := by decide +kernel
theorem dX6_fitAct_7 : decode cX6_fitAct 7 = .ok (.bipush 7, 2) := by decide +kernel
theorem dX6_fitAct_9 : decode cX6_fitAct 9 = .ok (.dup2, 1) := by decide +kernel
theorem dX6_fitAct_10 : decode cX6_fitAct 10 = .ok (.iaload, 1) := by decide +kernel
theorem dX6_fitAct_11 : decode cX6_fitAct 11 = .ok (.iconst 1, 1) := by decide +kernel
theorem dX6_fitAct_12 : decode cX6_fitAct 12 = .ok (.iadd, 1) := by decide +kernel
theorem dX6_fitAct_13 : decode cX6_fitAct 13 = .ok (.iastore, 1) := by decide +kernel
theorem dX6_fitAct_14 : decode cX6_fitAct 14 = .ok (.aload_n 0, 1) := by decide +kernel
theorem dX6_fitAct_15 : decode cX6_fitAct 15 = .ok (.invokespecial 29, 3) := by decide +kernel
theorem dX6_fitAct_18 : decode cX6_fitAct 18 = .ok (.ifCond .eq 17, 3) := by decide +kernel
theorem dX6_fitAct_21 : decode cX6_fitAct 21 = .ok (.aload_n 0, 1) := by decide +kernel
theorem dX6_fitAct_22 : decode cX6_fitAct 22 = .ok (.getfield 9, 3) := by decide +kernel
theorem dX6_fitAct_25 : decode cX6_fitAct 25 = .ok (.invokevirtual 33, 3) := by decide +kernel
theorem dX6_fitAct_28 : decode cX6_fitAct 28 = .ok (.ifCond .ne 7, 3) := by decide +kernel
theorem dX6_fitAct_31 : decode cX6_fitAct 31 = .ok (.iconst 1, 1) := by decide +kernel
theorem dX6_fitAct_32 : decode cX6_fitAct 32 = .ok (.goto 4, 3) := by decide +kernel
theorem dX6_fitAct_35 : decode cX6_fitAct 35 = .ok (.iconst 0, 1) := by decide +kernel
theorem dX6_fitAct_36 : decode cX6_fitAct 36 = .ok (.ireturn, 1) := by decide +kernel
theorem dX6_rebateAct_0 : decode cX6_rebateAct 0 = .ok (.aload_n 0, 1) := by decide +kernel
theorem dX6_rebateAct_1 : decode cX6_rebateAct 1 = .ok (.getfield 9, 3) := by decide +kernel
theorem dX6_rebateAct_4 : decode cX6_rebateAct 4 = .ok (.getfield 15, 3) := by decide +kernel
theorem dX6_rebateAct_7 : decode cX6_rebateAct 7 = .ok (.bipush 7, 2) := by decide +kernel
theorem dX6_rebateAct_9 : decode cX6_rebateAct 9 = .ok (.dup2, 1) := by decide +kernel
theorem dX6_rebateAct_10 : decode cX6_rebateAct 10 = .ok (.iaload, 1) := by decide +kernel
theorem dX6_rebateAct_11 : decode cX6_rebateAct 11 = .ok (.iconst 1, 1) := by decide +kernel
theorem dX6_rebateAct_12 : decode cX6_rebateAct 12 = .ok (.iadd, 1) := by decide +kernel
theorem dX6_rebateAct_13 : decode cX6_rebateAct 13 = .ok (.iastore, 1) := by decide +kernel
theorem dX6_rebateAct_14 : decode cX6_rebateAct 14 = .ok (.iconst 2, 1) := by decide +kernel
theorem dX6_rebateAct_15 : decode cX6_rebateAct 15 = .ok (.aload_n 0, 1) := by decide +kernel
theorem dX6_rebateAct_16 : decode cX6_rebateAct 16 = .ok (.invokespecial 36, 3) := by decide +kernel
theorem dX6_rebateAct_19 : decode cX6_rebateAct 19 = .ok (.imul, 1) := by decide +kernel
theorem dX6_rebateAct_20 : decode cX6_rebateAct 20 = .ok (.bipush 100, 2) := by decide +kernel
theorem dX6_rebateAct_22 : decode cX6_rebateAct 22 = .ok (.invokestatic 39, 3) := by decide +kernel
theorem dX6_rebateAct_25 : decode cX6_rebateAct 25 = .ok (.ireturn, 1) := by decide +kernel
theorem dX6_monthOf_0 : decode cX6_monthOf 0 = .ok (.bipush 15, 2) := by decide +kernel
theorem dX6_monthOf_2 : decode cX6_monthOf 2 = .ok (.iload_n 1, 1) := by decide +kernel
theorem dX6_monthOf_3 : decode cX6_monthOf 3 = .ok (.imul, 1) := by decide +kernel
theorem dX6_monthOf_4 : decode cX6_monthOf 4 = .ok (.aload_n 0, 1) := by decide +kernel
theorem dX6_monthOf_5 : decode cX6_monthOf 5 = .ok (.bipush 23, 2) := by decide +kernel
theorem dX6_monthOf_7 : decode cX6_monthOf 7 = .ok (.invokevirtual 45, 3) := by decide +kernel
theorem dX6_monthOf_10 : decode cX6_monthOf 10 = .ok (.iadd, 1) := by decide +kernel
theorem dX6_monthOf_11 : decode cX6_monthOf 11 = .ok (.ireturn, 1) := by decide +kernel
theorem dX7_init_0 : decode cX7_init 0 = .ok (.aload_n 0, 1) := by decide +kernel
theorem dX7_init_1 : decode cX7_init 1 = .ok (.aload_n 1, 1) := by decide +kernel
theorem dX7_init_2 : decode cX7_init 2 = .ok (.iload_n 2, 1) := by decide +kernel
theorem dX7_init_3 : decode cX7_init 3 = .ok (.iload_n 3, 1) := by decide +kernel
theorem dX7_init_4 : decode cX7_init 4 = .ok (.iload 4, 2) := by decide +kernel
theorem dX7_init_6 : decode cX7_init 6 = .ok (.iload 5, 2) := by decide +kernel
theorem dX7_init_8 : decode cX7_init 8 = .ok (.iload 6, 2) := by decide +kernel
theorem dX7_init_10 : decode cX7_init 10 = .ok (.invokespecial 3, 3) := by decide +kernel
theorem dX7_init_13 : decode cX7_init 13 = .ok (.return_, 1) := by decide +kernel
theorem dX7_weightAct_0 : decode cX7_weightAct 0 = .ok (.aload_n 0, 1) := by decide +kernel
theorem dX7_weightAct_1 : decode cX7_weightAct 1 = .ok (.getfield 9, 3) := by decide +kernel
theorem dX7_weightAct_4 : decode cX7_weightAct 4 = .ok (.getfield 15, 3) := by decide +kernel
theorem dX7_weightAct_7 : decode cX7_weightAct 7 = .ok (.iconst 4, 1) := by decide +kernel
theorem dX7_weightAct_8 : decode cX7_weightAct 8 = .ok (.dup2, 1) := by decide +kernel
theorem dX7_weightAct_9 : decode cX7_weightAct 9 = .ok (.iaload, 1) := by decide +kernel
theorem dX7_weightAct_10 : decode cX7_weightAct 10 = .ok (.iconst 1, 1) := by decide +kernel
theorem dX7_weightAct_11 : decode cX7_weightAct 11 = .ok (.iadd, 1) := by decide +kernel
theorem dX7_weightAct_12 : decode cX7_weightAct 12 = .ok (.iastore, 1) := by decide +kernel
theorem dX7_weightAct_13 : decode cX7_weightAct 13 = .ok (.aload_n 0, 1) := by decide +kernel
theorem dX7_weightAct_14 : decode cX7_weightAct 14 = .ok (.invokespecial 21, 3) := by decide +kernel
theorem dX7_weightAct_17 : decode cX7_weightAct 17 = .ok (.aload_n 0, 1) := by decide +kernel
theorem dX7_weightAct_18 : decode cX7_weightAct 18 = .ok (.getfield 25, 3) := by decide +kernel
theorem dX7_weightAct_21 : decode cX7_weightAct 21 = .ok (.iadd, 1) := by decide +kernel
theorem dX7_weightAct_22 : decode cX7_weightAct 22 = .ok (.ireturn, 1) := by decide +kernel
theorem dX7_leaveAct_0 : decode cX7_leaveAct 0 = .ok (.aload_n 0, 1) := by decide +kernel
theorem dX7_leaveAct_1 : decode cX7_leaveAct 1 = .ok (.getfield 9, 3) := by decide +kernel
theorem dX7_leaveAct_4 : decode cX7_leaveAct 4 = .ok (.getfield 15, 3) := by decide +kernel
theorem dX7_leaveAct_7 : decode cX7_leaveAct 7 = .ok (.iconst 4, 1) := by decide +kernel
theorem dX7_leaveAct_8 : decode cX7_leaveAct 8 = .ok (.dup2, 1) := by decide +kernel
theorem dX7_leaveAct_9 : decode cX7_leaveAct 9 = .ok (.iaload, 1) := by decide +kernel
theorem dX7_leaveAct_10 : decode cX7_leaveAct 10 = .ok (.iconst 1, 1) := by decide +kernel
theorem dX7_leaveAct_11 : decode cX7_leaveAct 11 = .ok (.iadd, 1) := by decide +kernel
theorem dX7_leaveAct_12 : decode cX7_leaveAct 12 = .ok (.iastore, 1) := by decide +kernel
theorem dX7_leaveAct_13 : decode cX7_leaveAct 13 = .ok (.aload_n 0, 1) := by decide +kernel
theorem dX7_leaveAct_14 : decode cX7_leaveAct 14 = .ok (.invokespecial 29, 3) := by decide +kernel
theorem dX7_leaveAct_17 : decode cX7_leaveAct 17 = .ok (.aload_n 0, 1) := by decide +kernel
theorem dX7_leaveAct_18 : decode cX7_leaveAct 18 = .ok (.aload_n 0, 1) := by decide +kernel
theorem dX7_leaveAct_19 : decode cX7_leaveAct 19 = .ok (.getfield 25, 3) := by decide +kernel
theorem dX7_leaveAct_22 : decode cX7_leaveAct 22 = .ok (.iconst 2, 1) := by decide +kernel
theorem dX7_leaveAct_23 : decode cX7_leaveAct 23 = .ok (.idiv, 1) := by decide +kernel
theorem dX7_leaveAct_24 : decode cX7_leaveAct 24 = .ok (.putfield 25, 3) := by decide +kernel
theorem dX7_leaveAct_27 : decode cX7_leaveAct 27 = .ok (.return_, 1) := by decide +kernel
theorem dX8_init_0 : decode cX8_init 0 = .ok (.aload_n 0, 1) := by decide +kernel
theorem dX8_init_1 : decode cX8_init 1 = .ok (.aload_n 1, 1) := by decide +kernel
theorem dX8_init_2 : decode cX8_init 2 = .ok (.iload_n 2, 1) := by decide +kernel
theorem dX8_init_3 : decode cX8_init 3 = .ok (.iload_n 3, 1) := by decide +kernel
theorem dX8_init_4 : decode cX8_init 4 = .ok (.iload 4, 2) := by decide +kernel
theorem dX8_init_6 : decode cX8_init 6 = .ok (.iload 5, 2) := by decide +kernel
theorem dX8_init_8 : decode cX8_init 8 = .ok (.iload 6, 2) := by decide +kernel
theorem dX8_init_10 : decode cX8_init 10 = .ok (.invokespecial 3, 3) := by decide +kernel
theorem dX8_init_13 : decode cX8_init 13 = .ok (.return_, 1) := by decide +kernel
theorem dX8_weightAct_0 : decode cX8_weightAct 0 = .ok (.aload_n 0, 1) := by decide +kernel
theorem dX8_weightAct_1 : decode cX8_weightAct 1 = .ok (.getfield 9, 3) := by decide +kernel
theorem dX8_weightAct_4 : decode cX8_weightAct 4 = .ok (.getfield 15, 3) := by decide +kernel
theorem dX8_weightAct_7 : decode cX8_weightAct 7 = .ok (.iconst 5, 1) := by decide +kernel
theorem dX8_weightAct_8 : decode cX8_weightAct 8 = .ok (.dup2, 1) := by decide +kernel
theorem dX8_weightAct_9 : decode cX8_weightAct 9 = .ok (.iaload, 1) := by decide +kernel
theorem dX8_weightAct_10 : decode cX8_weightAct 10 = .ok (.iconst 1, 1) := by decide +kernel
theorem dX8_weightAct_11 : decode cX8_weightAct 11 = .ok (.iadd, 1) := by decide +kernel
theorem dX8_weightAct_12 : decode cX8_weightAct 12 = .ok (.iastore, 1) := by decide +kernel
theorem dX8_weightAct_13 : decode cX8_weightAct 13 = .ok (.aload_n 0, 1) := by decide +kernel
theorem dX8_weightAct_14 : decode cX8_weightAct 14 = .ok (.invokespecial 21, 3) := by decide +kernel
theorem dX8_weightAct_17 : decode cX8_weightAct 17 = .ok (.aload_n 0, 1) := by decide +kernel
theorem dX8_weightAct_18 : decode cX8_weightAct 18 = .ok (.getfield 25, 3) := by decide +kernel
theorem dX8_weightAct_21 : decode cX8_weightAct 21 = .ok (.iconst 4, 1) := by decide +kernel
theorem dX8_weightAct_22 : decode cX8_weightAct 22 = .ok (.idiv, 1) := by decide +kernel
theorem dX8_weightAct_23 : decode cX8_weightAct 23 = .ok (.iadd, 1) := by decide +kernel
theorem dX8_weightAct_24 : decode cX8_weightAct 24 = .ok (.ireturn, 1) := by decide +kernel
theorem dX8_tollAct_0 : decode cX8_tollAct 0 = .ok (.aload_n 0, 1) := by decide +kernel
theorem dX8_tollAct_1 : decode cX8_tollAct 1 = .ok (.getfield 9, 3) := by decide +kernel
theorem dX8_tollAct_4 : decode cX8_tollAct 4 = .ok (.getfield 15, 3) := by decide +kernel
theorem dX8_tollAct_7 : decode cX8_tollAct 7 = .ok (.iconst 5, 1) := by decide +kernel
theorem dX8_tollAct_8 : decode cX8_tollAct 8 = .ok (.dup2, 1) := by decide +kernel
theorem dX8_tollAct_9 : decode cX8_tollAct 9 = .ok (.iaload, 1) := by decide +kernel
theorem dX8_tollAct_10 : decode cX8_tollAct 10 = .ok (.iconst 1, 1) := by decide +kernel
theorem dX8_tollAct_11 : decode cX8_tollAct 11 = .ok (.iadd, 1) := by decide +kernel
theorem dX8_tollAct_12 : decode cX8_tollAct 12 = .ok (.iastore, 1) := by decide +kernel
theorem dX8_tollAct_13 : decode cX8_tollAct 13 = .ok (.aload_n 0, 1) := by decide +kernel
theorem dX8_tollAct_14 : decode cX8_tollAct 14 = .ok (.iload_n 1, 1) := by decide +kernel
theorem dX8_tollAct_15 : decode cX8_tollAct 15 = .ok (.invokespecial 29, 3) := by decide +kernel
theorem dX8_tollAct_18 : decode cX8_tollAct 18 = .ok (.bipush 50, 2) := by decide +kernel
theorem dX8_tollAct_20 : decode cX8_tollAct 20 = .ok (.iadd, 1) := by decide +kernel
theorem dX8_tollAct_21 : decode cX8_tollAct 21 = .ok (.ireturn, 1) := by decide +kernel
theorem dX8_fitAct_0 : decode cX8_fitAct 0 = .ok (.aload_n 0, 1) := by decide +kernel
theorem dX8_fitAct_1 : decode cX8_fitAct 1 = .ok (.getfield 9, 3) := by decide +kernel
theorem dX8_fitAct_4 : decode cX8_fitAct 4 = .ok (.getfield 15, 3) := by decide +kernel
theorem dX8_fitAct_7 : decode cX8_fitAct 7 = .ok (.iconst 5, 1) := by decide +kernel
theorem dX8_fitAct_8 : decode cX8_fitAct 8 = .ok (.dup2, 1) := by decide +kernel
theorem dX8_fitAct_9 : decode cX8_fitAct 9 = .ok (.iaload, 1) := by decide +kernel
theorem dX8_fitAct_10 : decode cX8_fitAct 10 = .ok (.iconst 1, 1) := by decide +kernel
theorem dX8_fitAct_11 : decode cX8_fitAct 11 = .ok (.iadd, 1) := by decide +kernel
theorem dX8_fitAct_12 : decode cX8_fitAct 12 = .ok (.iastore, 1) := by decide +kernel
theorem dX8_fitAct_13 : decode cX8_fitAct 13 = .ok (.aload_n 0, 1) := by decide +kernel
theorem dX8_fitAct_14 : decode cX8_fitAct 14 = .ok (.invokespecial 33, 3) := by decide +kernel
theorem dX8_fitAct_17 : decode cX8_fitAct 17 = .ok (.ifCond .eq 17, 3) := by decide +kernel
theorem dX8_fitAct_20 : decode cX8_fitAct 20 = .ok (.aload_n 0, 1) := by decide +kernel
theorem dX8_fitAct_21 : decode cX8_fitAct 21 = .ok (.getfield 9, 3) := by decide +kernel
theorem dX8_fitAct_24 : decode cX8_fitAct 24 = .ok (.getfield 37, 3) := by decide +kernel
theorem dX8_fitAct_27 : decode cX8_fitAct 27 = .ok (.ifCond .ne 7, 3) := by decide +kernel
theorem dX8_fitAct_30 : decode cX8_fitAct 30 = .ok (.iconst 1, 1) := by decide +kernel
theorem dX8_fitAct_31 : decode cX8_fitAct 31 = .ok (.goto 4, 3) := by decide +kernel
theorem dX8_fitAct_34 : decode cX8_fitAct 34 = .ok (.iconst 0, 1) := by decide +kernel
theorem dX8_fitAct_35 : decode cX8_fitAct 35 = .ok (.ireturn, 1) := by decide +kernel
theorem dX8_enterAct_0 : decode cX8_enterAct 0 = .ok (.aload_n 0, 1) := by decide +kernel
theorem dX8_enterAct_1 : decode cX8_enterAct 1 = .ok (.getfield 9, 3) := by decide +kernel
theorem dX8_enterAct_4 : decode cX8_enterAct 4 = .ok (.getfield 15, 3) := by decide +kernel
theorem dX8_enterAct_7 : decode cX8_enterAct 7 = .ok (.iconst 5, 1) := by decide +kernel
theorem dX8_enterAct_8 : decode cX8_enterAct 8 = .ok (.dup2, 1) := by decide +kernel
theorem dX8_enterAct_9 : decode cX8_enterAct 9 = .ok (.iaload, 1) := by decide +kernel
theorem dX8_enterAct_10 : decode cX8_enterAct 10 = .ok (.iconst 1, 1) := by decide +kernel
theorem dX8_enterAct_11 : decode cX8_enterAct 11 = .ok (.iadd, 1) := by decide +kernel
theorem dX8_enterAct_12 : decode cX8_enterAct 12 = .ok (.iastore, 1) := by decide +kernel
theorem dX8_enterAct_13 : decode cX8_enterAct 13 = .ok (.aload_n 0, 1) := by decide +kernel
theorem dX8_enterAct_14 : decode cX8_enterAct 14 = .ok (.iload_n 1, 1) := by decide +kernel
theorem dX8_enterAct_15 : decode cX8_enterAct 15 = .ok (.invokespecial 40, 3) := by decide +kernel
theorem dX8_enterAct_18 : decode cX8_enterAct 18 = .ok (.aload_n 0, 1) := by decide +kernel
theorem dX8_enterAct_19 : decode cX8_enterAct 19 = .ok (.getfield 9, 3) := by decide +kernel
theorem dX8_enterAct_22 : decode cX8_enterAct 22 = .ok (.aload_n 0, 1) := by decide +kernel
theorem dX8_enterAct_23 : decode cX8_enterAct 23 = .ok (.getfield 9, 3) := by decide +kernel
theorem dX8_enterAct_26 : decode cX8_enterAct 26 = .ok (.getfield 44, 3) := by decide +kernel
theorem dX8_enterAct_29 : decode cX8_enterAct 29 = .ok (.bipush 100, 2) := by decide +kernel
theorem dX8_enterAct_31 : decode cX8_enterAct 31 = .ok (.isub, 1) := by decide +kernel
theorem dX8_enterAct_32 : decode cX8_enterAct 32 = .ok (.iconst 0, 1) := by decide +kernel
theorem dX8_enterAct_33 : decode cX8_enterAct 33 = .ok (.invokestatic 47, 3) := by decide +kernel
theorem dX8_enterAct_36 : decode cX8_enterAct 36 = .ok (.putfield 44, 3) := by decide +kernel
theorem dX8_enterAct_39 : decode cX8_enterAct 39 = .ok (.return_, 1) := by decide +kernel
theorem dX8_leaveAct_0 : decode cX8_leaveAct 0 = .ok (.aload_n 0, 1) := by decide +kernel
theorem dX8_leaveAct_1 : decode cX8_leaveAct 1 = .ok (.getfield 9, 3) := by decide +kernel
theorem dX8_leaveAct_4 : decode cX8_leaveAct 4 = .ok (.getfield 15, 3) := by decide +kernel
theorem dX8_leaveAct_7 : decode cX8_leaveAct 7 = .ok (.iconst 5, 1) := by decide +kernel
theorem dX8_leaveAct_8 : decode cX8_leaveAct 8 = .ok (.dup2, 1) := by decide +kernel
theorem dX8_leaveAct_9 : decode cX8_leaveAct 9 = .ok (.iaload, 1) := by decide +kernel
theorem dX8_leaveAct_10 : decode cX8_leaveAct 10 = .ok (.iconst 1, 1) := by decide +kernel
theorem dX8_leaveAct_11 : decode cX8_leaveAct 11 = .ok (.iadd, 1) := by decide +kernel
theorem dX8_leaveAct_12 : decode cX8_leaveAct 12 = .ok (.iastore, 1) := by decide +kernel
theorem dX8_leaveAct_13 : decode cX8_leaveAct 13 = .ok (.aload_n 0, 1) := by decide +kernel
theorem dX8_leaveAct_14 : decode cX8_leaveAct 14 = .ok (.invokespecial 53, 3) := by decide +kernel
theorem dX8_leaveAct_17 : decode cX8_leaveAct 17 = .ok (.aload_n 0, 1) := by decide +kernel
theorem dX8_leaveAct_18 : decode cX8_leaveAct 18 = .ok (.getfield 9, 3) := by decide +kernel
theorem dX8_leaveAct_21 : decode cX8_leaveAct 21 = .ok (.aload_n 0, 1) := by decide +kernel
theorem dX8_leaveAct_22 : decode cX8_leaveAct 22 = .ok (.getfield 9, 3) := by decide +kernel
theorem dX8_leaveAct_25 : decode cX8_leaveAct 25 = .ok (.getfield 44, 3) := by decide +kernel
theorem dX8_leaveAct_28 : decode cX8_leaveAct 28 = .ok (.bipush 100, 2) := by decide +kernel
theorem dX8_leaveAct_30 : decode cX8_leaveAct 30 = .ok (.iadd, 1) := by decide +kernel
theorem dX8_leaveAct_31 : decode cX8_leaveAct 31 = .ok (.sipush 9000, 3) := by decide +kernel
theorem dX8_leaveAct_34 : decode cX8_leaveAct 34 = .ok (.invokestatic 57, 3) := by decide +kernel
theorem dX8_leaveAct_37 : decode cX8_leaveAct 37 = .ok (.putfield 44, 3) := by decide +kernel
theorem dX8_leaveAct_40 : decode cX8_leaveAct 40 = .ok (.return_, 1) := by decide +kernel
theorem dX9_init_0 : decode cX9_init 0 = .ok (.aload_n 0, 1) := by decide +kernel
theorem dX9_init_1 : decode cX9_init 1 = .ok (.aload_n 1, 1) := by decide +kernel
theorem dX9_init_2 : decode cX9_init 2 = .ok (.iload_n 2, 1) := by decide +kernel
theorem dX9_init_3 : decode cX9_init 3 = .ok (.iload_n 3, 1) := by decide +kernel
theorem dX9_init_4 : decode cX9_init 4 = .ok (.iload 4, 2) := by decide +kernel
theorem dX9_init_6 : decode cX9_init 6 = .ok (.iload 5, 2) := by decide +kernel
theorem dX9_init_8 : decode cX9_init 8 = .ok (.iload 6, 2) := by decide +kernel
theorem dX9_init_10 : decode cX9_init 10 = .ok (.invokespecial 1, 3) := by decide +kernel
theorem dX9_init_13 : decode cX9_init 13 = .ok (.return_, 1) := by decide +kernel
theorem dX10_init_0 : decode cX10_init 0 = .ok (.aload_n 0, 1) := by decide +kernel
theorem dX10_init_1 : decode cX10_init 1 = .ok (.invokespecial 1, 3) := by decide +kernel
theorem dX10_init_4 : decode cX10_init 4 = .ok (.aload_n 0, 1) := by decide +kernel
theorem dX10_init_5 : decode cX10_init 5 = .ok (.new 7, 3) := by decide +kernel
theorem dX10_init_8 : decode cX10_init 8 = .ok (.dup, 1) := by decide +kernel
theorem dX10_init_9 : decode cX10_init 9 = .ok (.invokespecial 9, 3) := by decide +kernel
theorem dX10_init_12 : decode cX10_init 12 = .ok (.putfield 10, 3) := by decide +kernel
theorem dX10_init_15 : decode cX10_init 15 = .ok (.aload_n 0, 1) := by decide +kernel
theorem dX10_init_16 : decode cX10_init 16 = .ok (.bipush 24, 2) := by decide +kernel
theorem dX10_init_18 : decode cX10_init 18 = .ok (.anewarray 16, 3) := by decide +kernel
theorem dX10_init_21 : decode cX10_init 21 = .ok (.putfield 18, 3) := by decide +kernel
theorem dX10_init_24 : decode cX10_init 24 = .ok (.aload_n 0, 1) := by decide +kernel
theorem dX10_init_25 : decode cX10_init 25 = .ok (.iconst 0, 1) := by decide +kernel
theorem dX10_init_26 : decode cX10_init 26 = .ok (.putfield 22, 3) := by decide +kernel
theorem dX10_init_29 : decode cX10_init 29 = .ok (.return_, 1) := by decide +kernel
theorem dX10_add_0 : decode cX10_add 0 = .ok (.iload_n 1, 1) := by decide +kernel
theorem dX10_add_1 : decode cX10_add 1 = .ok (.iconst 0, 1) := by decide +kernel
theorem dX10_add_2 : decode cX10_add 2 = .ok (.bipush 8, 2) := by decide +kernel
theorem dX10_add_4 : decode cX10_add 4 = .ok (.invokestatic 26, 3) := by decide +kernel
theorem dX10_add_7 : decode cX10_add 7 = .ok (.ifCond .ne 14, 3) := by decide +kernel
theorem dX10_add_10 : decode cX10_add 10 = .ok (.iload_n 2, 1) := by decide +kernel
theorem dX10_add_11 : decode cX10_add 11 = .ok (.iconst 1, 1) := by decide +kernel
theorem dX10_add_12 : decode cX10_add 12 = .ok (.sipush 5000, 3) := by decide +kernel
theorem dX10_add_15 : decode cX10_add 15 = .ok (.invokestatic 26, 3) := by decide +kernel
theorem dX10_add_18 : decode cX10_add 18 = .ok (.ifCond .eq 6, 3) := by decide +kernel
theorem dX10_add_21 : decode cX10_add 21 = .ok (.bipush (-102), 2) := by decide +kernel
theorem dX10_add_23 : decode cX10_add 23 = .ok (.ireturn, 1) := by decide +kernel
theorem dX10_add_24 : decode cX10_add 24 = .ok (.iload_n 3, 1) := by decide +kernel
theorem dX10_add_25 : decode cX10_add 25 = .ok (.iconst 0, 1) := by decide +kernel
theorem dX10_add_26 : decode cX10_add 26 = .ok (.sipush 5000, 3) := by decide +kernel
theorem dX10_add_29 : decode cX10_add 29 = .ok (.invokestatic 26, 3) := by decide +kernel
theorem dX10_add_32 : decode cX10_add 32 = .ok (.ifCond .ne 14, 3) := by decide +kernel
theorem dX10_add_35 : decode cX10_add 35 = .ok (.iload 4, 2) := by decide +kernel
theorem dX10_add_37 : decode cX10_add 37 = .ok (.iconst 0, 1) := by decide +kernel
theorem dX10_add_38 : decode cX10_add 38 = .ok (.bipush 100, 2) := by decide +kernel
theorem dX10_add_40 : decode cX10_add 40 = .ok (.invokestatic 26, 3) := by decide +kernel
theorem dX10_add_43 : decode cX10_add 43 = .ok (.ifCond .eq 6, 3) := by decide +kernel
theorem dX10_add_46 : decode cX10_add 46 = .ok (.bipush (-102), 2) := by decide +kernel
theorem dX10_add_48 : decode cX10_add 48 = .ok (.ireturn, 1) := by decide +kernel
theorem dX10_add_49 : decode cX10_add 49 = .ok (.aload_n 0, 1) := by decide +kernel
theorem dX10_add_50 : decode cX10_add 50 = .ok (.getfield 22, 3) := by decide +kernel
theorem dX10_add_53 : decode cX10_add 53 = .ok (.istore 5, 2) := by decide +kernel
theorem dX10_add_55 : decode cX10_add 55 = .ok (.iload 5, 2) := by decide +kernel
theorem dX10_add_57 : decode cX10_add 57 = .ok (.ifCond .lt 13, 3) := by decide +kernel
theorem dX10_add_60 : decode cX10_add 60 = .ok (.iload 5, 2) := by decide +kernel
theorem dX10_add_62 : decode cX10_add 62 = .ok (.aload_n 0, 1) := by decide +kernel
theorem dX10_add_63 : decode cX10_add 63 = .ok (.getfield 18, 3) := by decide +kernel
theorem dX10_add_66 : decode cX10_add 66 = .ok (.arraylength, 1) := by decide +kernel
theorem dX10_add_67 : decode cX10_add 67 = .ok (.if_icmp .lt 6, 3) := by decide +kernel
theorem dX10_add_70 : decode cX10_add 70 = .ok (.bipush (-104), 2) := by decide +kernel
theorem dX10_add_72 : decode cX10_add 72 = .ok (.ireturn, 1) := by decide +kernel
theorem dX10_add_73 : decode cX10_add 73 = .ok (.aload_n 0, 1) := by decide +kernel
theorem dX10_add_74 : decode cX10_add 74 = .ok (.getfield 18, 3) := by decide +kernel
theorem dX10_add_77 : decode cX10_add 77 = .ok (.iload 5, 2) := by decide +kernel
theorem dX10_add_79 : decode cX10_add 79 = .ok (.aload_n 0, 1) := by decide +kernel
theorem dX10_add_80 : decode cX10_add 80 = .ok (.iload 5, 2) := by decide +kernel
theorem dX10_add_82 : decode cX10_add 82 = .ok (.iload_n 1, 1) := by decide +kernel
theorem dX10_add_83 : decode cX10_add 83 = .ok (.iload_n 2, 1) := by decide +kernel
theorem dX10_add_84 : decode cX10_add 84 = .ok (.iload_n 3, 1) := by decide +kernel
theorem dX10_add_85 : decode cX10_add 85 = .ok (.iload 4, 2) := by decide +kernel
theorem dX10_add_87 : decode cX10_add 87 = .ok (.invokevirtual 30, 3) := by decide +kernel
theorem dX10_add_90 : decode cX10_add 90 = .ok (.aastore, 1) := by decide +kernel
theorem dX10_add_91 : decode cX10_add 91 = .ok (.aload_n 0, 1) := by decide +kernel
theorem dX10_add_92 : decode cX10_add 92 = .ok (.iload 5, 2) := by decide +kernel
theorem dX10_add_94 : decode cX10_add 94 = .ok (.iconst 1, 1) := by decide +kernel
theorem dX10_add_95 : decode cX10_add 95 = .ok (.iadd, 1) := by decide +kernel
theorem dX10_add_96 : decode cX10_add 96 = .ok (.putfield 22, 3) := by decide +kernel
theorem dX10_add_99 : decode cX10_add 99 = .ok (.iload 5, 2) := by decide +kernel
theorem dX10_add_101 : decode cX10_add 101 = .ok (.ireturn, 1) := by decide +kernel
theorem dX10_weight_0 : decode cX10_weight 0 = .ok (.aload_n 0, 1) := by decide +kernel
theorem dX10_weight_1 : decode cX10_weight 1 = .ok (.iload_n 1, 1) := by decide +kernel
theorem dX10_weight_2 : decode cX10_weight 2 = .ok (.invokevirtual 34, 3) := by decide +kernel
theorem dX10_weight_5 : decode cX10_weight 5 = .ok (.astore_n 2, 1) := by decide +kernel
theorem dX10_weight_6 : decode cX10_weight 6 = .ok (.aload_n 2, 1) := by decide +kernel
theorem dX10_weight_7 : decode cX10_weight 7 = .ok (.ifnonnull 6, 3) := by decide +kernel
theorem dX10_weight_10 : decode cX10_weight 10 = .ok (.bipush (-101), 2) := by decide +kernel
theorem dX10_weight_12 : decode cX10_weight 12 = .ok (.ireturn, 1) := by decide +kernel
theorem dX10_weight_13 : decode cX10_weight 13 = .ok (.aload_n 2, 1) := by decide +kernel
theorem dX10_weight_14 : decode cX10_weight 14 = .ok (.invokevirtual 38, 3) := by decide +kernel
theorem dX10_weight_17 : decode cX10_weight 17 = .ok (.ireturn, 1) := by decide +kernel
theorem dX10_toll_0 : decode cX10_toll 0 = .ok (.aload_n 0, 1) := by decide +kernel
theorem dX10_toll_1 : decode cX10_toll 1 = .ok (.iload_n 1, 1) := by decide +kernel
theorem dX10_toll_2 : decode cX10_toll 2 = .ok (.invokevirtual 34, 3) := by decide +kernel
theorem dX10_toll_5 : decode cX10_toll 5 = .ok (.astore_n 3, 1) := by decide +kernel
theorem dX10_toll_6 : decode cX10_toll 6 = .ok (.aload_n 3, 1) := by decide +kernel
theorem dX10_toll_7 : decode cX10_toll 7 = .ok (.ifnonnull 6, 3) := by decide +kernel
theorem dX10_toll_10 : decode cX10_toll 10 = .ok (.bipush (-101), 2) := by decide +kernel
theorem dX10_toll_12 : decode cX10_toll 12 = .ok (.ireturn, 1) := by decide +kernel
theorem dX10_toll_13 : decode cX10_toll 13 = .ok (.iload_n 2, 1) := by decide +kernel
theorem dX10_toll_14 : decode cX10_toll 14 = .ok (.iconst 0, 1) := by decide +kernel
theorem dX10_toll_15 : decode cX10_toll 15 = .ok (.bipush 23, 2) := by decide +kernel
theorem dX10_toll_17 : decode cX10_toll 17 = .ok (.invokestatic 26, 3) := by decide +kernel
theorem dX10_toll_20 : decode cX10_toll 20 = .ok (.ifCond .eq 6, 3) := by decide +kernel
theorem dX10_toll_23 : decode cX10_toll 23 = .ok (.bipush (-102), 2) := by decide +kernel
theorem dX10_toll_25 : decode cX10_toll 25 = .ok (.ireturn, 1) := by decide +kernel
theorem dX10_toll_26 : decode cX10_toll 26 = .ok (.aload_n 3, 1) := by decide +kernel
theorem dX10_toll_27 : decode cX10_toll 27 = .ok (.iload_n 2, 1) := by decide +kernel
theorem dX10_toll_28 : decode cX10_toll 28 = .ok (.invokevirtual 42, 3) := by decide +kernel
theorem dX10_toll_31 : decode cX10_toll 31 = .ok (.ireturn, 1) := by decide +kernel
theorem dX10_fits_0 : decode cX10_fits 0 = .ok (.aload_n 0, 1) := by decide +kernel
theorem dX10_fits_1 : decode cX10_fits 1 = .ok (.iload_n 1, 1) := by decide +kernel
theorem dX10_fits_2 : decode cX10_fits 2 = .ok (.invokevirtual 34, 3) := by decide +kernel
theorem dX10_fits_5 : decode cX10_fits 5 = .ok (.astore_n 2, 1) := by decide +kernel
theorem dX10_fits_6 : decode cX10_fits 6 = .ok (.aload_n 2, 1) := by decide +kernel
theorem dX10_fits_7 : decode cX10_fits 7 = .ok (.ifnonnull 6, 3) := by decide +kernel
theorem dX10_fits_10 : decode cX10_fits 10 = .ok (.bipush (-101), 2) := by decide +kernel
theorem dX10_fits_12 : decode cX10_fits 12 = .ok (.ireturn, 1) := by decide +kernel
theorem dX10_fits_13 : decode cX10_fits 13 = .ok (.aload_n 2, 1) := by decide +kernel
theorem dX10_fits_14 : decode cX10_fits 14 = .ok (.invokevirtual 46, 3) := by decide +kernel
theorem dX10_fits_17 : decode cX10_fits 17 = .ok (.ifCond .eq 7, 3) := by decide +kernel
theorem dX10_fits_20 : decode cX10_fits 20 = .ok (.iconst 1, 1) := by decide +kernel
theorem dX10_fits_21 : decode cX10_fits 21 = .ok (.goto 4, 3) := by decide +kernel
theorem dX10_fits_24 : decode cX10_fits 24 = .ok (.iconst 0, 1) := by decide +kernel
theorem dX10_fits_25 : decode cX10_fits 25 = .ok (.ireturn, 1) := by decide +kernel
theorem dX10_enter_0 : decode cX10_enter 0 = .ok (.aload_n 0, 1) := by decide +kernel
theorem dX10_enter_1 : decode cX10_enter 1 = .ok (.iload_n 1, 1) := by decide +kernel
theorem dX10_enter_2 : decode cX10_enter 2 = .ok (.invokevirtual 34, 3) := by decide +kernel
theorem dX10_enter_5 : decode cX10_enter 5 = .ok (.astore_n 3, 1) := by decide +kernel
theorem dX10_enter_6 : decode cX10_enter 6 = .ok (.aload_n 3, 1) := by decide +kernel
theorem dX10_enter_7 : decode cX10_enter 7 = .ok (.ifnonnull 6, 3) := by decide +kernel
theorem dX10_enter_10 : decode cX10_enter 10 = .ok (.bipush (-101), 2) := by decide +kernel
theorem dX10_enter_12 : decode cX10_enter 12 = .ok (.ireturn, 1) := by decide +kernel
theorem dX10_enter_13 : decode cX10_enter 13 = .ok (.iload_n 2, 1) := by decide +kernel
theorem dX10_enter_14 : decode cX10_enter 14 = .ok (.iconst 0, 1) := by decide +kernel
theorem dX10_enter_15 : decode cX10_enter 15 = .ok (.bipush 23, 2) := by decide +kernel
theorem dX10_enter_17 : decode cX10_enter 17 = .ok (.invokestatic 26, 3) := by decide +kernel
theorem dX10_enter_20 : decode cX10_enter 20 = .ok (.ifCond .eq 6, 3) := by decide +kernel
theorem dX10_enter_23 : decode cX10_enter 23 = .ok (.bipush (-102), 2) := by decide +kernel
theorem dX10_enter_25 : decode cX10_enter 25 = .ok (.ireturn, 1) := by decide +kernel
theorem dX10_enter_26 : decode cX10_enter 26 = .ok (.aload_n 3, 1) := by decide +kernel
theorem dX10_enter_27 : decode cX10_enter 27 = .ok (.getfield 50, 3) := by decide +kernel
theorem dX10_enter_30 : decode cX10_enter 30 = .ok (.iconst 1, 1) := by decide +kernel
theorem dX10_enter_31 : decode cX10_enter 31 = .ok (.if_icmp .ne 6, 3) := by decide +kernel
theorem dX10_enter_34 : decode cX10_enter 34 = .ok (.bipush (-103), 2) := by decide +kernel
theorem dX10_enter_36 : decode cX10_enter 36 = .ok (.ireturn, 1) := by decide +kernel
theorem dX10_enter_37 : decode cX10_enter 37 = .ok (.aload_n 3, 1) := by decide +kernel
theorem dX10_enter_38 : decode cX10_enter 38 = .ok (.iload_n 2, 1) := by decide +kernel
theorem dX10_enter_39 : decode cX10_enter 39 = .ok (.invokevirtual 53, 3) := by decide +kernel
theorem dX10_enter_42 : decode cX10_enter 42 = .ok (.aload_n 3, 1) := by decide +kernel
theorem dX10_enter_43 : decode cX10_enter 43 = .ok (.getfield 57, 3) := by decide +kernel
theorem dX10_enter_46 : decode cX10_enter 46 = .ok (.ireturn, 1) := by decide +kernel
theorem dX10_leave_0 : decode cX10_leave 0 = .ok (.aload_n 0, 1) := by decide +kernel
theorem dX10_leave_1 : decode cX10_leave 1 = .ok (.iload_n 1, 1) := by decide +kernel
theorem dX10_leave_2 : decode cX10_leave 2 = .ok (.invokevirtual 34, 3) := by decide +kernel
theorem dX10_leave_5 : decode cX10_leave 5 = .ok (.astore_n 2, 1) := by decide +kernel
theorem dX10_leave_6 : decode cX10_leave 6 = .ok (.aload_n 2, 1) := by decide +kernel
theorem dX10_leave_7 : decode cX10_leave 7 = .ok (.ifnonnull 6, 3) := by decide +kernel
theorem dX10_leave_10 : decode cX10_leave 10 = .ok (.bipush (-101), 2) := by decide +kernel
theorem dX10_leave_12 : decode cX10_leave 12 = .ok (.ireturn, 1) := by decide +kernel
theorem dX10_leave_13 : decode cX10_leave 13 = .ok (.aload_n 2, 1) := by decide +kernel
theorem dX10_leave_14 : decode cX10_leave 14 = .ok (.getfield 50, 3) := by decide +kernel
theorem dX10_leave_17 : decode cX10_leave 17 = .ok (.ifCond .ne 6, 3) := by decide +kernel
theorem dX10_leave_20 : decode cX10_leave 20 = .ok (.bipush (-103), 2) := by decide +kernel
theorem dX10_leave_22 : decode cX10_leave 22 = .ok (.ireturn, 1) := by decide +kernel
theorem dX10_leave_23 : decode cX10_leave 23 = .ok (.aload_n 2, 1) := by decide +kernel
theorem dX10_leave_24 : decode cX10_leave 24 = .ok (.invokevirtual 60, 3) := by decide +kernel
theorem dX10_leave_27 : decode cX10_leave 27 = .ok (.aload_n 0, 1) := by decide +kernel
theorem dX10_leave_28 : decode cX10_leave 28 = .ok (.getfield 10, 3) := by decide +kernel
theorem dX10_leave_31 : decode cX10_leave 31 = .ok (.getfield 63, 3) := by decide +kernel
theorem dX10_leave_34 : decode cX10_leave 34 = .ok (.ireturn, 1) := by decide +kernel
theorem dX10_rebate_0 : decode cX10_rebate 0 = .ok (.aload_n 0, 1) := by decide +kernel
theorem dX10_rebate_1 : decode cX10_rebate 1 = .ok (.iload_n 1, 1) := by decide +kernel
theorem dX10_rebate_2 : decode cX10_rebate 2 = .ok (.invokevirtual 34, 3) := by decide +kernel
theorem dX10_rebate_5 : decode cX10_rebate 5 = .ok (.astore_n 2, 1) := by decide +kernel
theorem dX10_rebate_6 : decode cX10_rebate 6 = .ok (.aload_n 2, 1) := by decide +kernel
theorem dX10_rebate_7 : decode cX10_rebate 7 = .ok (.ifnonnull 6, 3) := by decide +kernel
theorem dX10_rebate_10 : decode cX10_rebate 10 = .ok (.bipush (-101), 2) := by decide +kernel
theorem dX10_rebate_12 : decode cX10_rebate 12 = .ok (.ireturn, 1) := by decide +kernel
theorem dX10_rebate_13 : decode cX10_rebate 13 = .ok (.aload_n 2, 1) := by decide +kernel
theorem dX10_rebate_14 : decode cX10_rebate 14 = .ok (.invokevirtual 66, 3) := by decide +kernel
theorem dX10_rebate_17 : decode cX10_rebate 17 = .ok (.ireturn, 1) := by decide +kernel
theorem dX10_bill_0 : decode cX10_bill 0 = .ok (.aload_n 0, 1) := by decide +kernel
theorem dX10_bill_1 : decode cX10_bill 1 = .ok (.iload_n 1, 1) := by decide +kernel
theorem dX10_bill_2 : decode cX10_bill 2 = .ok (.invokevirtual 34, 3) := by decide +kernel
theorem dX10_bill_5 : decode cX10_bill 5 = .ok (.astore_n 3, 1) := by decide +kernel
theorem dX10_bill_6 : decode cX10_bill 6 = .ok (.aload_n 3, 1) := by decide +kernel
theorem dX10_bill_7 : decode cX10_bill 7 = .ok (.ifnonnull 6, 3) := by decide +kernel
theorem dX10_bill_10 : decode cX10_bill 10 = .ok (.bipush (-101), 2) := by decide +kernel
theorem dX10_bill_12 : decode cX10_bill 12 = .ok (.ireturn, 1) := by decide +kernel
theorem dX10_bill_13 : decode cX10_bill 13 = .ok (.iload_n 2, 1) := by decide +kernel
theorem dX10_bill_14 : decode cX10_bill 14 = .ok (.iconst 0, 1) := by decide +kernel
theorem dX10_bill_15 : decode cX10_bill 15 = .ok (.bipush 23, 2) := by decide +kernel
theorem dX10_bill_17 : decode cX10_bill 17 = .ok (.invokestatic 26, 3) := by decide +kernel
theorem dX10_bill_20 : decode cX10_bill 20 = .ok (.ifCond .eq 6, 3) := by decide +kernel
theorem dX10_bill_23 : decode cX10_bill 23 = .ok (.bipush (-102), 2) := by decide +kernel
theorem dX10_bill_25 : decode cX10_bill 25 = .ok (.ireturn, 1) := by decide +kernel
theorem dX10_bill_26 : decode cX10_bill 26 = .ok (.aload_n 3, 1) := by decide +kernel
theorem dX10_bill_27 : decode cX10_bill 27 = .ok (.invokevirtual 69, 3) := by decide +kernel
theorem dX10_bill_30 : decode cX10_bill 30 = .ok (.ifCond .ne 6, 3) := by decide +kernel
theorem dX10_bill_33 : decode cX10_bill 33 = .ok (.bipush (-103), 2) := by decide +kernel
theorem dX10_bill_35 : decode cX10_bill 35 = .ok (.ireturn, 1) := by decide +kernel
theorem dX10_bill_36 : decode cX10_bill 36 = .ok (.aload_n 3, 1) := by decide +kernel
theorem dX10_bill_37 : decode cX10_bill 37 = .ok (.iload_n 2, 1) := by decide +kernel
theorem dX10_bill_38 : decode cX10_bill 38 = .ok (.invokevirtual 72, 3) := by decide +kernel
theorem dX10_bill_41 : decode cX10_bill 41 = .ok (.ireturn, 1) := by decide +kernel
theorem dX10_month_0 : decode cX10_month 0 = .ok (.aload_n 0, 1) := by decide +kernel
theorem dX10_month_1 : decode cX10_month 1 = .ok (.iload_n 1, 1) := by decide +kernel
theorem dX10_month_2 : decode cX10_month 2 = .ok (.invokevirtual 34, 3) := by decide +kernel
theorem dX10_month_5 : decode cX10_month 5 = .ok (.astore_n 3, 1) := by decide +kernel
theorem dX10_month_6 : decode cX10_month 6 = .ok (.aload_n 3, 1) := by decide +kernel
theorem dX10_month_7 : decode cX10_month 7 = .ok (.ifnonnull 6, 3) := by decide +kernel
theorem dX10_month_10 : decode cX10_month 10 = .ok (.bipush (-101), 2) := by decide +kernel
theorem dX10_month_12 : decode cX10_month 12 = .ok (.ireturn, 1) := by decide +kernel
theorem dX10_month_13 : decode cX10_month 13 = .ok (.iload_n 2, 1) := by decide +kernel
theorem dX10_month_14 : decode cX10_month 14 = .ok (.iconst 0, 1) := by decide +kernel
theorem dX10_month_15 : decode cX10_month 15 = .ok (.bipush 31, 2) := by decide +kernel
theorem dX10_month_17 : decode cX10_month 17 = .ok (.invokestatic 26, 3) := by decide +kernel
theorem dX10_month_20 : decode cX10_month 20 = .ok (.ifCond .eq 6, 3) := by decide +kernel
theorem dX10_month_23 : decode cX10_month 23 = .ok (.bipush (-102), 2) := by decide +kernel
theorem dX10_month_25 : decode cX10_month 25 = .ok (.ireturn, 1) := by decide +kernel
theorem dX10_month_26 : decode cX10_month 26 = .ok (.aload_n 3, 1) := by decide +kernel
theorem dX10_month_27 : decode cX10_month 27 = .ok (.invokevirtual 69, 3) := by decide +kernel
theorem dX10_month_30 : decode cX10_month 30 = .ok (.ifCond .ne 6, 3) := by decide +kernel
theorem dX10_month_33 : decode cX10_month 33 = .ok (.bipush (-103), 2) := by decide +kernel
theorem dX10_month_35 : decode cX10_month 35 = .ok (.ireturn, 1) := by decide +kernel
theorem dX10_month_36 : decode cX10_month 36 = .ok (.aload_n 3, 1) := by decide +kernel
theorem dX10_month_37 : decode cX10_month 37 = .ok (.iload_n 2, 1) := by decide +kernel
theorem dX10_month_38 : decode cX10_month 38 = .ok (.invokevirtual 75, 3) := by decide +kernel
theorem dX10_month_41 : decode cX10_month 41 = .ok (.ireturn, 1) := by decide +kernel
theorem dX10_swing_0 : decode cX10_swing 0 = .ok (.iload_n 1, 1) := by decide +kernel
theorem dX10_swing_1 : decode cX10_swing 1 = .ok (.ifCond .eq 16, 3) := by decide +kernel
theorem dX10_swing_4 : decode cX10_swing 4 = .ok (.aload_n 0, 1) := by decide +kernel
theorem dX10_swing_5 : decode cX10_swing 5 = .ok (.getfield 10, 3) := by decide +kernel
theorem dX10_swing_8 : decode cX10_swing 8 = .ok (.getfield 63, 3) := by decide +kernel
theorem dX10_swing_11 : decode cX10_swing 11 = .ok (.ifCond .le 6, 3) := by decide +kernel
theorem dX10_swing_14 : decode cX10_swing 14 = .ok (.bipush (-103), 2) := by decide +kernel
theorem dX10_swing_16 : decode cX10_swing 16 = .ok (.ireturn, 1) := by decide +kernel
theorem dX10_swing_17 : decode cX10_swing 17 = .ok (.iload_n 1, 1) := by decide +kernel
theorem dX10_swing_18 : decode cX10_swing 18 = .ok (.aload_n 0, 1) := by decide +kernel
theorem dX10_swing_19 : decode cX10_swing 19 = .ok (.getfield 10, 3) := by decide +kernel
theorem dX10_swing_22 : decode cX10_swing 22 = .ok (.getfield 78, 3) := by decide +kernel
theorem dX10_swing_25 : decode cX10_swing 25 = .ok (.if_icmp .ne 7, 3) := by decide +kernel
theorem dX10_swing_28 : decode cX10_swing 28 = .ok (.iconst 1, 1) := by decide +kernel
theorem dX10_swing_29 : decode cX10_swing 29 = .ok (.goto 4, 3) := by decide +kernel
theorem dX10_swing_32 : decode cX10_swing 32 = .ok (.iconst 0, 1) := by decide +kernel
theorem dX10_swing_33 : decode cX10_swing 33 = .ok (.istore_n 2, 1) := by decide +kernel
theorem dX10_swing_34 : decode cX10_swing 34 = .ok (.aload_n 0, 1) := by decide +kernel
theorem dX10_swing_35 : decode cX10_swing 35 = .ok (.getfield 10, 3) := by decide +kernel
theorem dX10_swing_38 : decode cX10_swing 38 = .ok (.iload_n 1, 1) := by decide +kernel
theorem dX10_swing_39 : decode cX10_swing 39 = .ok (.ifCond .ne 7, 3) := by decide +kernel
theorem dX10_swing_42 : decode cX10_swing 42 = .ok (.iconst 1, 1) := by decide +kernel
theorem dX10_swing_43 : decode cX10_swing 43 = .ok (.goto 4, 3) := by decide +kernel
theorem dX10_swing_46 : decode cX10_swing 46 = .ok (.iconst 0, 1) := by decide +kernel
theorem dX10_swing_47 : decode cX10_swing 47 = .ok (.putfield 78, 3) := by decide +kernel
theorem dX10_swing_50 : decode cX10_swing 50 = .ok (.iload_n 2, 1) := by decide +kernel
theorem dX10_swing_51 : decode cX10_swing 51 = .ok (.ifCond .eq 7, 3) := by decide +kernel
theorem dX10_swing_54 : decode cX10_swing 54 = .ok (.iconst 1, 1) := by decide +kernel
theorem dX10_swing_55 : decode cX10_swing 55 = .ok (.goto 4, 3) := by decide +kernel
theorem dX10_swing_58 : decode cX10_swing 58 = .ok (.iconst 0, 1) := by decide +kernel
theorem dX10_swing_59 : decode cX10_swing 59 = .ok (.ireturn, 1) := by decide +kernel
theorem dX10_rush_0 : decode cX10_rush 0 = .ok (.iload_n 1, 1) := by decide +kernel
theorem dX10_rush_1 : decode cX10_rush 1 = .ok (.iconst 0, 1) := by decide +kernel
theorem dX10_rush_2 : decode cX10_rush 2 = .ok (.bipush 23, 2) := by decide +kernel
theorem dX10_rush_4 : decode cX10_rush 4 = .ok (.invokestatic 26, 3) := by decide +kernel
theorem dX10_rush_7 : decode cX10_rush 7 = .ok (.ifCond .eq 6, 3) := by decide +kernel
theorem dX10_rush_10 : decode cX10_rush 10 = .ok (.bipush (-102), 2) := by decide +kernel
theorem dX10_rush_12 : decode cX10_rush 12 = .ok (.ireturn, 1) := by decide +kernel
theorem dX10_rush_13 : decode cX10_rush 13 = .ok (.iconst 0, 1) := by decide +kernel
theorem dX10_rush_14 : decode cX10_rush 14 = .ok (.istore_n 2, 1) := by decide +kernel
theorem dX10_rush_15 : decode cX10_rush 15 = .ok (.iconst 0, 1) := by decide +kernel
theorem dX10_rush_16 : decode cX10_rush 16 = .ok (.istore_n 3, 1) := by decide +kernel
theorem dX10_rush_17 : decode cX10_rush 17 = .ok (.iload_n 3, 1) := by decide +kernel
theorem dX10_rush_18 : decode cX10_rush 18 = .ok (.aload_n 0, 1) := by decide +kernel
theorem dX10_rush_19 : decode cX10_rush 19 = .ok (.getfield 18, 3) := by decide +kernel
theorem dX10_rush_22 : decode cX10_rush 22 = .ok (.arraylength, 1) := by decide +kernel
theorem dX10_rush_23 : decode cX10_rush 23 = .ok (.if_icmp .ge 49, 3) := by decide +kernel
theorem dX10_rush_26 : decode cX10_rush 26 = .ok (.aload_n 0, 1) := by decide +kernel
theorem dX10_rush_27 : decode cX10_rush 27 = .ok (.getfield 18, 3) := by decide +kernel
theorem dX10_rush_30 : decode cX10_rush 30 = .ok (.iload_n 3, 1) := by decide +kernel
theorem dX10_rush_31 : decode cX10_rush 31 = .ok (.aaload, 1) := by decide +kernel
theorem dX10_rush_32 : decode cX10_rush 32 = .ok (.astore 4, 2) := by decide +kernel
theorem dX10_rush_34 : decode cX10_rush 34 = .ok (.aload 4, 2) := by decide +kernel
theorem dX10_rush_36 : decode cX10_rush 36 = .ok (.ifnull 30, 3) := by decide +kernel
theorem dX10_rush_39 : decode cX10_rush 39 = .ok (.aload 4, 2) := by decide +kernel
theorem dX10_rush_41 : decode cX10_rush 41 = .ok (.getfield 50, 3) := by decide +kernel
theorem dX10_rush_44 : decode cX10_rush 44 = .ok (.ifCond .ne 22, 3) := by decide +kernel
theorem dX10_rush_47 : decode cX10_rush 47 = .ok (.aload 4, 2) := by decide +kernel
theorem dX10_rush_49 : decode cX10_rush 49 = .ok (.iload_n 1, 1) := by decide +kernel
theorem dX10_rush_50 : decode cX10_rush 50 = .ok (.invokevirtual 53, 3) := by decide +kernel
theorem dX10_rush_53 : decode cX10_rush 53 = .ok (.iinc 2 1, 3) := by decide +kernel
theorem dX10_rush_56 : decode cX10_rush 56 = .ok (.goto 10, 3) := by decide +kernel
theorem dX10_rush_59 : decode cX10_rush 59 = .ok (.astore 5, 2) := by decide +kernel
theorem dX10_rush_61 : decode cX10_rush 61 = .ok (.goto 5, 3) := by decide +kernel
theorem dX10_rush_64 : decode cX10_rush 64 = .ok (.astore 5, 2) := by decide +kernel
theorem dX10_rush_66 : decode cX10_rush 66 = .ok (.iinc 3 1, 3) := by decide +kernel
theorem dX10_rush_69 : decode cX10_rush 69 = .ok (.goto (-52), 3) := by decide +kernel
theorem dX10_rush_72 : decode cX10_rush 72 = .ok (.iload_n 2, 1) := by decide +kernel
theorem dX10_rush_73 : decode cX10_rush 73 = .ok (.ireturn, 1) := by decide +kernel
theorem dX10_clear_0 : decode cX10_clear 0 = .ok (.aload_n 0, 1) := by decide +kernel
theorem dX10_clear_1 : decode cX10_clear 1 = .ok (.getfield 10, 3) := by decide +kernel
theorem dX10_clear_4 : decode cX10_clear 4 = .ok (.getfield 63, 3) := by decide +kernel
theorem dX10_clear_7 : decode cX10_clear 7 = .ok (.istore_n 1, 1) := by decide +kernel
theorem dX10_clear_8 : decode cX10_clear 8 = .ok (.iconst 0, 1) := by decide +kernel
theorem dX10_clear_9 : decode cX10_clear 9 = .ok (.istore_n 2, 1) := by decide +kernel
theorem dX10_clear_10 : decode cX10_clear 10 = .ok (.iload_n 2, 1) := by decide +kernel
theorem dX10_clear_11 : decode cX10_clear 11 = .ok (.iload_n 1, 1) := by decide +kernel
theorem dX10_clear_12 : decode cX10_clear 12 = .ok (.if_icmp .ge 26, 3) := by decide +kernel
theorem dX10_clear_15 : decode cX10_clear 15 = .ok (.aload_n 0, 1) := by decide +kernel
theorem dX10_clear_16 : decode cX10_clear 16 = .ok (.getfield 10, 3) := by decide +kernel
theorem dX10_clear_19 : decode cX10_clear 19 = .ok (.iconst 0, 1) := by decide +kernel
theorem dX10_clear_20 : decode cX10_clear 20 = .ok (.invokevirtual 86, 3) := by decide +kernel
theorem dX10_clear_23 : decode cX10_clear 23 = .ok (.astore_n 3, 1) := by decide +kernel
theorem dX10_clear_24 : decode cX10_clear 24 = .ok (.aload_n 3, 1) := by decide +kernel
theorem dX10_clear_25 : decode cX10_clear 25 = .ok (.ifnull 7, 3) := by decide +kernel
theorem dX10_clear_28 : decode cX10_clear 28 = .ok (.aload_n 3, 1) := by decide +kernel
theorem dX10_clear_29 : decode cX10_clear 29 = .ok (.invokevirtual 60, 3) := by decide +kernel
theorem dX10_clear_32 : decode cX10_clear 32 = .ok (.iinc 2 1, 3) := by decide +kernel
theorem dX10_clear_35 : decode cX10_clear 35 = .ok (.goto (-25), 3) := by decide +kernel
theorem dX10_clear_38 : decode cX10_clear 38 = .ok (.iload_n 1, 1) := by decide +kernel
theorem dX10_clear_39 : decode cX10_clear 39 = .ok (.ireturn, 1) := by decide +kernel
theorem dX10_tell_0 : decode cX10_tell 0 = .ok (.aload_n 0, 1) := by decide +kernel
theorem dX10_tell_1 : decode cX10_tell 1 = .ok (.iload_n 1, 1) := by decide +kernel
theorem dX10_tell_2 : decode cX10_tell 2 = .ok (.invokevirtual 34, 3) := by decide +kernel
theorem dX10_tell_5 : decode cX10_tell 5 = .ok (.astore_n 3, 1) := by decide +kernel
theorem dX10_tell_6 : decode cX10_tell 6 = .ok (.aload_n 3, 1) := by decide +kernel
theorem dX10_tell_7 : decode cX10_tell 7 = .ok (.ifnonnull 6, 3) := by decide +kernel
theorem dX10_tell_10 : decode cX10_tell 10 = .ok (.bipush (-101), 2) := by decide +kernel
theorem dX10_tell_12 : decode cX10_tell 12 = .ok (.ireturn, 1) := by decide +kernel
theorem dX10_tell_13 : decode cX10_tell 13 = .ok (.iload_n 2, 1) := by decide +kernel
theorem dX10_tell_14 : decode cX10_tell 14 = .ok (.tableswitch 86 0 7 #[46, 51, 56, 61, 66, 71, 76, 81], 46) := by decide +kernel
theorem dX10_tell_60 : decode cX10_tell 60 = .ok (.aload_n 3, 1) := by decide +kernel
theorem dX10_tell_61 : decode cX10_tell 61 = .ok (.getfield 89, 3) := by decide +kernel
theorem dX10_tell_64 : decode cX10_tell 64 = .ok (.ireturn, 1) := by decide +kernel
theorem dX10_tell_65 : decode cX10_tell 65 = .ok (.aload_n 3, 1) := by decide +kernel
theorem dX10_tell_66 : decode cX10_tell 66 = .ok (.getfield 92, 3) := by decide +kernel
theorem dX10_tell_69 : decode cX10_tell 69 = .ok (.ireturn, 1) := by decide +kernel
theorem dX10_tell_70 : decode cX10_tell 70 = .ok (.aload_n 3, 1) := by decide +kernel
theorem dX10_tell_71 : decode cX10_tell 71 = .ok (.getfield 95, 3) := by decide +kernel
theorem dX10_tell_74 : decode cX10_tell 74 = .ok (.ireturn, 1) := by decide +kernel
theorem dX10_tell_75 : decode cX10_tell 75 = .ok (.aload_n 3, 1) := by decide +kernel
theorem dX10_tell_76 : decode cX10_tell 76 = .ok (.getfield 98, 3) := by decide +kernel
theorem dX10_tell_79 : decode cX10_tell 79 = .ok (.ireturn, 1) := by decide +kernel
theorem dX10_tell_80 : decode cX10_tell 80 = .ok (.aload_n 3, 1) := by decide +kernel
theorem dX10_tell_81 : decode cX10_tell 81 = .ok (.getfield 50, 3) := by decide +kernel
theorem dX10_tell_84 : decode cX10_tell 84 = .ok (.ireturn, 1) := by decide +kernel
theorem dX10_tell_85 : decode cX10_tell 85 = .ok (.aload_n 3, 1) := by decide +kernel
theorem dX10_tell_86 : decode cX10_tell 86 = .ok (.getfield 57, 3) := by decide +kernel
theorem dX10_tell_89 : decode cX10_tell 89 = .ok (.ireturn, 1) := by decide +kernel
theorem dX10_tell_90 : decode cX10_tell 90 = .ok (.aload_n 3, 1) := by decide +kernel
theorem dX10_tell_91 : decode cX10_tell 91 = .ok (.getfield 101, 3) := by decide +kernel
theorem dX10_tell_94 : decode cX10_tell 94 = .ok (.ireturn, 1) := by decide +kernel
theorem dX10_tell_95 : decode cX10_tell 95 = .ok (.aload_n 3, 1) := by decide +kernel
theorem dX10_tell_96 : decode cX10_tell 96 = .ok (.getfield 104, 3) := by decide +kernel
theorem dX10_tell_99 : decode cX10_tell 99 = .ok (.ireturn, 1) := by decide +kernel
theorem dX10_tell_100 : decode cX10_tell 100 = .ok (.bipush (-102), 2) := by decide +kernel
theorem dX10_tell_102 : decode cX10_tell 102 = .ok (.ireturn, 1) := by decide +kernel
theorem dX10_deck_0 : decode cX10_deck 0 = .ok (.aload_n 0, 1) := by decide +kernel
theorem dX10_deck_1 : decode cX10_deck 1 = .ok (.getfield 10, 3) := by decide +kernel
theorem dX10_deck_4 : decode cX10_deck 4 = .ok (.iload_n 1, 1) := by decide +kernel
theorem dX10_deck_5 : decode cX10_deck 5 = .ok (.invokevirtual 86, 3) := by decide +kernel
theorem dX10_deck_8 : decode cX10_deck 8 = .ok (.astore_n 2, 1) := by decide +kernel
theorem dX10_deck_9 : decode cX10_deck 9 = .ok (.aload_n 2, 1) := by decide +kernel
theorem dX10_deck_10 : decode cX10_deck 10 = .ok (.ifnonnull 6, 3) := by decide +kernel
theorem dX10_deck_13 : decode cX10_deck 13 = .ok (.bipush (-101), 2) := by decide +kernel
theorem dX10_deck_15 : decode cX10_deck 15 = .ok (.ireturn, 1) := by decide +kernel
theorem dX10_deck_16 : decode cX10_deck 16 = .ok (.aload_n 2, 1) := by decide +kernel
theorem dX10_deck_17 : decode cX10_deck 17 = .ok (.getfield 107, 3) := by decide +kernel
theorem dX10_deck_20 : decode cX10_deck 20 = .ok (.ireturn, 1) := by decide +kernel
theorem dX10_began_0 : decode cX10_began 0 = .ok (.iload_n 1, 1) := by decide +kernel
theorem dX10_began_1 : decode cX10_began 1 = .ok (.ifCond .lt 15, 3) := by decide +kernel
theorem dX10_began_4 : decode cX10_began 4 = .ok (.iload_n 1, 1) := by decide +kernel
theorem dX10_began_5 : decode cX10_began 5 = .ok (.aload_n 0, 1) := by decide +kernel
theorem dX10_began_6 : decode cX10_began 6 = .ok (.getfield 10, 3) := by decide +kernel
theorem dX10_began_9 : decode cX10_began 9 = .ok (.getfield 110, 3) := by decide +kernel
theorem dX10_began_12 : decode cX10_began 12 = .ok (.arraylength, 1) := by decide +kernel
theorem dX10_began_13 : decode cX10_began 13 = .ok (.if_icmp .lt 6, 3) := by decide +kernel
theorem dX10_began_16 : decode cX10_began 16 = .ok (.bipush (-102), 2) := by decide +kernel
theorem dX10_began_18 : decode cX10_began 18 = .ok (.ireturn, 1) := by decide +kernel
theorem dX10_began_19 : decode cX10_began 19 = .ok (.aload_n 0, 1) := by decide +kernel
theorem dX10_began_20 : decode cX10_began 20 = .ok (.getfield 10, 3) := by decide +kernel
theorem dX10_began_23 : decode cX10_began 23 = .ok (.getfield 110, 3) := by decide +kernel
theorem dX10_began_26 : decode cX10_began 26 = .ok (.iload_n 1, 1) := by decide +kernel
theorem dX10_began_27 : decode cX10_began 27 = .ok (.iaload, 1) := by decide +kernel
theorem dX10_began_28 : decode cX10_began 28 = .ok (.ireturn, 1) := by decide +kernel
theorem dX10_count_0 : decode cX10_count 0 = .ok (.iload_n 1, 1) := by decide +kernel
theorem dX10_count_1 : decode cX10_count 1 = .ok (.tableswitch 92 0 5 #[39, 44, 52, 60, 76, 84], 39) := by decide +kernel
theorem dX10_count_40 : decode cX10_count 40 = .ok (.aload_n 0, 1) := by decide +kernel
theorem dX10_count_41 : decode cX10_count 41 = .ok (.getfield 22, 3) := by decide +kernel
theorem dX10_count_44 : decode cX10_count 44 = .ok (.ireturn, 1) := by decide +kernel
theorem dX10_count_45 : decode cX10_count 45 = .ok (.aload_n 0, 1) := by decide +kernel
theorem dX10_count_46 : decode cX10_count 46 = .ok (.getfield 10, 3) := by decide +kernel
theorem dX10_count_49 : decode cX10_count 49 = .ok (.getfield 63, 3) := by decide +kernel
theorem dX10_count_52 : decode cX10_count 52 = .ok (.ireturn, 1) := by decide +kernel
theorem dX10_count_53 : decode cX10_count 53 = .ok (.aload_n 0, 1) := by decide +kernel
theorem dX10_count_54 : decode cX10_count 54 = .ok (.getfield 10, 3) := by decide +kernel
theorem dX10_count_57 : decode cX10_count 57 = .ok (.getfield 114, 3) := by decide +kernel
theorem dX10_count_60 : decode cX10_count 60 = .ok (.ireturn, 1) := by decide +kernel
theorem dX10_count_61 : decode cX10_count 61 = .ok (.aload_n 0, 1) := by decide +kernel
theorem dX10_count_62 : decode cX10_count 62 = .ok (.getfield 10, 3) := by decide +kernel
theorem dX10_count_65 : decode cX10_count 65 = .ok (.getfield 78, 3) := by decide +kernel
theorem dX10_count_68 : decode cX10_count 68 = .ok (.ifCond .eq 7, 3) := by decide +kernel
theorem dX10_count_71 : decode cX10_count 71 = .ok (.iconst 1, 1) := by decide +kernel
theorem dX10_count_72 : decode cX10_count 72 = .ok (.goto 4, 3) := by decide +kernel
theorem dX10_count_75 : decode cX10_count 75 = .ok (.iconst 0, 1) := by decide +kernel
theorem dX10_count_76 : decode cX10_count 76 = .ok (.ireturn, 1) := by decide +kernel
theorem dX10_count_77 : decode cX10_count 77 = .ok (.aload_n 0, 1) := by decide +kernel
theorem dX10_count_78 : decode cX10_count 78 = .ok (.getfield 10, 3) := by decide +kernel
theorem dX10_count_81 : decode cX10_count 81 = .ok (.getfield 117, 3) := by decide +kernel
theorem dX10_count_84 : decode cX10_count 84 = .ok (.ireturn, 1) := by decide +kernel
theorem dX10_count_85 : decode cX10_count 85 = .ok (.aload_n 0, 1) := by decide +kernel
theorem dX10_count_86 : decode cX10_count 86 = .ok (.getfield 10, 3) := by decide +kernel
theorem dX10_count_89 : decode cX10_count 89 = .ok (.getfield 120, 3) := by decide +kernel
theorem dX10_count_92 : decode cX10_count 92 = .ok (.ireturn, 1) := by decide +kernel
theorem dX10_count_93 : decode cX10_count 93 = .ok (.bipush (-102), 2) := by decide +kernel
theorem dX10_count_95 : decode cX10_count 95 = .ok (.ireturn, 1) := by decide +kernel
theorem dX10_isOutside_0 : decode cX10_isOutside 0 = .ok (.iload_n 0, 1) := by decide +kernel
theorem dX10_isOutside_1 : decode cX10_isOutside 1 = .ok (.iload_n 1, 1) := by decide +kernel
theorem dX10_isOutside_2 : decode cX10_isOutside 2 = .ok (.if_icmp .lt 8, 3) := by decide +kernel
theorem dX10_isOutside_5 : decode cX10_isOutside 5 = .ok (.iload_n 0, 1) := by decide +kernel
theorem dX10_isOutside_6 : decode cX10_isOutside 6 = .ok (.iload_n 2, 1) := by decide +kernel
theorem dX10_isOutside_7 : decode cX10_isOutside 7 = .ok (.if_icmp .le 7, 3) := by decide +kernel
theorem dX10_isOutside_10 : decode cX10_isOutside 10 = .ok (.iconst 1, 1) := by decide +kernel
theorem dX10_isOutside_11 : decode cX10_isOutside 11 = .ok (.goto 4, 3) := by decide +kernel
theorem dX10_isOutside_14 : decode cX10_isOutside 14 = .ok (.iconst 0, 1) := by decide +kernel
theorem dX10_isOutside_15 : decode cX10_isOutside 15 = .ok (.ireturn, 1) := by decide +kernel
theorem dX10_find_0 : decode cX10_find 0 = .ok (.iload_n 1, 1) := by decide +kernel
theorem dX10_find_1 : decode cX10_find 1 = .ok (.ifCond .lt 12, 3) := by decide +kernel
theorem dX10_find_4 : decode cX10_find 4 = .ok (.iload_n 1, 1) := by decide +kernel
theorem dX10_find_5 : decode cX10_find 5 = .ok (.aload_n 0, 1) := by decide +kernel
theorem dX10_find_6 : decode cX10_find 6 = .ok (.getfield 18, 3) := by decide +kernel
theorem dX10_find_9 : decode cX10_find 9 = .ok (.arraylength, 1) := by decide +kernel
theorem dX10_find_10 : decode cX10_find 10 = .ok (.if_icmp .lt 5, 3) := by decide +kernel
theorem dX10_find_13 : decode cX10_find 13 = .ok (.aconst_null, 1) := by decide +kernel
theorem dX10_find_14 : decode cX10_find 14 = .ok (.areturn, 1) := by decide +kernel
theorem dX10_find_15 : decode cX10_find 15 = .ok (.aload_n 0, 1) := by decide +kernel
theorem dX10_find_16 : decode cX10_find 16 = .ok (.getfield 18, 3) := by decide +kernel
theorem dX10_find_19 : decode cX10_find 19 = .ok (.iload_n 1, 1) := by decide +kernel
theorem dX10_find_20 : decode cX10_find 20 = .ok (.aaload, 1) := by decide +kernel
theorem dX10_find_21 : decode cX10_find 21 = .ok (.areturn, 1) := by decide +kernel
theorem dX10_make_0 : decode cX10_make 0 = .ok (.iload_n 2, 1) := by decide +kernel
theorem dX10_make_1 : decode cX10_make 1 = .ok (.tableswitch 199 1 8 #[47, 66, 85, 104, 123, 142, 161, 180], 47) := by decide +kernel
theorem dX10_make_48 : decode cX10_make 48 = .ok (.new 123, 3) := by decide +kernel
theorem dX10_make_51 : decode cX10_make 51 = .ok (.dup, 1) := by decide +kernel
theorem dX10_make_52 : decode cX10_make 52 = .ok (.aload_n 0, 1) := by decide +kernel
theorem dX10_make_53 : decode cX10_make 53 = .ok (.getfield 10, 3) := by decide +kernel
theorem dX10_make_56 : decode cX10_make 56 = .ok (.iload_n 1, 1) := by decide +kernel
theorem dX10_make_57 : decode cX10_make 57 = .ok (.iload_n 2, 1) := by decide +kernel
theorem dX10_make_58 : decode cX10_make 58 = .ok (.iload_n 3, 1) := by decide +kernel
theorem dX10_make_59 : decode cX10_make 59 = .ok (.iload 4, 2) := by decide +kernel
theorem dX10_make_61 : decode cX10_make 61 = .ok (.iload 5, 2) := by decide +kernel
theorem dX10_make_63 : decode cX10_make 63 = .ok (.invokespecial 125, 3) := by decide +kernel
theorem dX10_make_66 : decode cX10_make 66 = .ok (.areturn, 1) := by decide +kernel
theorem dX10_make_67 : decode cX10_make 67 = .ok (.new 128, 3) := by decide +kernel
theorem dX10_make_70 : decode cX10_make 70 = .ok (.dup, 1) := by decide +kernel
theorem dX10_make_71 : decode cX10_make 71 = .ok (.aload_n 0, 1) := by decide +kernel
theorem dX10_make_72 : decode cX10_make 72 = .ok (.getfield 10, 3) := by decide +kernel
theorem dX10_make_75 : decode cX10_make 75 = .ok (.iload_n 1, 1) := by decide +kernel
theorem dX10_make_76 : decode cX10_make 76 = .ok (.iload_n 2, 1) := by decide +kernel
theorem dX10_make_77 : decode cX10_make 77 = .ok (.iload_n 3, 1) := by decide +kernel
theorem dX10_make_78 : decode cX10_make 78 = .ok (.iload 4, 2) := by decide +kernel
theorem dX10_make_80 : decode cX10_make 80 = .ok (.iload 5, 2) := by decide +kernel
theorem dX10_make_82 : decode cX10_make 82 = .ok (.invokespecial 130, 3) := by decide +kernel
theorem dX10_make_85 : decode cX10_make 85 = .ok (.areturn, 1) := by decide +kernel
theorem dX10_make_86 : decode cX10_make 86 = .ok (.new 131, 3) := by decide +kernel
theorem dX10_make_89 : decode cX10_make 89 = .ok (.dup, 1) := by decide +kernel
theorem dX10_make_90 : decode cX10_make 90 = .ok (.aload_n 0, 1) := by decide +kernel
theorem dX10_make_91 : decode cX10_make 91 = .ok (.getfield 10, 3) := by decide +kernel
theorem dX10_make_94 : decode cX10_make 94 = .ok (.iload_n 1, 1) := by decide +kernel
theorem dX10_make_95 : decode cX10_make 95 = .ok (.iload_n 2, 1) := by decide +kernel
theorem dX10_make_96 : decode cX10_make 96 = .ok (.iload_n 3, 1) := by decide +kernel
theorem dX10_make_97 : decode cX10_make 97 = .ok (.iload 4, 2) := by decide +kernel
theorem dX10_make_99 : decode cX10_make 99 = .ok (.iload 5, 2) := by decide +kernel
theorem dX10_make_101 : decode cX10_make 101 = .ok (.invokespecial 133, 3) := by decide +kernel
theorem dX10_make_104 : decode cX10_make 104 = .ok (.areturn, 1) := by decide +kernel
theorem dX10_make_105 : decode cX10_make 105 = .ok (.new 134, 3) := by decide +kernel
theorem dX10_make_108 : decode cX10_make 108 = .ok (.dup, 1) := by decide +kernel
theorem dX10_make_109 : decode cX10_make 109 = .ok (.aload_n 0, 1) := by decide +kernel
theorem dX10_make_110 : decode cX10_make 110 = .ok (.getfield 10, 3) := by decide +kernel
theorem dX10_make_113 : decode cX10_make 113 = .ok (.iload_n 1, 1) := by decide +kernel
theorem dX10_make_114 : decode cX10_make 114 = .ok (.iload_n 2, 1) := by decide +kernel
theorem dX10_make_115 : decode cX10_make 115 = .ok (.iload_n 3, 1) := by decide +kernel
theorem dX10_make_116 : decode cX10_make 116 = .ok (.iload 4, 2) := by decide +kernel
theorem dX10_make_118 : decode cX10_make 118 = .ok (.iload 5, 2) := by decide +kernel
theorem dX10_make_120 : decode cX10_make 120 = .ok (.invokespecial 136, 3) := by decide +kernel
theorem dX10_make_123 : decode cX10_make 123 = .ok (.areturn, 1) := by decide +kernel
theorem dX10_make_124 : decode cX10_make 124 = .ok (.new 137, 3) := by decide +kernel
theorem dX10_make_127 : decode cX10_make 127 = .ok (.dup, 1) := by decide +kernel
theorem dX10_make_128 : decode cX10_make 128 = .ok (.aload_n 0, 1) := by decide +kernel
theorem dX10_make_129 : decode cX10_make 129 = .ok (.getfield 10, 3) := by decide +kernel
theorem dX10_make_132 : decode cX10_make 132 = .ok (.iload_n 1, 1) := by decide +kernel
theorem dX10_make_133 : decode cX10_make 133 = .ok (.iload_n 2, 1) := by decide +kernel
theorem dX10_make_134 : decode cX10_make 134 = .ok (.iload_n 3, 1) := by decide +kernel
theorem dX10_make_135 : decode cX10_make 135 = .ok (.iload 4, 2) := by decide +kernel
theorem dX10_make_137 : decode cX10_make 137 = .ok (.iload 5, 2) := by decide +kernel
theorem dX10_make_139 : decode cX10_make 139 = .ok (.invokespecial 139, 3) := by decide +kernel
theorem dX10_make_142 : decode cX10_make 142 = .ok (.areturn, 1) := by decide +kernel
theorem dX10_make_143 : decode cX10_make 143 = .ok (.new 140, 3) := by decide +kernel
theorem dX10_make_146 : decode cX10_make 146 = .ok (.dup, 1) := by decide +kernel
theorem dX10_make_147 : decode cX10_make 147 = .ok (.aload_n 0, 1) := by decide +kernel
theorem dX10_make_148 : decode cX10_make 148 = .ok (.getfield 10, 3) := by decide +kernel
theorem dX10_make_151 : decode cX10_make 151 = .ok (.iload_n 1, 1) := by decide +kernel
theorem dX10_make_152 : decode cX10_make 152 = .ok (.iload_n 2, 1) := by decide +kernel
theorem dX10_make_153 : decode cX10_make 153 = .ok (.iload_n 3, 1) := by decide +kernel
theorem dX10_make_154 : decode cX10_make 154 = .ok (.iload 4, 2) := by decide +kernel
theorem dX10_make_156 : decode cX10_make 156 = .ok (.iload 5, 2) := by decide +kernel
theorem dX10_make_158 : decode cX10_make 158 = .ok (.invokespecial 142, 3) := by decide +kernel
theorem dX10_make_161 : decode cX10_make 161 = .ok (.areturn, 1) := by decide +kernel
theorem dX10_make_162 : decode cX10_make 162 = .ok (.new 143, 3) := by decide +kernel
theorem dX10_make_165 : decode cX10_make 165 = .ok (.dup, 1) := by decide +kernel
theorem dX10_make_166 : decode cX10_make 166 = .ok (.aload_n 0, 1) := by decide +kernel
theorem dX10_make_167 : decode cX10_make 167 = .ok (.getfield 10, 3) := by decide +kernel
theorem dX10_make_170 : decode cX10_make 170 = .ok (.iload_n 1, 1) := by decide +kernel
theorem dX10_make_171 : decode cX10_make 171 = .ok (.iload_n 2, 1) := by decide +kernel
theorem dX10_make_172 : decode cX10_make 172 = .ok (.iload_n 3, 1) := by decide +kernel
theorem dX10_make_173 : decode cX10_make 173 = .ok (.iload 4, 2) := by decide +kernel
theorem dX10_make_175 : decode cX10_make 175 = .ok (.iload 5, 2) := by decide +kernel
theorem dX10_make_177 : decode cX10_make 177 = .ok (.invokespecial 145, 3) := by decide +kernel
theorem dX10_make_180 : decode cX10_make 180 = .ok (.areturn, 1) := by decide +kernel
theorem dX10_make_181 : decode cX10_make 181 = .ok (.new 146, 3) := by decide +kernel
theorem dX10_make_184 : decode cX10_make 184 = .ok (.dup, 1) := by decide +kernel
theorem dX10_make_185 : decode cX10_make 185 = .ok (.aload_n 0, 1) := by decide +kernel
theorem dX10_make_186 : decode cX10_make 186 = .ok (.getfield 10, 3) := by decide +kernel
theorem dX10_make_189 : decode cX10_make 189 = .ok (.iload_n 1, 1) := by decide +kernel
theorem dX10_make_190 : decode cX10_make 190 = .ok (.iload_n 2, 1) := by decide +kernel
theorem dX10_make_191 : decode cX10_make 191 = .ok (.iload_n 3, 1) := by decide +kernel
theorem dX10_make_192 : decode cX10_make 192 = .ok (.iload 4, 2) := by decide +kernel
theorem dX10_make_194 : decode cX10_make 194 = .ok (.iload 5, 2) := by decide +kernel
theorem dX10_make_196 : decode cX10_make 196 = .ok (.invokespecial 148, 3) := by decide +kernel
theorem dX10_make_199 : decode cX10_make 199 = .ok (.areturn, 1) := by decide +kernel
theorem dX10_make_200 : decode cX10_make 200 = .ok (.new 16, 3) := by decide +kernel
theorem dX10_make_203 : decode cX10_make 203 = .ok (.dup, 1) := by decide +kernel
theorem dX10_make_204 : decode cX10_make 204 = .ok (.aload_n 0, 1) := by decide +kernel
theorem dX10_make_205 : decode cX10_make 205 = .ok (.getfield 10, 3) := by decide +kernel
theorem dX10_make_208 : decode cX10_make 208 = .ok (.iload_n 1, 1) := by decide +kernel
theorem dX10_make_209 : decode cX10_make 209 = .ok (.iload_n 2, 1) := by decide +kernel
theorem dX10_make_210 : decode cX10_make 210 = .ok (.iload_n 3, 1) := by decide +kernel
theorem dX10_make_211 : decode cX10_make 211 = .ok (.iload 4, 2) := by decide +kernel
theorem dX10_make_213 : decode cX10_make 213 = .ok (.iload 5, 2) := by decide +kernel
theorem dX10_make_215 : decode cX10_make 215 = .ok (.invokespecial 149, 3) := by decide +kernel
theorem dX10_make_218 : decode cX10_make 218 = .ok (.areturn, 1) := by decide +kernel
theorem dJ9_max_7cf53_0 : decode cJ9_max_7cf53 0 = .ok (.iload_n 0, 1) := by decide +kernel
theorem dJ9_max_7cf53_1 : decode cJ9_max_7cf53 1 = .ok (.iload_n 1, 1) := by decide +kernel
theorem dJ9_max_7cf53_2 : decode cJ9_max_7cf53 2 = .ok (.if_icmp .lt 7, 3) := by decide +kernel
theorem dJ9_max_7cf53_5 : decode cJ9_max_7cf53 5 = .ok (.iload_n 0, 1) := by decide +kernel
theorem dJ9_max_7cf53_6 : decode cJ9_max_7cf53 6 = .ok (.goto 4, 3) := by decide +kernel
theorem dJ9_max_7cf53_9 : decode cJ9_max_7cf53 9 = .ok (.iload_n 1, 1) := by decide +kernel
theorem dJ9_max_7cf53_10 : decode cJ9_max_7cf53 10 = .ok (.ireturn, 1) := by decide +kernel
theorem dJ9_min_7cf53_0 : decode cJ9_min_7cf53 0 = .ok (.iload_n 0, 1) := by decide +kernel
theorem dJ9_min_7cf53_1 : decode cJ9_min_7cf53 1 = .ok (.iload_n 1, 1) := by decide +kernel
theorem dJ9_min_7cf53_2 : decode cJ9_min_7cf53 2 = .ok (.if_icmp .gt 7, 3) := by decide +kernel
theorem dJ9_min_7cf53_5 : decode cJ9_min_7cf53 5 = .ok (.iload_n 0, 1) := by decide +kernel
theorem dJ9_min_7cf53_6 : decode cJ9_min_7cf53 6 = .ok (.goto 4, 3) := by decide +kernel
theorem dJ9_min_7cf53_9 : decode cJ9_min_7cf53 9 = .ok (.iload_n 1, 1) := by decide +kernel
theorem dJ9_min_7cf53_10 : decode cJ9_min_7cf53 10 = .ok (.ireturn, 1) := by decide +kernel
