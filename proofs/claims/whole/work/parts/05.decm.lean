theorem dX11_init_0 : decode cX11_init 0 = .ok (.aload_n 0, 1) := by decide +kernel
theorem dX11_init_1 : decode cX11_init 1 = .ok (.invokespecial 1, 3) := by decide +kernel
theorem dX11_init_4 : decode cX11_init 4 = .ok (.aload_n 0, 1) := by decide +kernel
theorem dX11_init_5 : decode cX11_init 5 = .ok (.bipush 24, 2) := by decide +kernel
theorem dX11_init_7 : decode cX11_init 7 = .ok (.newarray .int, 2) := by decide +kernel
theorem dX11_init_9 : decode cX11_init 9 = .ok (.putfield 7, 3) := by decide +kernel
theorem dX11_init_12 : decode cX11_init 12 = .ok (.aload_n 0, 1) := by decide +kernel
theorem dX11_init_13 : decode cX11_init 13 = .ok (.bipush 24, 2) := by decide +kernel
theorem dX11_init_15 : decode cX11_init 15 = .ok (.newarray .int, 2) := by decide +kernel
theorem dX11_init_17 : decode cX11_init 17 = .ok (.putfield 13, 3) := by decide +kernel
theorem dX11_init_20 : decode cX11_init 20 = .ok (.aload_n 0, 1) := by decide +kernel
theorem dX11_init_21 : decode cX11_init 21 = .ok (.bipush 24, 2) := by decide +kernel
theorem dX11_init_23 : decode cX11_init 23 = .ok (.newarray .int, 2) := by decide +kernel
theorem dX11_init_25 : decode cX11_init 25 = .ok (.putfield 16, 3) := by decide +kernel
theorem dX11_init_28 : decode cX11_init 28 = .ok (.aload_n 0, 1) := by decide +kernel
theorem dX11_init_29 : decode cX11_init 29 = .ok (.bipush 24, 2) := by decide +kernel
theorem dX11_init_31 : decode cX11_init 31 = .ok (.newarray .int, 2) := by decide +kernel
theorem dX11_init_33 : decode cX11_init 33 = .ok (.putfield 19, 3) := by decide +kernel
theorem dX11_init_36 : decode cX11_init 36 = .ok (.aload_n 0, 1) := by decide +kernel
theorem dX11_init_37 : decode cX11_init 37 = .ok (.bipush 24, 2) := by decide +kernel
theorem dX11_init_39 : decode cX11_init 39 = .ok (.newarray .int, 2) := by decide +kernel
theorem dX11_init_41 : decode cX11_init 41 = .ok (.putfield 22, 3) := by decide +kernel
theorem dX11_init_44 : decode cX11_init 44 = .ok (.aload_n 0, 1) := by decide +kernel
theorem dX11_init_45 : decode cX11_init 45 = .ok (.bipush 24, 2) := by decide +kernel
theorem dX11_init_47 : decode cX11_init 47 = .ok (.newarray .int, 2) := by decide +kernel
theorem dX11_init_49 : decode cX11_init 49 = .ok (.putfield 25, 3) := by decide +kernel
theorem dX11_init_52 : decode cX11_init 52 = .ok (.aload_n 0, 1) := by decide +kernel
theorem dX11_init_53 : decode cX11_init 53 = .ok (.bipush 24, 2) := by decide +kernel
theorem dX11_init_55 : decode cX11_init 55 = .ok (.newarray .int, 2) := by decide +kernel
theorem dX11_init_57 : decode cX11_init 57 = .ok (.putfield 28, 3) := by decide +kernel
theorem dX11_init_60 : decode cX11_init 60 = .ok (.aload_n 0, 1) := by decide +kernel
theorem dX11_init_61 : decode cX11_init 61 = .ok (.bipush 24, 2) := by decide +kernel
theorem dX11_init_63 : decode cX11_init 63 = .ok (.newarray .int, 2) := by decide +kernel
theorem dX11_init_65 : decode cX11_init 65 = .ok (.putfield 31, 3) := by decide +kernel
theorem dX11_init_68 : decode cX11_init 68 = .ok (.aload_n 0, 1) := by decide +kernel
theorem dX11_init_69 : decode cX11_init 69 = .ok (.bipush 24, 2) := by decide +kernel
theorem dX11_init_71 : decode cX11_init 71 = .ok (.newarray .int, 2) := by decide +kernel
theorem dX11_init_73 : decode cX11_init 73 = .ok (.putfield 34, 3) := by decide +kernel
theorem dX11_init_76 : decode cX11_init 76 = .ok (.aload_n 0, 1) := by decide +kernel
theorem dX11_init_77 : decode cX11_init 77 = .ok (.bipush 9, 2) := by decide +kernel
theorem dX11_init_79 : decode cX11_init 79 = .ok (.newarray .int, 2) := by decide +kernel
theorem dX11_init_81 : decode cX11_init 81 = .ok (.putfield 37, 3) := by decide +kernel
theorem dX11_init_84 : decode cX11_init 84 = .ok (.aload_n 0, 1) := by decide +kernel
theorem dX11_init_85 : decode cX11_init 85 = .ok (.sipush 9000, 3) := by decide +kernel
theorem dX11_init_88 : decode cX11_init 88 = .ok (.putfield 40, 3) := by decide +kernel
theorem dX11_init_91 : decode cX11_init 91 = .ok (.return_, 1) := by decide +kernel
theorem dX11_thrown_0 : decode cX11_thrown 0 = .ok (.aload_n 0, 1) := by decide +kernel
theorem dX11_thrown_1 : decode cX11_thrown 1 = .ok (.getfield 44, 3) := by decide +kernel
theorem dX11_thrown_4 : decode cX11_thrown 4 = .ok (.ireturn, 1) := by decide +kernel
theorem dX11_within_0 : decode cX11_within 0 = .ok (.iload_n 0, 1) := by decide +kernel
theorem dX11_within_1 : decode cX11_within 1 = .ok (.iload_n 1, 1) := by decide +kernel
theorem dX11_within_2 : decode cX11_within 2 = .ok (.if_icmp .lt 12, 3) := by decide +kernel
theorem dX11_within_5 : decode cX11_within 5 = .ok (.iload_n 0, 1) := by decide +kernel
theorem dX11_within_6 : decode cX11_within 6 = .ok (.iload_n 2, 1) := by decide +kernel
theorem dX11_within_7 : decode cX11_within 7 = .ok (.if_icmp .gt 7, 3) := by decide +kernel
theorem dX11_within_10 : decode cX11_within 10 = .ok (.iconst 1, 1) := by decide +kernel
theorem dX11_within_11 : decode cX11_within 11 = .ok (.goto 4, 3) := by decide +kernel
theorem dX11_within_14 : decode cX11_within 14 = .ok (.iconst 0, 1) := by decide +kernel
theorem dX11_within_15 : decode cX11_within 15 = .ok (.ireturn, 1) := by decide +kernel
theorem dX11_isVehicle_0 : decode cX11_isVehicle 0 = .ok (.iload_n 1, 1) := by decide +kernel
theorem dX11_isVehicle_1 : decode cX11_isVehicle 1 = .ok (.iconst 0, 1) := by decide +kernel
theorem dX11_isVehicle_2 : decode cX11_isVehicle 2 = .ok (.aload_n 0, 1) := by decide +kernel
theorem dX11_isVehicle_3 : decode cX11_isVehicle 3 = .ok (.getfield 47, 3) := by decide +kernel
theorem dX11_isVehicle_6 : decode cX11_isVehicle 6 = .ok (.iconst 1, 1) := by decide +kernel
theorem dX11_isVehicle_7 : decode cX11_isVehicle 7 = .ok (.isub, 1) := by decide +kernel
theorem dX11_isVehicle_8 : decode cX11_isVehicle 8 = .ok (.invokestatic 50, 3) := by decide +kernel
theorem dX11_isVehicle_11 : decode cX11_isVehicle 11 = .ok (.ireturn, 1) := by decide +kernel
theorem dX11_isHour_0 : decode cX11_isHour 0 = .ok (.iload_n 0, 1) := by decide +kernel
theorem dX11_isHour_1 : decode cX11_isHour 1 = .ok (.iconst 0, 1) := by decide +kernel
theorem dX11_isHour_2 : decode cX11_isHour 2 = .ok (.bipush 23, 2) := by decide +kernel
theorem dX11_isHour_4 : decode cX11_isHour 4 = .ok (.invokestatic 50, 3) := by decide +kernel
theorem dX11_isHour_7 : decode cX11_isHour 7 = .ok (.ireturn, 1) := by decide +kernel
theorem dX11_add_0 : decode cX11_add 0 = .ok (.aload_n 0, 1) := by decide +kernel
theorem dX11_add_1 : decode cX11_add 1 = .ok (.iconst 0, 1) := by decide +kernel
theorem dX11_add_2 : decode cX11_add 2 = .ok (.putfield 44, 3) := by decide +kernel
theorem dX11_add_5 : decode cX11_add 5 = .ok (.iload_n 1, 1) := by decide +kernel
theorem dX11_add_6 : decode cX11_add 6 = .ok (.iconst 0, 1) := by decide +kernel
theorem dX11_add_7 : decode cX11_add 7 = .ok (.bipush 8, 2) := by decide +kernel
theorem dX11_add_9 : decode cX11_add 9 = .ok (.invokestatic 50, 3) := by decide +kernel
theorem dX11_add_12 : decode cX11_add 12 = .ok (.ifCond .eq 36, 3) := by decide +kernel
theorem dX11_add_15 : decode cX11_add 15 = .ok (.iload_n 2, 1) := by decide +kernel
theorem dX11_add_16 : decode cX11_add 16 = .ok (.iconst 1, 1) := by decide +kernel
theorem dX11_add_17 : decode cX11_add 17 = .ok (.sipush 5000, 3) := by decide +kernel
theorem dX11_add_20 : decode cX11_add 20 = .ok (.invokestatic 50, 3) := by decide +kernel
theorem dX11_add_23 : decode cX11_add 23 = .ok (.ifCond .eq 25, 3) := by decide +kernel
theorem dX11_add_26 : decode cX11_add 26 = .ok (.iload_n 3, 1) := by decide +kernel
theorem dX11_add_27 : decode cX11_add 27 = .ok (.iconst 0, 1) := by decide +kernel
theorem dX11_add_28 : decode cX11_add 28 = .ok (.sipush 5000, 3) := by decide +kernel
theorem dX11_add_31 : decode cX11_add 31 = .ok (.invokestatic 50, 3) := by decide +kernel
theorem dX11_add_34 : decode cX11_add 34 = .ok (.ifCond .eq 14, 3) := by decide +kernel
theorem dX11_add_37 : decode cX11_add 37 = .ok (.iload 4, 2) := by decide +kernel
theorem dX11_add_39 : decode cX11_add 39 = .ok (.iconst 0, 1) := by decide +kernel
theorem dX11_add_40 : decode cX11_add 40 = .ok (.bipush 100, 2) := by decide +kernel
theorem dX11_add_42 : decode cX11_add 42 = .ok (.invokestatic 50, 3) := by decide +kernel
theorem dX11_add_45 : decode cX11_add 45 = .ok (.ifCond .ne 6, 3) := by decide +kernel
theorem dX11_add_48 : decode cX11_add 48 = .ok (.bipush (-102), 2) := by decide +kernel
theorem dX11_add_50 : decode cX11_add 50 = .ok (.ireturn, 1) := by decide +kernel
theorem dX11_add_51 : decode cX11_add 51 = .ok (.aload_n 0, 1) := by decide +kernel
theorem dX11_add_52 : decode cX11_add 52 = .ok (.getfield 47, 3) := by decide +kernel
theorem dX11_add_55 : decode cX11_add 55 = .ok (.bipush 24, 2) := by decide +kernel
theorem dX11_add_57 : decode cX11_add 57 = .ok (.if_icmp .ne 6, 3) := by decide +kernel
theorem dX11_add_60 : decode cX11_add 60 = .ok (.bipush (-104), 2) := by decide +kernel
theorem dX11_add_62 : decode cX11_add 62 = .ok (.ireturn, 1) := by decide +kernel
theorem dX11_add_63 : decode cX11_add 63 = .ok (.aload_n 0, 1) := by decide +kernel
theorem dX11_add_64 : decode cX11_add 64 = .ok (.getfield 7, 3) := by decide +kernel
theorem dX11_add_67 : decode cX11_add 67 = .ok (.aload_n 0, 1) := by decide +kernel
theorem dX11_add_68 : decode cX11_add 68 = .ok (.getfield 47, 3) := by decide +kernel
theorem dX11_add_71 : decode cX11_add 71 = .ok (.iload_n 1, 1) := by decide +kernel
theorem dX11_add_72 : decode cX11_add 72 = .ok (.iastore, 1) := by decide +kernel
theorem dX11_add_73 : decode cX11_add 73 = .ok (.aload_n 0, 1) := by decide +kernel
theorem dX11_add_74 : decode cX11_add 74 = .ok (.getfield 13, 3) := by decide +kernel
theorem dX11_add_77 : decode cX11_add 77 = .ok (.aload_n 0, 1) := by decide +kernel
theorem dX11_add_78 : decode cX11_add 78 = .ok (.getfield 47, 3) := by decide +kernel
theorem dX11_add_81 : decode cX11_add 81 = .ok (.iload_n 2, 1) := by decide +kernel
theorem dX11_add_82 : decode cX11_add 82 = .ok (.iastore, 1) := by decide +kernel
theorem dX11_add_83 : decode cX11_add 83 = .ok (.aload_n 0, 1) := by decide +kernel
theorem dX11_add_84 : decode cX11_add 84 = .ok (.getfield 16, 3) := by decide +kernel
theorem dX11_add_87 : decode cX11_add 87 = .ok (.aload_n 0, 1) := by decide +kernel
theorem dX11_add_88 : decode cX11_add 88 = .ok (.getfield 47, 3) := by decide +kernel
theorem dX11_add_91 : decode cX11_add 91 = .ok (.iload_n 3, 1) := by decide +kernel
theorem dX11_add_92 : decode cX11_add 92 = .ok (.iastore, 1) := by decide +kernel
theorem dX11_add_93 : decode cX11_add 93 = .ok (.aload_n 0, 1) := by decide +kernel
theorem dX11_add_94 : decode cX11_add 94 = .ok (.getfield 19, 3) := by decide +kernel
theorem dX11_add_97 : decode cX11_add 97 = .ok (.aload_n 0, 1) := by decide +kernel
theorem dX11_add_98 : decode cX11_add 98 = .ok (.getfield 47, 3) := by decide +kernel
theorem dX11_add_101 : decode cX11_add 101 = .ok (.iload 4, 2) := by decide +kernel
theorem dX11_add_103 : decode cX11_add 103 = .ok (.iastore, 1) := by decide +kernel
theorem dX11_add_104 : decode cX11_add 104 = .ok (.aload_n 0, 1) := by decide +kernel
theorem dX11_add_105 : decode cX11_add 105 = .ok (.dup, 1) := by decide +kernel
theorem dX11_add_106 : decode cX11_add 106 = .ok (.getfield 47, 3) := by decide +kernel
theorem dX11_add_109 : decode cX11_add 109 = .ok (.iconst 1, 1) := by decide +kernel
theorem dX11_add_110 : decode cX11_add 110 = .ok (.iadd, 1) := by decide +kernel
theorem dX11_add_111 : decode cX11_add 111 = .ok (.putfield 47, 3) := by decide +kernel
theorem dX11_add_114 : decode cX11_add 114 = .ok (.aload_n 0, 1) := by decide +kernel
theorem dX11_add_115 : decode cX11_add 115 = .ok (.getfield 47, 3) := by decide +kernel
theorem dX11_add_118 : decode cX11_add 118 = .ok (.iconst 1, 1) := by decide +kernel
theorem dX11_add_119 : decode cX11_add 119 = .ok (.isub, 1) := by decide +kernel
theorem dX11_add_120 : decode cX11_add 120 = .ok (.ireturn, 1) := by decide +kernel
theorem dX11_weightOf_0 : decode cX11_weightOf 0 = .ok (.aload_n 0, 1) := by decide +kernel
theorem dX11_weightOf_1 : decode cX11_weightOf 1 = .ok (.getfield 7, 3) := by decide +kernel
theorem dX11_weightOf_4 : decode cX11_weightOf 4 = .ok (.iload_n 1, 1) := by decide +kernel
theorem dX11_weightOf_5 : decode cX11_weightOf 5 = .ok (.iaload, 1) := by decide +kernel
theorem dX11_weightOf_6 : decode cX11_weightOf 6 = .ok (.istore_n 2, 1) := by decide +kernel
theorem dX11_weightOf_7 : decode cX11_weightOf 7 = .ok (.aload_n 0, 1) := by decide +kernel
theorem dX11_weightOf_8 : decode cX11_weightOf 8 = .ok (.getfield 37, 3) := by decide +kernel
theorem dX11_weightOf_11 : decode cX11_weightOf 11 = .ok (.iconst 0, 1) := by decide +kernel
theorem dX11_weightOf_12 : decode cX11_weightOf 12 = .ok (.dup2, 1) := by decide +kernel
theorem dX11_weightOf_13 : decode cX11_weightOf 13 = .ok (.iaload, 1) := by decide +kernel
theorem dX11_weightOf_14 : decode cX11_weightOf 14 = .ok (.iconst 1, 1) := by decide +kernel
theorem dX11_weightOf_15 : decode cX11_weightOf 15 = .ok (.iadd, 1) := by decide +kernel
theorem dX11_weightOf_16 : decode cX11_weightOf 16 = .ok (.iastore, 1) := by decide +kernel
theorem dX11_weightOf_17 : decode cX11_weightOf 17 = .ok (.iload_n 2, 1) := by decide +kernel
theorem dX11_weightOf_18 : decode cX11_weightOf 18 = .ok (.iconst 4, 1) := by decide +kernel
theorem dX11_weightOf_19 : decode cX11_weightOf 19 = .ok (.if_icmp .lt 9, 3) := by decide +kernel
theorem dX11_weightOf_22 : decode cX11_weightOf 22 = .ok (.iload_n 2, 1) := by decide +kernel
theorem dX11_weightOf_23 : decode cX11_weightOf 23 = .ok (.bipush 8, 2) := by decide +kernel
theorem dX11_weightOf_25 : decode cX11_weightOf 25 = .ok (.if_icmp .ne 10, 3) := by decide +kernel
theorem dX11_weightOf_28 : decode cX11_weightOf 28 = .ok (.aload_n 0, 1) := by decide +kernel
theorem dX11_weightOf_29 : decode cX11_weightOf 29 = .ok (.getfield 13, 3) := by decide +kernel
theorem dX11_weightOf_32 : decode cX11_weightOf 32 = .ok (.iload_n 1, 1) := by decide +kernel
theorem dX11_weightOf_33 : decode cX11_weightOf 33 = .ok (.iaload, 1) := by decide +kernel
theorem dX11_weightOf_34 : decode cX11_weightOf 34 = .ok (.ireturn, 1) := by decide +kernel
theorem dX11_weightOf_35 : decode cX11_weightOf 35 = .ok (.aload_n 0, 1) := by decide +kernel
theorem dX11_weightOf_36 : decode cX11_weightOf 36 = .ok (.getfield 37, 3) := by decide +kernel
theorem dX11_weightOf_39 : decode cX11_weightOf 39 = .ok (.iconst 4, 1) := by decide +kernel
theorem dX11_weightOf_40 : decode cX11_weightOf 40 = .ok (.dup2, 1) := by decide +kernel
theorem dX11_weightOf_41 : decode cX11_weightOf 41 = .ok (.iaload, 1) := by decide +kernel
theorem dX11_weightOf_42 : decode cX11_weightOf 42 = .ok (.iconst 1, 1) := by decide +kernel
theorem dX11_weightOf_43 : decode cX11_weightOf 43 = .ok (.iadd, 1) := by decide +kernel
theorem dX11_weightOf_44 : decode cX11_weightOf 44 = .ok (.iastore, 1) := by decide +kernel
theorem dX11_weightOf_45 : decode cX11_weightOf 45 = .ok (.aload_n 0, 1) := by decide +kernel
theorem dX11_weightOf_46 : decode cX11_weightOf 46 = .ok (.getfield 13, 3) := by decide +kernel
theorem dX11_weightOf_49 : decode cX11_weightOf 49 = .ok (.iload_n 1, 1) := by decide +kernel
theorem dX11_weightOf_50 : decode cX11_weightOf 50 = .ok (.iaload, 1) := by decide +kernel
theorem dX11_weightOf_51 : decode cX11_weightOf 51 = .ok (.aload_n 0, 1) := by decide +kernel
theorem dX11_weightOf_52 : decode cX11_weightOf 52 = .ok (.getfield 16, 3) := by decide +kernel
theorem dX11_weightOf_55 : decode cX11_weightOf 55 = .ok (.iload_n 1, 1) := by decide +kernel
theorem dX11_weightOf_56 : decode cX11_weightOf 56 = .ok (.iaload, 1) := by decide +kernel
theorem dX11_weightOf_57 : decode cX11_weightOf 57 = .ok (.iadd, 1) := by decide +kernel
theorem dX11_weightOf_58 : decode cX11_weightOf 58 = .ok (.istore_n 3, 1) := by decide +kernel
theorem dX11_weightOf_59 : decode cX11_weightOf 59 = .ok (.iload_n 2, 1) := by decide +kernel
theorem dX11_weightOf_60 : decode cX11_weightOf 60 = .ok (.iconst 5, 1) := by decide +kernel
theorem dX11_weightOf_61 : decode cX11_weightOf 61 = .ok (.if_icmp .ne 27, 3) := by decide +kernel
theorem dX11_weightOf_64 : decode cX11_weightOf 64 = .ok (.aload_n 0, 1) := by decide +kernel
theorem dX11_weightOf_65 : decode cX11_weightOf 65 = .ok (.getfield 37, 3) := by decide +kernel
theorem dX11_weightOf_68 : decode cX11_weightOf 68 = .ok (.iconst 5, 1) := by decide +kernel
theorem dX11_weightOf_69 : decode cX11_weightOf 69 = .ok (.dup2, 1) := by decide +kernel
theorem dX11_weightOf_70 : decode cX11_weightOf 70 = .ok (.iaload, 1) := by decide +kernel
theorem dX11_weightOf_71 : decode cX11_weightOf 71 = .ok (.iconst 1, 1) := by decide +kernel
theorem dX11_weightOf_72 : decode cX11_weightOf 72 = .ok (.iadd, 1) := by decide +kernel
theorem dX11_weightOf_73 : decode cX11_weightOf 73 = .ok (.iastore, 1) := by decide +kernel
theorem dX11_weightOf_74 : decode cX11_weightOf 74 = .ok (.iload_n 3, 1) := by decide +kernel
theorem dX11_weightOf_75 : decode cX11_weightOf 75 = .ok (.aload_n 0, 1) := by decide +kernel
theorem dX11_weightOf_76 : decode cX11_weightOf 76 = .ok (.getfield 16, 3) := by decide +kernel
theorem dX11_weightOf_79 : decode cX11_weightOf 79 = .ok (.iload_n 1, 1) := by decide +kernel
theorem dX11_weightOf_80 : decode cX11_weightOf 80 = .ok (.iaload, 1) := by decide +kernel
theorem dX11_weightOf_81 : decode cX11_weightOf 81 = .ok (.iconst 4, 1) := by decide +kernel
theorem dX11_weightOf_82 : decode cX11_weightOf 82 = .ok (.idiv, 1) := by decide +kernel
theorem dX11_weightOf_83 : decode cX11_weightOf 83 = .ok (.iadd, 1) := by decide +kernel
theorem dX11_weightOf_84 : decode cX11_weightOf 84 = .ok (.istore_n 3, 1) := by decide +kernel
theorem dX11_weightOf_85 : decode cX11_weightOf 85 = .ok (.goto 23, 3) := by decide +kernel
theorem dX11_weightOf_88 : decode cX11_weightOf 88 = .ok (.iload_n 2, 1) := by decide +kernel
theorem dX11_weightOf_89 : decode cX11_weightOf 89 = .ok (.bipush 7, 2) := by decide +kernel
theorem dX11_weightOf_91 : decode cX11_weightOf 91 = .ok (.if_icmp .ne 17, 3) := by decide +kernel
theorem dX11_weightOf_94 : decode cX11_weightOf 94 = .ok (.aload_n 0, 1) := by decide +kernel
theorem dX11_weightOf_95 : decode cX11_weightOf 95 = .ok (.getfield 37, 3) := by decide +kernel
theorem dX11_weightOf_98 : decode cX11_weightOf 98 = .ok (.bipush 7, 2) := by decide +kernel
theorem dX11_weightOf_100 : decode cX11_weightOf 100 = .ok (.dup2, 1) := by decide +kernel
theorem dX11_weightOf_101 : decode cX11_weightOf 101 = .ok (.iaload, 1) := by decide +kernel
theorem dX11_weightOf_102 : decode cX11_weightOf 102 = .ok (.iconst 1, 1) := by decide +kernel
theorem dX11_weightOf_103 : decode cX11_weightOf 103 = .ok (.iadd, 1) := by decide +kernel
theorem dX11_weightOf_104 : decode cX11_weightOf 104 = .ok (.iastore, 1) := by decide +kernel
theorem dX11_weightOf_105 : decode cX11_weightOf 105 = .ok (.iinc 3 (-10), 3) := by decide +kernel
theorem dX11_weightOf_108 : decode cX11_weightOf 108 = .ok (.iload_n 3, 1) := by decide +kernel
theorem dX11_weightOf_109 : decode cX11_weightOf 109 = .ok (.ireturn, 1) := by decide +kernel
theorem dX11_plainToll_0 : decode cX11_plainToll 0 = .ok (.aload_n 0, 1) := by decide +kernel
theorem dX11_plainToll_1 : decode cX11_plainToll 1 = .ok (.getfield 37, 3) := by decide +kernel
theorem dX11_plainToll_4 : decode cX11_plainToll 4 = .ok (.iconst 0, 1) := by decide +kernel
theorem dX11_plainToll_5 : decode cX11_plainToll 5 = .ok (.dup2, 1) := by decide +kernel
theorem dX11_plainToll_6 : decode cX11_plainToll 6 = .ok (.iaload, 1) := by decide +kernel
theorem dX11_plainToll_7 : decode cX11_plainToll 7 = .ok (.iconst 1, 1) := by decide +kernel
theorem dX11_plainToll_8 : decode cX11_plainToll 8 = .ok (.iadd, 1) := by decide +kernel
theorem dX11_plainToll_9 : decode cX11_plainToll 9 = .ok (.iastore, 1) := by decide +kernel
theorem dX11_plainToll_10 : decode cX11_plainToll 10 = .ok (.iconst 5, 1) := by decide +kernel
theorem dX11_plainToll_11 : decode cX11_plainToll 11 = .ok (.aload_n 0, 1) := by decide +kernel
theorem dX11_plainToll_12 : decode cX11_plainToll 12 = .ok (.iload_n 1, 1) := by decide +kernel
theorem dX11_plainToll_13 : decode cX11_plainToll 13 = .ok (.invokevirtual 54, 3) := by decide +kernel
theorem dX11_plainToll_16 : decode cX11_plainToll 16 = .ok (.bipush 100, 2) := by decide +kernel
theorem dX11_plainToll_18 : decode cX11_plainToll 18 = .ok (.idiv, 1) := by decide +kernel
theorem dX11_plainToll_19 : decode cX11_plainToll 19 = .ok (.iadd, 1) := by decide +kernel
theorem dX11_plainToll_20 : decode cX11_plainToll 20 = .ok (.ireturn, 1) := by decide +kernel
theorem dX11_tollOf_0 : decode cX11_tollOf 0 = .ok (.aload_n 0, 1) := by decide +kernel
theorem dX11_tollOf_1 : decode cX11_tollOf 1 = .ok (.iconst 0, 1) := by decide +kernel
theorem dX11_tollOf_2 : decode cX11_tollOf 2 = .ok (.putfield 58, 3) := by decide +kernel
theorem dX11_tollOf_5 : decode cX11_tollOf 5 = .ok (.aload_n 0, 1) := by decide +kernel
theorem dX11_tollOf_6 : decode cX11_tollOf 6 = .ok (.getfield 7, 3) := by decide +kernel
theorem dX11_tollOf_9 : decode cX11_tollOf 9 = .ok (.iload_n 1, 1) := by decide +kernel
theorem dX11_tollOf_10 : decode cX11_tollOf 10 = .ok (.iaload, 1) := by decide +kernel
theorem dX11_tollOf_11 : decode cX11_tollOf 11 = .ok (.tableswitch 238 2 8 #[41, 60, 238, 116, 238, 135, 167], 41) := by decide +kernel
theorem dX11_tollOf_52 : decode cX11_tollOf 52 = .ok (.aload_n 0, 1) := by decide +kernel
theorem dX11_tollOf_53 : decode cX11_tollOf 53 = .ok (.getfield 37, 3) := by decide +kernel
theorem dX11_tollOf_56 : decode cX11_tollOf 56 = .ok (.iconst 2, 1) := by decide +kernel
theorem dX11_tollOf_57 : decode cX11_tollOf 57 = .ok (.dup2, 1) := by decide +kernel
theorem dX11_tollOf_58 : decode cX11_tollOf 58 = .ok (.iaload, 1) := by decide +kernel
theorem dX11_tollOf_59 : decode cX11_tollOf 59 = .ok (.iconst 1, 1) := by decide +kernel
theorem dX11_tollOf_60 : decode cX11_tollOf 60 = .ok (.iadd, 1) := by decide +kernel
theorem dX11_tollOf_61 : decode cX11_tollOf 61 = .ok (.iastore, 1) := by decide +kernel
theorem dX11_tollOf_62 : decode cX11_tollOf 62 = .ok (.aload_n 0, 1) := by decide +kernel
theorem dX11_tollOf_63 : decode cX11_tollOf 63 = .ok (.iload_n 1, 1) := by decide +kernel
theorem dX11_tollOf_64 : decode cX11_tollOf 64 = .ok (.invokevirtual 62, 3) := by decide +kernel
theorem dX11_tollOf_67 : decode cX11_tollOf 67 = .ok (.bipush 10, 2) := by decide +kernel
theorem dX11_tollOf_69 : decode cX11_tollOf 69 = .ok (.iadd, 1) := by decide +kernel
theorem dX11_tollOf_70 : decode cX11_tollOf 70 = .ok (.ireturn, 1) := by decide +kernel
theorem dX11_tollOf_71 : decode cX11_tollOf 71 = .ok (.aload_n 0, 1) := by decide +kernel
theorem dX11_tollOf_72 : decode cX11_tollOf 72 = .ok (.getfield 37, 3) := by decide +kernel
theorem dX11_tollOf_75 : decode cX11_tollOf 75 = .ok (.iconst 3, 1) := by decide +kernel
theorem dX11_tollOf_76 : decode cX11_tollOf 76 = .ok (.dup2, 1) := by decide +kernel
theorem dX11_tollOf_77 : decode cX11_tollOf 77 = .ok (.iaload, 1) := by decide +kernel
theorem dX11_tollOf_78 : decode cX11_tollOf 78 = .ok (.iconst 1, 1) := by decide +kernel
theorem dX11_tollOf_79 : decode cX11_tollOf 79 = .ok (.iadd, 1) := by decide +kernel
theorem dX11_tollOf_80 : decode cX11_tollOf 80 = .ok (.iastore, 1) := by decide +kernel
theorem dX11_tollOf_81 : decode cX11_tollOf 81 = .ok (.aload_n 0, 1) := by decide +kernel
theorem dX11_tollOf_82 : decode cX11_tollOf 82 = .ok (.getfield 37, 3) := by decide +kernel
theorem dX11_tollOf_85 : decode cX11_tollOf 85 = .ok (.iconst 2, 1) := by decide +kernel
theorem dX11_tollOf_86 : decode cX11_tollOf 86 = .ok (.dup2, 1) := by decide +kernel
theorem dX11_tollOf_87 : decode cX11_tollOf 87 = .ok (.iaload, 1) := by decide +kernel
theorem dX11_tollOf_88 : decode cX11_tollOf 88 = .ok (.iconst 1, 1) := by decide +kernel
theorem dX11_tollOf_89 : decode cX11_tollOf 89 = .ok (.iadd, 1) := by decide +kernel
theorem dX11_tollOf_90 : decode cX11_tollOf 90 = .ok (.iastore, 1) := by decide +kernel
theorem dX11_tollOf_91 : decode cX11_tollOf 91 = .ok (.aload_n 0, 1) := by decide +kernel
theorem dX11_tollOf_92 : decode cX11_tollOf 92 = .ok (.iload_n 1, 1) := by decide +kernel
theorem dX11_tollOf_93 : decode cX11_tollOf 93 = .ok (.invokevirtual 62, 3) := by decide +kernel
theorem dX11_tollOf_96 : decode cX11_tollOf 96 = .ok (.bipush 10, 2) := by decide +kernel
theorem dX11_tollOf_98 : decode cX11_tollOf 98 = .ok (.iadd, 1) := by decide +kernel
theorem dX11_tollOf_99 : decode cX11_tollOf 99 = .ok (.istore_n 3, 1) := by decide +kernel
theorem dX11_tollOf_100 : decode cX11_tollOf 100 = .ok (.iload_n 2, 1) := by decide +kernel
theorem dX11_tollOf_101 : decode cX11_tollOf 101 = .ok (.bipush 20, 2) := by decide +kernel
theorem dX11_tollOf_103 : decode cX11_tollOf 103 = .ok (.if_icmp .ge 9, 3) := by decide +kernel
theorem dX11_tollOf_106 : decode cX11_tollOf 106 = .ok (.iload_n 2, 1) := by decide +kernel
theorem dX11_tollOf_107 : decode cX11_tollOf 107 = .ok (.bipush 6, 2) := by decide +kernel
theorem dX11_tollOf_109 : decode cX11_tollOf 109 = .ok (.if_icmp .ge 9, 3) := by decide +kernel
theorem dX11_tollOf_112 : decode cX11_tollOf 112 = .ok (.iconst 2, 1) := by decide +kernel
theorem dX11_tollOf_113 : decode cX11_tollOf 113 = .ok (.iload_n 3, 1) := by decide +kernel
theorem dX11_tollOf_114 : decode cX11_tollOf 114 = .ok (.imul, 1) := by decide +kernel
theorem dX11_tollOf_115 : decode cX11_tollOf 115 = .ok (.goto 11, 3) := by decide +kernel
theorem dX11_tollOf_118 : decode cX11_tollOf 118 = .ok (.iload_n 3, 1) := by decide +kernel
theorem dX11_tollOf_119 : decode cX11_tollOf 119 = .ok (.aload_n 0, 1) := by decide +kernel
theorem dX11_tollOf_120 : decode cX11_tollOf 120 = .ok (.getfield 31, 3) := by decide +kernel
theorem dX11_tollOf_123 : decode cX11_tollOf 123 = .ok (.iload_n 1, 1) := by decide +kernel
theorem dX11_tollOf_124 : decode cX11_tollOf 124 = .ok (.iaload, 1) := by decide +kernel
theorem dX11_tollOf_125 : decode cX11_tollOf 125 = .ok (.iadd, 1) := by decide +kernel
theorem dX11_tollOf_126 : decode cX11_tollOf 126 = .ok (.ireturn, 1) := by decide +kernel
theorem dX11_tollOf_127 : decode cX11_tollOf 127 = .ok (.aload_n 0, 1) := by decide +kernel
theorem dX11_tollOf_128 : decode cX11_tollOf 128 = .ok (.getfield 37, 3) := by decide +kernel
theorem dX11_tollOf_131 : decode cX11_tollOf 131 = .ok (.iconst 5, 1) := by decide +kernel
theorem dX11_tollOf_132 : decode cX11_tollOf 132 = .ok (.dup2, 1) := by decide +kernel
theorem dX11_tollOf_133 : decode cX11_tollOf 133 = .ok (.iaload, 1) := by decide +kernel
theorem dX11_tollOf_134 : decode cX11_tollOf 134 = .ok (.iconst 1, 1) := by decide +kernel
theorem dX11_tollOf_135 : decode cX11_tollOf 135 = .ok (.iadd, 1) := by decide +kernel
theorem dX11_tollOf_136 : decode cX11_tollOf 136 = .ok (.iastore, 1) := by decide +kernel
theorem dX11_tollOf_137 : decode cX11_tollOf 137 = .ok (.aload_n 0, 1) := by decide +kernel
theorem dX11_tollOf_138 : decode cX11_tollOf 138 = .ok (.iload_n 1, 1) := by decide +kernel
theorem dX11_tollOf_139 : decode cX11_tollOf 139 = .ok (.invokevirtual 62, 3) := by decide +kernel
theorem dX11_tollOf_142 : decode cX11_tollOf 142 = .ok (.bipush 50, 2) := by decide +kernel
theorem dX11_tollOf_144 : decode cX11_tollOf 144 = .ok (.iadd, 1) := by decide +kernel
theorem dX11_tollOf_145 : decode cX11_tollOf 145 = .ok (.ireturn, 1) := by decide +kernel
theorem dX11_tollOf_146 : decode cX11_tollOf 146 = .ok (.aload_n 0, 1) := by decide +kernel
theorem dX11_tollOf_147 : decode cX11_tollOf 147 = .ok (.getfield 37, 3) := by decide +kernel
theorem dX11_tollOf_150 : decode cX11_tollOf 150 = .ok (.bipush 7, 2) := by decide +kernel
theorem dX11_tollOf_152 : decode cX11_tollOf 152 = .ok (.dup2, 1) := by decide +kernel
theorem dX11_tollOf_153 : decode cX11_tollOf 153 = .ok (.iaload, 1) := by decide +kernel
theorem dX11_tollOf_154 : decode cX11_tollOf 154 = .ok (.iconst 1, 1) := by decide +kernel
theorem dX11_tollOf_155 : decode cX11_tollOf 155 = .ok (.iadd, 1) := by decide +kernel
theorem dX11_tollOf_156 : decode cX11_tollOf 156 = .ok (.iastore, 1) := by decide +kernel
theorem dX11_tollOf_157 : decode cX11_tollOf 157 = .ok (.iload_n 2, 1) := by decide +kernel
theorem dX11_tollOf_158 : decode cX11_tollOf 158 = .ok (.bipush 22, 2) := by decide +kernel
theorem dX11_tollOf_160 : decode cX11_tollOf 160 = .ok (.if_icmp .ge 8, 3) := by decide +kernel
theorem dX11_tollOf_163 : decode cX11_tollOf 163 = .ok (.iload_n 2, 1) := by decide +kernel
theorem dX11_tollOf_164 : decode cX11_tollOf 164 = .ok (.iconst 5, 1) := by decide +kernel
theorem dX11_tollOf_165 : decode cX11_tollOf 165 = .ok (.if_icmp .ge 7, 3) := by decide +kernel
theorem dX11_tollOf_168 : decode cX11_tollOf 168 = .ok (.iconst 0, 1) := by decide +kernel
theorem dX11_tollOf_169 : decode cX11_tollOf 169 = .ok (.goto 8, 3) := by decide +kernel
theorem dX11_tollOf_172 : decode cX11_tollOf 172 = .ok (.aload_n 0, 1) := by decide +kernel
theorem dX11_tollOf_173 : decode cX11_tollOf 173 = .ok (.iload_n 1, 1) := by decide +kernel
theorem dX11_tollOf_174 : decode cX11_tollOf 174 = .ok (.invokevirtual 62, 3) := by decide +kernel
theorem dX11_tollOf_177 : decode cX11_tollOf 177 = .ok (.ireturn, 1) := by decide +kernel
theorem dX11_tollOf_178 : decode cX11_tollOf 178 = .ok (.aload_n 0, 1) := by decide +kernel
theorem dX11_tollOf_179 : decode cX11_tollOf 179 = .ok (.getfield 37, 3) := by decide +kernel
theorem dX11_tollOf_182 : decode cX11_tollOf 182 = .ok (.bipush 8, 2) := by decide +kernel
theorem dX11_tollOf_184 : decode cX11_tollOf 184 = .ok (.dup2, 1) := by decide +kernel
theorem dX11_tollOf_185 : decode cX11_tollOf 185 = .ok (.iaload, 1) := by decide +kernel
theorem dX11_tollOf_186 : decode cX11_tollOf 186 = .ok (.iconst 1, 1) := by decide +kernel
theorem dX11_tollOf_187 : decode cX11_tollOf 187 = .ok (.iadd, 1) := by decide +kernel
theorem dX11_tollOf_188 : decode cX11_tollOf 188 = .ok (.iastore, 1) := by decide +kernel
theorem dX11_tollOf_189 : decode cX11_tollOf 189 = .ok (.aload_n 0, 1) := by decide +kernel
theorem dX11_tollOf_190 : decode cX11_tollOf 190 = .ok (.aload_n 0, 1) := by decide +kernel
theorem dX11_tollOf_191 : decode cX11_tollOf 191 = .ok (.getfield 16, 3) := by decide +kernel
theorem dX11_tollOf_194 : decode cX11_tollOf 194 = .ok (.iload_n 1, 1) := by decide +kernel
theorem dX11_tollOf_195 : decode cX11_tollOf 195 = .ok (.iaload, 1) := by decide +kernel
theorem dX11_tollOf_196 : decode cX11_tollOf 196 = .ok (.ifCond .ne 7, 3) := by decide +kernel
theorem dX11_tollOf_199 : decode cX11_tollOf 199 = .ok (.iconst 1, 1) := by decide +kernel
theorem dX11_tollOf_200 : decode cX11_tollOf 200 = .ok (.goto 4, 3) := by decide +kernel
theorem dX11_tollOf_203 : decode cX11_tollOf 203 = .ok (.iconst 0, 1) := by decide +kernel
theorem dX11_tollOf_204 : decode cX11_tollOf 204 = .ok (.putfield 58, 3) := by decide +kernel
theorem dX11_tollOf_207 : decode cX11_tollOf 207 = .ok (.aload_n 0, 1) := by decide +kernel
theorem dX11_tollOf_208 : decode cX11_tollOf 208 = .ok (.dup, 1) := by decide +kernel
theorem dX11_tollOf_209 : decode cX11_tollOf 209 = .ok (.getfield 65, 3) := by decide +kernel
theorem dX11_tollOf_212 : decode cX11_tollOf 212 = .ok (.aload_n 0, 1) := by decide +kernel
theorem dX11_tollOf_213 : decode cX11_tollOf 213 = .ok (.getfield 58, 3) := by decide +kernel
theorem dX11_tollOf_216 : decode cX11_tollOf 216 = .ok (.ifCond .eq 7, 3) := by decide +kernel
theorem dX11_tollOf_219 : decode cX11_tollOf 219 = .ok (.iconst 1, 1) := by decide +kernel
theorem dX11_tollOf_220 : decode cX11_tollOf 220 = .ok (.goto 4, 3) := by decide +kernel
theorem dX11_tollOf_223 : decode cX11_tollOf 223 = .ok (.iconst 0, 1) := by decide +kernel
theorem dX11_tollOf_224 : decode cX11_tollOf 224 = .ok (.iadd, 1) := by decide +kernel
theorem dX11_tollOf_225 : decode cX11_tollOf 225 = .ok (.putfield 65, 3) := by decide +kernel
theorem dX11_tollOf_228 : decode cX11_tollOf 228 = .ok (.aload_n 0, 1) := by decide +kernel
theorem dX11_tollOf_229 : decode cX11_tollOf 229 = .ok (.getfield 58, 3) := by decide +kernel
theorem dX11_tollOf_232 : decode cX11_tollOf 232 = .ok (.ifCond .eq 7, 3) := by decide +kernel
theorem dX11_tollOf_235 : decode cX11_tollOf 235 = .ok (.iconst 0, 1) := by decide +kernel
theorem dX11_tollOf_236 : decode cX11_tollOf 236 = .ok (.goto 12, 3) := by decide +kernel
theorem dX11_tollOf_239 : decode cX11_tollOf 239 = .ok (.bipush 100, 2) := by decide +kernel
theorem dX11_tollOf_241 : decode cX11_tollOf 241 = .ok (.aload_n 0, 1) := by decide +kernel
theorem dX11_tollOf_242 : decode cX11_tollOf 242 = .ok (.getfield 16, 3) := by decide +kernel
theorem dX11_tollOf_245 : decode cX11_tollOf 245 = .ok (.iload_n 1, 1) := by decide +kernel
theorem dX11_tollOf_246 : decode cX11_tollOf 246 = .ok (.iaload, 1) := by decide +kernel
theorem dX11_tollOf_247 : decode cX11_tollOf 247 = .ok (.idiv, 1) := by decide +kernel
theorem dX11_tollOf_248 : decode cX11_tollOf 248 = .ok (.ireturn, 1) := by decide +kernel
theorem dX11_tollOf_249 : decode cX11_tollOf 249 = .ok (.aload_n 0, 1) := by decide +kernel
theorem dX11_tollOf_250 : decode cX11_tollOf 250 = .ok (.iload_n 1, 1) := by decide +kernel
theorem dX11_tollOf_251 : decode cX11_tollOf 251 = .ok (.invokevirtual 62, 3) := by decide +kernel
theorem dX11_tollOf_254 : decode cX11_tollOf 254 = .ok (.ireturn, 1) := by decide +kernel
theorem dX11_isPlainFit_0 : decode cX11_isPlainFit 0 = .ok (.aload_n 0, 1) := by decide +kernel
theorem dX11_isPlainFit_1 : decode cX11_isPlainFit 1 = .ok (.getfield 37, 3) := by decide +kernel
theorem dX11_isPlainFit_4 : decode cX11_isPlainFit 4 = .ok (.iconst 0, 1) := by decide +kernel
theorem dX11_isPlainFit_5 : decode cX11_isPlainFit 5 = .ok (.dup2, 1) := by decide +kernel
theorem dX11_isPlainFit_6 : decode cX11_isPlainFit 6 = .ok (.iaload, 1) := by decide +kernel
theorem dX11_isPlainFit_7 : decode cX11_isPlainFit 7 = .ok (.iconst 1, 1) := by decide +kernel
theorem dX11_isPlainFit_8 : decode cX11_isPlainFit 8 = .ok (.iadd, 1) := by decide +kernel
theorem dX11_isPlainFit_9 : decode cX11_isPlainFit 9 = .ok (.iastore, 1) := by decide +kernel
theorem dX11_isPlainFit_10 : decode cX11_isPlainFit 10 = .ok (.iconst 0, 1) := by decide +kernel
theorem dX11_isPlainFit_11 : decode cX11_isPlainFit 11 = .ok (.istore_n 2, 1) := by decide +kernel
theorem dX11_isPlainFit_12 : decode cX11_isPlainFit 12 = .ok (.iconst 0, 1) := by decide +kernel
theorem dX11_isPlainFit_13 : decode cX11_isPlainFit 13 = .ok (.istore_n 3, 1) := by decide +kernel
theorem dX11_isPlainFit_14 : decode cX11_isPlainFit 14 = .ok (.iload_n 3, 1) := by decide +kernel
theorem dX11_isPlainFit_15 : decode cX11_isPlainFit 15 = .ok (.aload_n 0, 1) := by decide +kernel
theorem dX11_isPlainFit_16 : decode cX11_isPlainFit 16 = .ok (.getfield 68, 3) := by decide +kernel
theorem dX11_isPlainFit_19 : decode cX11_isPlainFit 19 = .ok (.if_icmp .ge 22, 3) := by decide +kernel
theorem dX11_isPlainFit_22 : decode cX11_isPlainFit 22 = .ok (.iload_n 2, 1) := by decide +kernel
theorem dX11_isPlainFit_23 : decode cX11_isPlainFit 23 = .ok (.aload_n 0, 1) := by decide +kernel
theorem dX11_isPlainFit_24 : decode cX11_isPlainFit 24 = .ok (.aload_n 0, 1) := by decide +kernel
theorem dX11_isPlainFit_25 : decode cX11_isPlainFit 25 = .ok (.getfield 34, 3) := by decide +kernel
theorem dX11_isPlainFit_28 : decode cX11_isPlainFit 28 = .ok (.iload_n 3, 1) := by decide +kernel
theorem dX11_isPlainFit_29 : decode cX11_isPlainFit 29 = .ok (.iaload, 1) := by decide +kernel
theorem dX11_isPlainFit_30 : decode cX11_isPlainFit 30 = .ok (.invokevirtual 54, 3) := by decide +kernel
theorem dX11_isPlainFit_33 : decode cX11_isPlainFit 33 = .ok (.iadd, 1) := by decide +kernel
theorem dX11_isPlainFit_34 : decode cX11_isPlainFit 34 = .ok (.istore_n 2, 1) := by decide +kernel
theorem dX11_isPlainFit_35 : decode cX11_isPlainFit 35 = .ok (.iinc 3 1, 3) := by decide +kernel
theorem dX11_isPlainFit_38 : decode cX11_isPlainFit 38 = .ok (.goto (-24), 3) := by decide +kernel
theorem dX11_isPlainFit_41 : decode cX11_isPlainFit 41 = .ok (.iload_n 2, 1) := by decide +kernel
theorem dX11_isPlainFit_42 : decode cX11_isPlainFit 42 = .ok (.aload_n 0, 1) := by decide +kernel
theorem dX11_isPlainFit_43 : decode cX11_isPlainFit 43 = .ok (.iload_n 1, 1) := by decide +kernel
theorem dX11_isPlainFit_44 : decode cX11_isPlainFit 44 = .ok (.invokevirtual 54, 3) := by decide +kernel
theorem dX11_isPlainFit_47 : decode cX11_isPlainFit 47 = .ok (.iadd, 1) := by decide +kernel
theorem dX11_isPlainFit_48 : decode cX11_isPlainFit 48 = .ok (.istore_n 2, 1) := by decide +kernel
theorem dX11_isPlainFit_49 : decode cX11_isPlainFit 49 = .ok (.aload_n 0, 1) := by decide +kernel
theorem dX11_isPlainFit_50 : decode cX11_isPlainFit 50 = .ok (.getfield 71, 3) := by decide +kernel
theorem dX11_isPlainFit_53 : decode cX11_isPlainFit 53 = .ok (.ifCond .ne 15, 3) := by decide +kernel
theorem dX11_isPlainFit_56 : decode cX11_isPlainFit 56 = .ok (.iload_n 2, 1) := by decide +kernel
theorem dX11_isPlainFit_57 : decode cX11_isPlainFit 57 = .ok (.aload_n 0, 1) := by decide +kernel
theorem dX11_isPlainFit_58 : decode cX11_isPlainFit 58 = .ok (.getfield 40, 3) := by decide +kernel
theorem dX11_isPlainFit_61 : decode cX11_isPlainFit 61 = .ok (.if_icmp .gt 7, 3) := by decide +kernel
theorem dX11_isPlainFit_64 : decode cX11_isPlainFit 64 = .ok (.iconst 1, 1) := by decide +kernel
theorem dX11_isPlainFit_65 : decode cX11_isPlainFit 65 = .ok (.goto 4, 3) := by decide +kernel
theorem dX11_isPlainFit_68 : decode cX11_isPlainFit 68 = .ok (.iconst 0, 1) := by decide +kernel
theorem dX11_isPlainFit_69 : decode cX11_isPlainFit 69 = .ok (.ireturn, 1) := by decide +kernel
theorem dX11_isFit_0 : decode cX11_isFit 0 = .ok (.aload_n 0, 1) := by decide +kernel
theorem dX11_isFit_1 : decode cX11_isFit 1 = .ok (.getfield 7, 3) := by decide +kernel
theorem dX11_isFit_4 : decode cX11_isFit 4 = .ok (.iload_n 1, 1) := by decide +kernel
theorem dX11_isFit_5 : decode cX11_isFit 5 = .ok (.iaload, 1) := by decide +kernel
theorem dX11_isFit_6 : decode cX11_isFit 6 = .ok (.istore_n 2, 1) := by decide +kernel
theorem dX11_isFit_7 : decode cX11_isFit 7 = .ok (.iload_n 2, 1) := by decide +kernel
theorem dX11_isFit_8 : decode cX11_isFit 8 = .ok (.bipush 8, 2) := by decide +kernel
theorem dX11_isFit_10 : decode cX11_isFit 10 = .ok (.if_icmp .ne 27, 3) := by decide +kernel
theorem dX11_isFit_13 : decode cX11_isFit 13 = .ok (.aload_n 0, 1) := by decide +kernel
theorem dX11_isFit_14 : decode cX11_isFit 14 = .ok (.getfield 37, 3) := by decide +kernel
theorem dX11_isFit_17 : decode cX11_isFit 17 = .ok (.bipush 8, 2) := by decide +kernel
theorem dX11_isFit_19 : decode cX11_isFit 19 = .ok (.dup2, 1) := by decide +kernel
theorem dX11_isFit_20 : decode cX11_isFit 20 = .ok (.iaload, 1) := by decide +kernel
theorem dX11_isFit_21 : decode cX11_isFit 21 = .ok (.iconst 1, 1) := by decide +kernel
theorem dX11_isFit_22 : decode cX11_isFit 22 = .ok (.iadd, 1) := by decide +kernel
theorem dX11_isFit_23 : decode cX11_isFit 23 = .ok (.iastore, 1) := by decide +kernel
theorem dX11_isFit_24 : decode cX11_isFit 24 = .ok (.aload_n 0, 1) := by decide +kernel
theorem dX11_isFit_25 : decode cX11_isFit 25 = .ok (.getfield 71, 3) := by decide +kernel
theorem dX11_isFit_28 : decode cX11_isFit 28 = .ok (.ifCond .ne 7, 3) := by decide +kernel
theorem dX11_isFit_31 : decode cX11_isFit 31 = .ok (.iconst 1, 1) := by decide +kernel
theorem dX11_isFit_32 : decode cX11_isFit 32 = .ok (.goto 4, 3) := by decide +kernel
theorem dX11_isFit_35 : decode cX11_isFit 35 = .ok (.iconst 0, 1) := by decide +kernel
theorem dX11_isFit_36 : decode cX11_isFit 36 = .ok (.ireturn, 1) := by decide +kernel
theorem dX11_isFit_37 : decode cX11_isFit 37 = .ok (.aload_n 0, 1) := by decide +kernel
theorem dX11_isFit_38 : decode cX11_isFit 38 = .ok (.iload_n 1, 1) := by decide +kernel
theorem dX11_isFit_39 : decode cX11_isFit 39 = .ok (.invokevirtual 74, 3) := by decide +kernel
theorem dX11_isFit_42 : decode cX11_isFit 42 = .ok (.istore_n 3, 1) := by decide +kernel
theorem dX11_isFit_43 : decode cX11_isFit 43 = .ok (.iload_n 2, 1) := by decide +kernel
theorem dX11_isFit_44 : decode cX11_isFit 44 = .ok (.iconst 5, 1) := by decide +kernel
theorem dX11_isFit_45 : decode cX11_isFit 45 = .ok (.if_icmp .ne 33, 3) := by decide +kernel
theorem dX11_isFit_48 : decode cX11_isFit 48 = .ok (.aload_n 0, 1) := by decide +kernel
theorem dX11_isFit_49 : decode cX11_isFit 49 = .ok (.getfield 37, 3) := by decide +kernel
theorem dX11_isFit_52 : decode cX11_isFit 52 = .ok (.iconst 5, 1) := by decide +kernel
theorem dX11_isFit_53 : decode cX11_isFit 53 = .ok (.dup2, 1) := by decide +kernel
theorem dX11_isFit_54 : decode cX11_isFit 54 = .ok (.iaload, 1) := by decide +kernel
theorem dX11_isFit_55 : decode cX11_isFit 55 = .ok (.iconst 1, 1) := by decide +kernel
theorem dX11_isFit_56 : decode cX11_isFit 56 = .ok (.iadd, 1) := by decide +kernel
theorem dX11_isFit_57 : decode cX11_isFit 57 = .ok (.iastore, 1) := by decide +kernel
theorem dX11_isFit_58 : decode cX11_isFit 58 = .ok (.iload_n 3, 1) := by decide +kernel
theorem dX11_isFit_59 : decode cX11_isFit 59 = .ok (.ifCond .eq 14, 3) := by decide +kernel
theorem dX11_isFit_62 : decode cX11_isFit 62 = .ok (.aload_n 0, 1) := by decide +kernel
theorem dX11_isFit_63 : decode cX11_isFit 63 = .ok (.getfield 68, 3) := by decide +kernel
theorem dX11_isFit_66 : decode cX11_isFit 66 = .ok (.ifCond .ne 7, 3) := by decide +kernel
theorem dX11_isFit_69 : decode cX11_isFit 69 = .ok (.iconst 1, 1) := by decide +kernel
theorem dX11_isFit_70 : decode cX11_isFit 70 = .ok (.goto 4, 3) := by decide +kernel
theorem dX11_isFit_73 : decode cX11_isFit 73 = .ok (.iconst 0, 1) := by decide +kernel
theorem dX11_isFit_74 : decode cX11_isFit 74 = .ok (.istore_n 3, 1) := by decide +kernel
theorem dX11_isFit_75 : decode cX11_isFit 75 = .ok (.goto 70, 3) := by decide +kernel
theorem dX11_isFit_78 : decode cX11_isFit 78 = .ok (.iload_n 2, 1) := by decide +kernel
theorem dX11_isFit_79 : decode cX11_isFit 79 = .ok (.bipush 7, 2) := by decide +kernel
theorem dX11_isFit_81 : decode cX11_isFit 81 = .ok (.if_icmp .ne 64, 3) := by decide +kernel
theorem dX11_isFit_84 : decode cX11_isFit 84 = .ok (.aload_n 0, 1) := by decide +kernel
theorem dX11_isFit_85 : decode cX11_isFit 85 = .ok (.getfield 37, 3) := by decide +kernel
theorem dX11_isFit_88 : decode cX11_isFit 88 = .ok (.bipush 7, 2) := by decide +kernel
theorem dX11_isFit_90 : decode cX11_isFit 90 = .ok (.dup2, 1) := by decide +kernel
theorem dX11_isFit_91 : decode cX11_isFit 91 = .ok (.iaload, 1) := by decide +kernel
theorem dX11_isFit_92 : decode cX11_isFit 92 = .ok (.iconst 1, 1) := by decide +kernel
theorem dX11_isFit_93 : decode cX11_isFit 93 = .ok (.iadd, 1) := by decide +kernel
theorem dX11_isFit_94 : decode cX11_isFit 94 = .ok (.iastore, 1) := by decide +kernel
theorem dX11_isFit_95 : decode cX11_isFit 95 = .ok (.iconst 0, 1) := by decide +kernel
theorem dX11_isFit_96 : decode cX11_isFit 96 = .ok (.istore 4, 2) := by decide +kernel
theorem dX11_isFit_98 : decode cX11_isFit 98 = .ok (.iload 4, 2) := by decide +kernel
theorem dX11_isFit_100 : decode cX11_isFit 100 = .ok (.aload_n 0, 1) := by decide +kernel
theorem dX11_isFit_101 : decode cX11_isFit 101 = .ok (.getfield 68, 3) := by decide +kernel
theorem dX11_isFit_104 : decode cX11_isFit 104 = .ok (.if_icmp .ge 41, 3) := by decide +kernel
theorem dX11_isFit_107 : decode cX11_isFit 107 = .ok (.iload_n 3, 1) := by decide +kernel
theorem dX11_isFit_108 : decode cX11_isFit 108 = .ok (.ifCond .eq 29, 3) := by decide +kernel
theorem dX11_isFit_111 : decode cX11_isFit 111 = .ok (.aload_n 0, 1) := by decide +kernel
theorem dX11_isFit_112 : decode cX11_isFit 112 = .ok (.getfield 7, 3) := by decide +kernel
theorem dX11_isFit_115 : decode cX11_isFit 115 = .ok (.aload_n 0, 1) := by decide +kernel
theorem dX11_isFit_116 : decode cX11_isFit 116 = .ok (.getfield 34, 3) := by decide +kernel
theorem dX11_isFit_119 : decode cX11_isFit 119 = .ok (.iload 4, 2) := by decide +kernel
theorem dX11_isFit_121 : decode cX11_isFit 121 = .ok (.iaload, 1) := by decide +kernel
theorem dX11_isFit_122 : decode cX11_isFit 122 = .ok (.iaload, 1) := by decide +kernel
theorem dX11_isFit_123 : decode cX11_isFit 123 = .ok (.bipush 6, 2) := by decide +kernel
theorem dX11_isFit_125 : decode cX11_isFit 125 = .ok (.bipush 7, 2) := by decide +kernel
theorem dX11_isFit_127 : decode cX11_isFit 127 = .ok (.invokestatic 50, 3) := by decide +kernel
theorem dX11_isFit_130 : decode cX11_isFit 130 = .ok (.ifCond .ne 7, 3) := by decide +kernel
theorem dX11_isFit_133 : decode cX11_isFit 133 = .ok (.iconst 1, 1) := by decide +kernel
theorem dX11_isFit_134 : decode cX11_isFit 134 = .ok (.goto 4, 3) := by decide +kernel
theorem dX11_isFit_137 : decode cX11_isFit 137 = .ok (.iconst 0, 1) := by decide +kernel
theorem dX11_isFit_138 : decode cX11_isFit 138 = .ok (.istore_n 3, 1) := by decide +kernel
theorem dX11_isFit_139 : decode cX11_isFit 139 = .ok (.iinc 4 1, 3) := by decide +kernel
theorem dX11_isFit_142 : decode cX11_isFit 142 = .ok (.goto (-44), 3) := by decide +kernel
theorem dX11_isFit_145 : decode cX11_isFit 145 = .ok (.iload_n 3, 1) := by decide +kernel
theorem dX11_isFit_146 : decode cX11_isFit 146 = .ok (.ireturn, 1) := by decide +kernel
theorem dX11_plainEnter_0 : decode cX11_plainEnter 0 = .ok (.aload_n 0, 1) := by decide +kernel
theorem dX11_plainEnter_1 : decode cX11_plainEnter 1 = .ok (.getfield 37, 3) := by decide +kernel
theorem dX11_plainEnter_4 : decode cX11_plainEnter 4 = .ok (.iconst 0, 1) := by decide +kernel
theorem dX11_plainEnter_5 : decode cX11_plainEnter 5 = .ok (.dup2, 1) := by decide +kernel
theorem dX11_plainEnter_6 : decode cX11_plainEnter 6 = .ok (.iaload, 1) := by decide +kernel
theorem dX11_plainEnter_7 : decode cX11_plainEnter 7 = .ok (.iconst 1, 1) := by decide +kernel
theorem dX11_plainEnter_8 : decode cX11_plainEnter 8 = .ok (.iadd, 1) := by decide +kernel
theorem dX11_plainEnter_9 : decode cX11_plainEnter 9 = .ok (.iastore, 1) := by decide +kernel
theorem dX11_plainEnter_10 : decode cX11_plainEnter 10 = .ok (.aload_n 0, 1) := by decide +kernel
theorem dX11_plainEnter_11 : decode cX11_plainEnter 11 = .ok (.iload_n 1, 1) := by decide +kernel
theorem dX11_plainEnter_12 : decode cX11_plainEnter 12 = .ok (.invokevirtual 78, 3) := by decide +kernel
theorem dX11_plainEnter_15 : decode cX11_plainEnter 15 = .ok (.ifCond .ne 15, 3) := by decide +kernel
theorem dX11_plainEnter_18 : decode cX11_plainEnter 18 = .ok (.aload_n 0, 1) := by decide +kernel
theorem dX11_plainEnter_19 : decode cX11_plainEnter 19 = .ok (.dup, 1) := by decide +kernel
theorem dX11_plainEnter_20 : decode cX11_plainEnter 20 = .ok (.getfield 81, 3) := by decide +kernel
theorem dX11_plainEnter_23 : decode cX11_plainEnter 23 = .ok (.iconst 1, 1) := by decide +kernel
theorem dX11_plainEnter_24 : decode cX11_plainEnter 24 = .ok (.iadd, 1) := by decide +kernel
theorem dX11_plainEnter_25 : decode cX11_plainEnter 25 = .ok (.putfield 81, 3) := by decide +kernel
theorem dX11_plainEnter_28 : decode cX11_plainEnter 28 = .ok (.iconst 1, 1) := by decide +kernel
theorem dX11_plainEnter_29 : decode cX11_plainEnter 29 = .ok (.ireturn, 1) := by decide +kernel
theorem dX11_plainEnter_30 : decode cX11_plainEnter 30 = .ok (.aload_n 0, 1) := by decide +kernel
theorem dX11_plainEnter_31 : decode cX11_plainEnter 31 = .ok (.iload_n 1, 1) := by decide +kernel
theorem dX11_plainEnter_32 : decode cX11_plainEnter 32 = .ok (.iload_n 2, 1) := by decide +kernel
theorem dX11_plainEnter_33 : decode cX11_plainEnter 33 = .ok (.invokevirtual 84, 3) := by decide +kernel
theorem dX11_plainEnter_36 : decode cX11_plainEnter 36 = .ok (.istore_n 3, 1) := by decide +kernel
theorem dX11_plainEnter_37 : decode cX11_plainEnter 37 = .ok (.aload_n 0, 1) := by decide +kernel
theorem dX11_plainEnter_38 : decode cX11_plainEnter 38 = .ok (.getfield 58, 3) := by decide +kernel
theorem dX11_plainEnter_41 : decode cX11_plainEnter 41 = .ok (.ifCond .eq 5, 3) := by decide +kernel
theorem dX11_plainEnter_44 : decode cX11_plainEnter 44 = .ok (.iconst 2, 1) := by decide +kernel
theorem dX11_plainEnter_45 : decode cX11_plainEnter 45 = .ok (.ireturn, 1) := by decide +kernel
theorem dX11_plainEnter_46 : decode cX11_plainEnter 46 = .ok (.aload_n 0, 1) := by decide +kernel
theorem dX11_plainEnter_47 : decode cX11_plainEnter 47 = .ok (.getfield 25, 3) := by decide +kernel
theorem dX11_plainEnter_50 : decode cX11_plainEnter 50 = .ok (.iload_n 1, 1) := by decide +kernel
theorem dX11_plainEnter_51 : decode cX11_plainEnter 51 = .ok (.dup2, 1) := by decide +kernel
theorem dX11_plainEnter_52 : decode cX11_plainEnter 52 = .ok (.iaload, 1) := by decide +kernel
theorem dX11_plainEnter_53 : decode cX11_plainEnter 53 = .ok (.iload_n 3, 1) := by decide +kernel
theorem dX11_plainEnter_54 : decode cX11_plainEnter 54 = .ok (.iadd, 1) := by decide +kernel
theorem dX11_plainEnter_55 : decode cX11_plainEnter 55 = .ok (.iastore, 1) := by decide +kernel
theorem dX11_plainEnter_56 : decode cX11_plainEnter 56 = .ok (.aload_n 0, 1) := by decide +kernel
theorem dX11_plainEnter_57 : decode cX11_plainEnter 57 = .ok (.getfield 28, 3) := by decide +kernel
theorem dX11_plainEnter_60 : decode cX11_plainEnter 60 = .ok (.iload_n 1, 1) := by decide +kernel
theorem dX11_plainEnter_61 : decode cX11_plainEnter 61 = .ok (.dup2, 1) := by decide +kernel
theorem dX11_plainEnter_62 : decode cX11_plainEnter 62 = .ok (.iaload, 1) := by decide +kernel
theorem dX11_plainEnter_63 : decode cX11_plainEnter 63 = .ok (.iconst 1, 1) := by decide +kernel
theorem dX11_plainEnter_64 : decode cX11_plainEnter 64 = .ok (.iadd, 1) := by decide +kernel
theorem dX11_plainEnter_65 : decode cX11_plainEnter 65 = .ok (.iastore, 1) := by decide +kernel
theorem dX11_plainEnter_66 : decode cX11_plainEnter 66 = .ok (.aload_n 0, 1) := by decide +kernel
theorem dX11_plainEnter_67 : decode cX11_plainEnter 67 = .ok (.getfield 22, 3) := by decide +kernel
theorem dX11_plainEnter_70 : decode cX11_plainEnter 70 = .ok (.iload_n 1, 1) := by decide +kernel
theorem dX11_plainEnter_71 : decode cX11_plainEnter 71 = .ok (.iconst 1, 1) := by decide +kernel
theorem dX11_plainEnter_72 : decode cX11_plainEnter 72 = .ok (.iastore, 1) := by decide +kernel
theorem dX11_plainEnter_73 : decode cX11_plainEnter 73 = .ok (.aload_n 0, 1) := by decide +kernel
theorem dX11_plainEnter_74 : decode cX11_plainEnter 74 = .ok (.getfield 34, 3) := by decide +kernel
theorem dX11_plainEnter_77 : decode cX11_plainEnter 77 = .ok (.aload_n 0, 1) := by decide +kernel
theorem dX11_plainEnter_78 : decode cX11_plainEnter 78 = .ok (.getfield 68, 3) := by decide +kernel
theorem dX11_plainEnter_81 : decode cX11_plainEnter 81 = .ok (.iload_n 1, 1) := by decide +kernel
theorem dX11_plainEnter_82 : decode cX11_plainEnter 82 = .ok (.iastore, 1) := by decide +kernel
theorem dX11_plainEnter_83 : decode cX11_plainEnter 83 = .ok (.aload_n 0, 1) := by decide +kernel
theorem dX11_plainEnter_84 : decode cX11_plainEnter 84 = .ok (.dup, 1) := by decide +kernel
theorem dX11_plainEnter_85 : decode cX11_plainEnter 85 = .ok (.getfield 68, 3) := by decide +kernel
theorem dX11_plainEnter_88 : decode cX11_plainEnter 88 = .ok (.iconst 1, 1) := by decide +kernel
theorem dX11_plainEnter_89 : decode cX11_plainEnter 89 = .ok (.iadd, 1) := by decide +kernel
theorem dX11_plainEnter_90 : decode cX11_plainEnter 90 = .ok (.putfield 68, 3) := by decide +kernel
theorem dX11_plainEnter_93 : decode cX11_plainEnter 93 = .ok (.iconst 0, 1) := by decide +kernel
theorem dX11_plainEnter_94 : decode cX11_plainEnter 94 = .ok (.ireturn, 1) := by decide +kernel
theorem dX11_enters_0 : decode cX11_enters 0 = .ok (.aload_n 0, 1) := by decide +kernel
theorem dX11_enters_1 : decode cX11_enters 1 = .ok (.getfield 7, 3) := by decide +kernel
theorem dX11_enters_4 : decode cX11_enters 4 = .ok (.iload_n 1, 1) := by decide +kernel
theorem dX11_enters_5 : decode cX11_enters 5 = .ok (.iaload, 1) := by decide +kernel
theorem dX11_enters_6 : decode cX11_enters 6 = .ok (.tableswitch 200 3 8 #[38, 200, 65, 112, 112, 166], 38) := by decide +kernel
theorem dX11_enters_44 : decode cX11_enters 44 = .ok (.aload_n 0, 1) := by decide +kernel
theorem dX11_enters_45 : decode cX11_enters 45 = .ok (.getfield 37, 3) := by decide +kernel
theorem dX11_enters_48 : decode cX11_enters 48 = .ok (.iconst 3, 1) := by decide +kernel
theorem dX11_enters_49 : decode cX11_enters 49 = .ok (.dup2, 1) := by decide +kernel
theorem dX11_enters_50 : decode cX11_enters 50 = .ok (.iaload, 1) := by decide +kernel
theorem dX11_enters_51 : decode cX11_enters 51 = .ok (.iconst 1, 1) := by decide +kernel
theorem dX11_enters_52 : decode cX11_enters 52 = .ok (.iadd, 1) := by decide +kernel
theorem dX11_enters_53 : decode cX11_enters 53 = .ok (.iastore, 1) := by decide +kernel
theorem dX11_enters_54 : decode cX11_enters 54 = .ok (.aload_n 0, 1) := by decide +kernel
theorem dX11_enters_55 : decode cX11_enters 55 = .ok (.getfield 31, 3) := by decide +kernel
theorem dX11_enters_58 : decode cX11_enters 58 = .ok (.iload_n 1, 1) := by decide +kernel
theorem dX11_enters_59 : decode cX11_enters 59 = .ok (.dup2, 1) := by decide +kernel
theorem dX11_enters_60 : decode cX11_enters 60 = .ok (.iaload, 1) := by decide +kernel
theorem dX11_enters_61 : decode cX11_enters 61 = .ok (.iconst 1, 1) := by decide +kernel
theorem dX11_enters_62 : decode cX11_enters 62 = .ok (.iadd, 1) := by decide +kernel
theorem dX11_enters_63 : decode cX11_enters 63 = .ok (.iastore, 1) := by decide +kernel
theorem dX11_enters_64 : decode cX11_enters 64 = .ok (.aload_n 0, 1) := by decide +kernel
theorem dX11_enters_65 : decode cX11_enters 65 = .ok (.iload_n 1, 1) := by decide +kernel
theorem dX11_enters_66 : decode cX11_enters 66 = .ok (.iload_n 2, 1) := by decide +kernel
theorem dX11_enters_67 : decode cX11_enters 67 = .ok (.invokevirtual 88, 3) := by decide +kernel
theorem dX11_enters_70 : decode cX11_enters 70 = .ok (.ireturn, 1) := by decide +kernel
theorem dX11_enters_71 : decode cX11_enters 71 = .ok (.aload_n 0, 1) := by decide +kernel
theorem dX11_enters_72 : decode cX11_enters 72 = .ok (.getfield 37, 3) := by decide +kernel
theorem dX11_enters_75 : decode cX11_enters 75 = .ok (.iconst 5, 1) := by decide +kernel
theorem dX11_enters_76 : decode cX11_enters 76 = .ok (.dup2, 1) := by decide +kernel
theorem dX11_enters_77 : decode cX11_enters 77 = .ok (.iaload, 1) := by decide +kernel
theorem dX11_enters_78 : decode cX11_enters 78 = .ok (.iconst 1, 1) := by decide +kernel
theorem dX11_enters_79 : decode cX11_enters 79 = .ok (.iadd, 1) := by decide +kernel
theorem dX11_enters_80 : decode cX11_enters 80 = .ok (.iastore, 1) := by decide +kernel
theorem dX11_enters_81 : decode cX11_enters 81 = .ok (.aload_n 0, 1) := by decide +kernel
theorem dX11_enters_82 : decode cX11_enters 82 = .ok (.iload_n 1, 1) := by decide +kernel
theorem dX11_enters_83 : decode cX11_enters 83 = .ok (.iload_n 2, 1) := by decide +kernel
theorem dX11_enters_84 : decode cX11_enters 84 = .ok (.invokevirtual 88, 3) := by decide +kernel
theorem dX11_enters_87 : decode cX11_enters 87 = .ok (.istore_n 3, 1) := by decide +kernel
theorem dX11_enters_88 : decode cX11_enters 88 = .ok (.iload_n 3, 1) := by decide +kernel
theorem dX11_enters_89 : decode cX11_enters 89 = .ok (.ifCond .ne 27, 3) := by decide +kernel
theorem dX11_enters_92 : decode cX11_enters 92 = .ok (.aload_n 0, 1) := by decide +kernel
theorem dX11_enters_93 : decode cX11_enters 93 = .ok (.aload_n 0, 1) := by decide +kernel
theorem dX11_enters_94 : decode cX11_enters 94 = .ok (.getfield 40, 3) := by decide +kernel
theorem dX11_enters_97 : decode cX11_enters 97 = .ok (.bipush 100, 2) := by decide +kernel
theorem dX11_enters_99 : decode cX11_enters 99 = .ok (.if_icmp .le 13, 3) := by decide +kernel
theorem dX11_enters_102 : decode cX11_enters 102 = .ok (.aload_n 0, 1) := by decide +kernel
theorem dX11_enters_103 : decode cX11_enters 103 = .ok (.getfield 40, 3) := by decide +kernel
theorem dX11_enters_106 : decode cX11_enters 106 = .ok (.bipush 100, 2) := by decide +kernel
theorem dX11_enters_108 : decode cX11_enters 108 = .ok (.isub, 1) := by decide +kernel
theorem dX11_enters_109 : decode cX11_enters 109 = .ok (.goto 4, 3) := by decide +kernel
theorem dX11_enters_112 : decode cX11_enters 112 = .ok (.iconst 0, 1) := by decide +kernel
theorem dX11_enters_113 : decode cX11_enters 113 = .ok (.putfield 40, 3) := by decide +kernel
theorem dX11_enters_116 : decode cX11_enters 116 = .ok (.iload_n 3, 1) := by decide +kernel
theorem dX11_enters_117 : decode cX11_enters 117 = .ok (.ireturn, 1) := by decide +kernel
theorem dX11_enters_118 : decode cX11_enters 118 = .ok (.aload_n 0, 1) := by decide +kernel
theorem dX11_enters_119 : decode cX11_enters 119 = .ok (.getfield 37, 3) := by decide +kernel
theorem dX11_enters_122 : decode cX11_enters 122 = .ok (.bipush 6, 2) := by decide +kernel
theorem dX11_enters_124 : decode cX11_enters 124 = .ok (.dup2, 1) := by decide +kernel
theorem dX11_enters_125 : decode cX11_enters 125 = .ok (.iaload, 1) := by decide +kernel
theorem dX11_enters_126 : decode cX11_enters 126 = .ok (.iconst 1, 1) := by decide +kernel
theorem dX11_enters_127 : decode cX11_enters 127 = .ok (.iadd, 1) := by decide +kernel
theorem dX11_enters_128 : decode cX11_enters 128 = .ok (.iastore, 1) := by decide +kernel
theorem dX11_enters_129 : decode cX11_enters 129 = .ok (.aload_n 0, 1) := by decide +kernel
theorem dX11_enters_130 : decode cX11_enters 130 = .ok (.getfield 16, 3) := by decide +kernel
theorem dX11_enters_133 : decode cX11_enters 133 = .ok (.iload_n 1, 1) := by decide +kernel
theorem dX11_enters_134 : decode cX11_enters 134 = .ok (.aload_n 0, 1) := by decide +kernel
theorem dX11_enters_135 : decode cX11_enters 135 = .ok (.getfield 16, 3) := by decide +kernel
theorem dX11_enters_138 : decode cX11_enters 138 = .ok (.iload_n 1, 1) := by decide +kernel
theorem dX11_enters_139 : decode cX11_enters 139 = .ok (.iaload, 1) := by decide +kernel
theorem dX11_enters_140 : decode cX11_enters 140 = .ok (.bipush 40, 2) := by decide +kernel
theorem dX11_enters_142 : decode cX11_enters 142 = .ok (.iadd, 1) := by decide +kernel
theorem dX11_enters_143 : decode cX11_enters 143 = .ok (.sipush 5000, 3) := by decide +kernel
theorem dX11_enters_146 : decode cX11_enters 146 = .ok (.if_icmp .le 9, 3) := by decide +kernel
theorem dX11_enters_149 : decode cX11_enters 149 = .ok (.sipush 5000, 3) := by decide +kernel
theorem dX11_enters_152 : decode cX11_enters 152 = .ok (.goto 12, 3) := by decide +kernel
theorem dX11_enters_155 : decode cX11_enters 155 = .ok (.aload_n 0, 1) := by decide +kernel
theorem dX11_enters_156 : decode cX11_enters 156 = .ok (.getfield 16, 3) := by decide +kernel
theorem dX11_enters_159 : decode cX11_enters 159 = .ok (.iload_n 1, 1) := by decide +kernel
theorem dX11_enters_160 : decode cX11_enters 160 = .ok (.iaload, 1) := by decide +kernel
theorem dX11_enters_161 : decode cX11_enters 161 = .ok (.bipush 40, 2) := by decide +kernel
theorem dX11_enters_163 : decode cX11_enters 163 = .ok (.iadd, 1) := by decide +kernel
theorem dX11_enters_164 : decode cX11_enters 164 = .ok (.iastore, 1) := by decide +kernel
theorem dX11_enters_165 : decode cX11_enters 165 = .ok (.aload_n 0, 1) := by decide +kernel
theorem dX11_enters_166 : decode cX11_enters 166 = .ok (.iload_n 1, 1) := by decide +kernel
theorem dX11_enters_167 : decode cX11_enters 167 = .ok (.iload_n 2, 1) := by decide +kernel
theorem dX11_enters_168 : decode cX11_enters 168 = .ok (.invokevirtual 88, 3) := by decide +kernel
theorem dX11_enters_171 : decode cX11_enters 171 = .ok (.ireturn, 1) := by decide +kernel
theorem dX11_enters_172 : decode cX11_enters 172 = .ok (.aload_n 0, 1) := by decide +kernel
theorem dX11_enters_173 : decode cX11_enters 173 = .ok (.getfield 37, 3) := by decide +kernel
theorem dX11_enters_176 : decode cX11_enters 176 = .ok (.bipush 8, 2) := by decide +kernel
theorem dX11_enters_178 : decode cX11_enters 178 = .ok (.dup2, 1) := by decide +kernel
theorem dX11_enters_179 : decode cX11_enters 179 = .ok (.iaload, 1) := by decide +kernel
theorem dX11_enters_180 : decode cX11_enters 180 = .ok (.iconst 1, 1) := by decide +kernel
theorem dX11_enters_181 : decode cX11_enters 181 = .ok (.iadd, 1) := by decide +kernel
theorem dX11_enters_182 : decode cX11_enters 182 = .ok (.iastore, 1) := by decide +kernel
theorem dX11_enters_183 : decode cX11_enters 183 = .ok (.aload_n 0, 1) := by decide +kernel
theorem dX11_enters_184 : decode cX11_enters 184 = .ok (.iload_n 1, 1) := by decide +kernel
theorem dX11_enters_185 : decode cX11_enters 185 = .ok (.iload_n 2, 1) := by decide +kernel
theorem dX11_enters_186 : decode cX11_enters 186 = .ok (.invokevirtual 88, 3) := by decide +kernel
theorem dX11_enters_189 : decode cX11_enters 189 = .ok (.istore_n 3, 1) := by decide +kernel
theorem dX11_enters_190 : decode cX11_enters 190 = .ok (.iload_n 3, 1) := by decide +kernel
theorem dX11_enters_191 : decode cX11_enters 191 = .ok (.iconst 1, 1) := by decide +kernel
theorem dX11_enters_192 : decode cX11_enters 192 = .ok (.if_icmp .ne 12, 3) := by decide +kernel
theorem dX11_enters_195 : decode cX11_enters 195 = .ok (.aload_n 0, 1) := by decide +kernel
theorem dX11_enters_196 : decode cX11_enters 196 = .ok (.iload_n 1, 1) := by decide +kernel
theorem dX11_enters_197 : decode cX11_enters 197 = .ok (.iload_n 2, 1) := by decide +kernel
theorem dX11_enters_198 : decode cX11_enters 198 = .ok (.invokevirtual 88, 3) := by decide +kernel
theorem dX11_enters_201 : decode cX11_enters 201 = .ok (.goto 4, 3) := by decide +kernel
theorem dX11_enters_204 : decode cX11_enters 204 = .ok (.iload_n 3, 1) := by decide +kernel
theorem dX11_enters_205 : decode cX11_enters 205 = .ok (.ireturn, 1) := by decide +kernel
theorem dX11_enters_206 : decode cX11_enters 206 = .ok (.aload_n 0, 1) := by decide +kernel
theorem dX11_enters_207 : decode cX11_enters 207 = .ok (.iload_n 1, 1) := by decide +kernel
theorem dX11_enters_208 : decode cX11_enters 208 = .ok (.iload_n 2, 1) := by decide +kernel
theorem dX11_enters_209 : decode cX11_enters 209 = .ok (.invokevirtual 88, 3) := by decide +kernel
theorem dX11_enters_212 : decode cX11_enters 212 = .ok (.ireturn, 1) := by decide +kernel
theorem dX11_leaves_0 : decode cX11_leaves 0 = .ok (.aload_n 0, 1) := by decide +kernel
theorem dX11_leaves_1 : decode cX11_leaves 1 = .ok (.getfield 37, 3) := by decide +kernel
theorem dX11_leaves_4 : decode cX11_leaves 4 = .ok (.iconst 0, 1) := by decide +kernel
theorem dX11_leaves_5 : decode cX11_leaves 5 = .ok (.dup2, 1) := by decide +kernel
theorem dX11_leaves_6 : decode cX11_leaves 6 = .ok (.iaload, 1) := by decide +kernel
theorem dX11_leaves_7 : decode cX11_leaves 7 = .ok (.iconst 1, 1) := by decide +kernel
theorem dX11_leaves_8 : decode cX11_leaves 8 = .ok (.iadd, 1) := by decide +kernel
theorem dX11_leaves_9 : decode cX11_leaves 9 = .ok (.iastore, 1) := by decide +kernel
theorem dX11_leaves_10 : decode cX11_leaves 10 = .ok (.iconst 0, 1) := by decide +kernel
theorem dX11_leaves_11 : decode cX11_leaves 11 = .ok (.istore_n 2, 1) := by decide +kernel
theorem dX11_leaves_12 : decode cX11_leaves 12 = .ok (.aload_n 0, 1) := by decide +kernel
theorem dX11_leaves_13 : decode cX11_leaves 13 = .ok (.getfield 34, 3) := by decide +kernel
theorem dX11_leaves_16 : decode cX11_leaves 16 = .ok (.iload_n 2, 1) := by decide +kernel
theorem dX11_leaves_17 : decode cX11_leaves 17 = .ok (.iaload, 1) := by decide +kernel
theorem dX11_leaves_18 : decode cX11_leaves 18 = .ok (.iload_n 1, 1) := by decide +kernel
theorem dX11_leaves_19 : decode cX11_leaves 19 = .ok (.if_icmp .eq 9, 3) := by decide +kernel
theorem dX11_leaves_22 : decode cX11_leaves 22 = .ok (.iinc 2 1, 3) := by decide +kernel
theorem dX11_leaves_25 : decode cX11_leaves 25 = .ok (.goto (-13), 3) := by decide +kernel
theorem dX11_leaves_28 : decode cX11_leaves 28 = .ok (.aload_n 0, 1) := by decide +kernel
theorem dX11_leaves_29 : decode cX11_leaves 29 = .ok (.dup, 1) := by decide +kernel
theorem dX11_leaves_30 : decode cX11_leaves 30 = .ok (.getfield 68, 3) := by decide +kernel
theorem dX11_leaves_33 : decode cX11_leaves 33 = .ok (.iconst 1, 1) := by decide +kernel
theorem dX11_leaves_34 : decode cX11_leaves 34 = .ok (.isub, 1) := by decide +kernel
theorem dX11_leaves_35 : decode cX11_leaves 35 = .ok (.putfield 68, 3) := by decide +kernel
theorem dX11_leaves_38 : decode cX11_leaves 38 = .ok (.iload_n 2, 1) := by decide +kernel
theorem dX11_leaves_39 : decode cX11_leaves 39 = .ok (.istore_n 3, 1) := by decide +kernel
theorem dX11_leaves_40 : decode cX11_leaves 40 = .ok (.iload_n 3, 1) := by decide +kernel
theorem dX11_leaves_41 : decode cX11_leaves 41 = .ok (.aload_n 0, 1) := by decide +kernel
theorem dX11_leaves_42 : decode cX11_leaves 42 = .ok (.getfield 68, 3) := by decide +kernel
theorem dX11_leaves_45 : decode cX11_leaves 45 = .ok (.if_icmp .ge 23, 3) := by decide +kernel
theorem dX11_leaves_48 : decode cX11_leaves 48 = .ok (.aload_n 0, 1) := by decide +kernel
theorem dX11_leaves_49 : decode cX11_leaves 49 = .ok (.getfield 34, 3) := by decide +kernel
theorem dX11_leaves_52 : decode cX11_leaves 52 = .ok (.iload_n 3, 1) := by decide +kernel
theorem dX11_leaves_53 : decode cX11_leaves 53 = .ok (.aload_n 0, 1) := by decide +kernel
theorem dX11_leaves_54 : decode cX11_leaves 54 = .ok (.getfield 34, 3) := by decide +kernel
theorem dX11_leaves_57 : decode cX11_leaves 57 = .ok (.iload_n 3, 1) := by decide +kernel
theorem dX11_leaves_58 : decode cX11_leaves 58 = .ok (.iconst 1, 1) := by decide +kernel
theorem dX11_leaves_59 : decode cX11_leaves 59 = .ok (.iadd, 1) := by decide +kernel
theorem dX11_leaves_60 : decode cX11_leaves 60 = .ok (.iaload, 1) := by decide +kernel
theorem dX11_leaves_61 : decode cX11_leaves 61 = .ok (.iastore, 1) := by decide +kernel
theorem dX11_leaves_62 : decode cX11_leaves 62 = .ok (.iinc 3 1, 3) := by decide +kernel
theorem dX11_leaves_65 : decode cX11_leaves 65 = .ok (.goto (-25), 3) := by decide +kernel
theorem dX11_leaves_68 : decode cX11_leaves 68 = .ok (.aload_n 0, 1) := by decide +kernel
theorem dX11_leaves_69 : decode cX11_leaves 69 = .ok (.getfield 22, 3) := by decide +kernel
theorem dX11_leaves_72 : decode cX11_leaves 72 = .ok (.iload_n 1, 1) := by decide +kernel
theorem dX11_leaves_73 : decode cX11_leaves 73 = .ok (.iconst 0, 1) := by decide +kernel
theorem dX11_leaves_74 : decode cX11_leaves 74 = .ok (.iastore, 1) := by decide +kernel
theorem dX11_leaves_75 : decode cX11_leaves 75 = .ok (.aload_n 0, 1) := by decide +kernel
theorem dX11_leaves_76 : decode cX11_leaves 76 = .ok (.getfield 7, 3) := by decide +kernel
theorem dX11_leaves_79 : decode cX11_leaves 79 = .ok (.iload_n 1, 1) := by decide +kernel
theorem dX11_leaves_80 : decode cX11_leaves 80 = .ok (.iaload, 1) := by decide +kernel
theorem dX11_leaves_81 : decode cX11_leaves 81 = .ok (.istore_n 3, 1) := by decide +kernel
theorem dX11_leaves_82 : decode cX11_leaves 82 = .ok (.iload_n 3, 1) := by decide +kernel
theorem dX11_leaves_83 : decode cX11_leaves 83 = .ok (.iconst 3, 1) := by decide +kernel
theorem dX11_leaves_84 : decode cX11_leaves 84 = .ok (.if_icmp .ne 20, 3) := by decide +kernel
theorem dX11_leaves_87 : decode cX11_leaves 87 = .ok (.aload_n 0, 1) := by decide +kernel
theorem dX11_leaves_88 : decode cX11_leaves 88 = .ok (.getfield 37, 3) := by decide +kernel
theorem dX11_leaves_91 : decode cX11_leaves 91 = .ok (.iconst 3, 1) := by decide +kernel
theorem dX11_leaves_92 : decode cX11_leaves 92 = .ok (.dup2, 1) := by decide +kernel
theorem dX11_leaves_93 : decode cX11_leaves 93 = .ok (.iaload, 1) := by decide +kernel
theorem dX11_leaves_94 : decode cX11_leaves 94 = .ok (.iconst 1, 1) := by decide +kernel
theorem dX11_leaves_95 : decode cX11_leaves 95 = .ok (.iadd, 1) := by decide +kernel
theorem dX11_leaves_96 : decode cX11_leaves 96 = .ok (.iastore, 1) := by decide +kernel
theorem dX11_leaves_97 : decode cX11_leaves 97 = .ok (.aload_n 0, 1) := by decide +kernel
theorem dX11_leaves_98 : decode cX11_leaves 98 = .ok (.getfield 31, 3) := by decide +kernel
theorem dX11_leaves_101 : decode cX11_leaves 101 = .ok (.iload_n 1, 1) := by decide +kernel
theorem dX11_leaves_102 : decode cX11_leaves 102 = .ok (.iconst 0, 1) := by decide +kernel
theorem dX11_leaves_103 : decode cX11_leaves 103 = .ok (.iastore, 1) := by decide +kernel
theorem dX11_leaves_104 : decode cX11_leaves 104 = .ok (.iload_n 3, 1) := by decide +kernel
theorem dX11_leaves_105 : decode cX11_leaves 105 = .ok (.iconst 4, 1) := by decide +kernel
theorem dX11_leaves_106 : decode cX11_leaves 106 = .ok (.bipush 7, 2) := by decide +kernel
theorem dX11_leaves_108 : decode cX11_leaves 108 = .ok (.invokestatic 50, 3) := by decide +kernel
theorem dX11_leaves_111 : decode cX11_leaves 111 = .ok (.ifCond .eq 27, 3) := by decide +kernel
theorem dX11_leaves_114 : decode cX11_leaves 114 = .ok (.aload_n 0, 1) := by decide +kernel
theorem dX11_leaves_115 : decode cX11_leaves 115 = .ok (.getfield 37, 3) := by decide +kernel
theorem dX11_leaves_118 : decode cX11_leaves 118 = .ok (.iconst 4, 1) := by decide +kernel
theorem dX11_leaves_119 : decode cX11_leaves 119 = .ok (.dup2, 1) := by decide +kernel
theorem dX11_leaves_120 : decode cX11_leaves 120 = .ok (.iaload, 1) := by decide +kernel
theorem dX11_leaves_121 : decode cX11_leaves 121 = .ok (.iconst 1, 1) := by decide +kernel
theorem dX11_leaves_122 : decode cX11_leaves 122 = .ok (.iadd, 1) := by decide +kernel
theorem dX11_leaves_123 : decode cX11_leaves 123 = .ok (.iastore, 1) := by decide +kernel
theorem dX11_leaves_124 : decode cX11_leaves 124 = .ok (.aload_n 0, 1) := by decide +kernel
theorem dX11_leaves_125 : decode cX11_leaves 125 = .ok (.getfield 16, 3) := by decide +kernel
theorem dX11_leaves_128 : decode cX11_leaves 128 = .ok (.iload_n 1, 1) := by decide +kernel
theorem dX11_leaves_129 : decode cX11_leaves 129 = .ok (.aload_n 0, 1) := by decide +kernel
theorem dX11_leaves_130 : decode cX11_leaves 130 = .ok (.getfield 16, 3) := by decide +kernel
theorem dX11_leaves_133 : decode cX11_leaves 133 = .ok (.iload_n 1, 1) := by decide +kernel
theorem dX11_leaves_134 : decode cX11_leaves 134 = .ok (.iaload, 1) := by decide +kernel
theorem dX11_leaves_135 : decode cX11_leaves 135 = .ok (.iconst 2, 1) := by decide +kernel
theorem dX11_leaves_136 : decode cX11_leaves 136 = .ok (.idiv, 1) := by decide +kernel
theorem dX11_leaves_137 : decode cX11_leaves 137 = .ok (.iastore, 1) := by decide +kernel
theorem dX11_leaves_138 : decode cX11_leaves 138 = .ok (.iload_n 3, 1) := by decide +kernel
theorem dX11_leaves_139 : decode cX11_leaves 139 = .ok (.iconst 5, 1) := by decide +kernel
theorem dX11_leaves_140 : decode cX11_leaves 140 = .ok (.if_icmp .ne 43, 3) := by decide +kernel
theorem dX11_leaves_143 : decode cX11_leaves 143 = .ok (.aload_n 0, 1) := by decide +kernel
theorem dX11_leaves_144 : decode cX11_leaves 144 = .ok (.getfield 37, 3) := by decide +kernel
theorem dX11_leaves_147 : decode cX11_leaves 147 = .ok (.iconst 5, 1) := by decide +kernel
theorem dX11_leaves_148 : decode cX11_leaves 148 = .ok (.dup2, 1) := by decide +kernel
theorem dX11_leaves_149 : decode cX11_leaves 149 = .ok (.iaload, 1) := by decide +kernel
theorem dX11_leaves_150 : decode cX11_leaves 150 = .ok (.iconst 1, 1) := by decide +kernel
theorem dX11_leaves_151 : decode cX11_leaves 151 = .ok (.iadd, 1) := by decide +kernel
theorem dX11_leaves_152 : decode cX11_leaves 152 = .ok (.iastore, 1) := by decide +kernel
theorem dX11_leaves_153 : decode cX11_leaves 153 = .ok (.aload_n 0, 1) := by decide +kernel
theorem dX11_leaves_154 : decode cX11_leaves 154 = .ok (.aload_n 0, 1) := by decide +kernel
theorem dX11_leaves_155 : decode cX11_leaves 155 = .ok (.getfield 40, 3) := by decide +kernel
theorem dX11_leaves_158 : decode cX11_leaves 158 = .ok (.bipush 100, 2) := by decide +kernel
theorem dX11_leaves_160 : decode cX11_leaves 160 = .ok (.iadd, 1) := by decide +kernel
theorem dX11_leaves_161 : decode cX11_leaves 161 = .ok (.sipush 9000, 3) := by decide +kernel
theorem dX11_leaves_164 : decode cX11_leaves 164 = .ok (.if_icmp .le 9, 3) := by decide +kernel
theorem dX11_leaves_167 : decode cX11_leaves 167 = .ok (.sipush 9000, 3) := by decide +kernel
theorem dX11_leaves_170 : decode cX11_leaves 170 = .ok (.goto 10, 3) := by decide +kernel
theorem dX11_leaves_173 : decode cX11_leaves 173 = .ok (.aload_n 0, 1) := by decide +kernel
theorem dX11_leaves_174 : decode cX11_leaves 174 = .ok (.getfield 40, 3) := by decide +kernel
theorem dX11_leaves_177 : decode cX11_leaves 177 = .ok (.bipush 100, 2) := by decide +kernel
theorem dX11_leaves_179 : decode cX11_leaves 179 = .ok (.iadd, 1) := by decide +kernel
theorem dX11_leaves_180 : decode cX11_leaves 180 = .ok (.putfield 40, 3) := by decide +kernel
theorem dX11_leaves_183 : decode cX11_leaves 183 = .ok (.return_, 1) := by decide +kernel
theorem dX11_rebateOf_0 : decode cX11_rebateOf 0 = .ok (.aload_n 0, 1) := by decide +kernel
theorem dX11_rebateOf_1 : decode cX11_rebateOf 1 = .ok (.getfield 37, 3) := by decide +kernel
theorem dX11_rebateOf_4 : decode cX11_rebateOf 4 = .ok (.iconst 0, 1) := by decide +kernel
theorem dX11_rebateOf_5 : decode cX11_rebateOf 5 = .ok (.dup2, 1) := by decide +kernel
theorem dX11_rebateOf_6 : decode cX11_rebateOf 6 = .ok (.iaload, 1) := by decide +kernel
theorem dX11_rebateOf_7 : decode cX11_rebateOf 7 = .ok (.iconst 1, 1) := by decide +kernel
theorem dX11_rebateOf_8 : decode cX11_rebateOf 8 = .ok (.iadd, 1) := by decide +kernel
theorem dX11_rebateOf_9 : decode cX11_rebateOf 9 = .ok (.iastore, 1) := by decide +kernel
theorem dX11_rebateOf_10 : decode cX11_rebateOf 10 = .ok (.aload_n 0, 1) := by decide +kernel
theorem dX11_rebateOf_11 : decode cX11_rebateOf 11 = .ok (.getfield 19, 3) := by decide +kernel
theorem dX11_rebateOf_14 : decode cX11_rebateOf 14 = .ok (.iload_n 1, 1) := by decide +kernel
theorem dX11_rebateOf_15 : decode cX11_rebateOf 15 = .ok (.iaload, 1) := by decide +kernel
theorem dX11_rebateOf_16 : decode cX11_rebateOf 16 = .ok (.istore_n 2, 1) := by decide +kernel
theorem dX11_rebateOf_17 : decode cX11_rebateOf 17 = .ok (.aload_n 0, 1) := by decide +kernel
theorem dX11_rebateOf_18 : decode cX11_rebateOf 18 = .ok (.getfield 7, 3) := by decide +kernel
theorem dX11_rebateOf_21 : decode cX11_rebateOf 21 = .ok (.iload_n 1, 1) := by decide +kernel
theorem dX11_rebateOf_22 : decode cX11_rebateOf 22 = .ok (.iaload, 1) := by decide +kernel
theorem dX11_rebateOf_23 : decode cX11_rebateOf 23 = .ok (.iconst 2, 1) := by decide +kernel
theorem dX11_rebateOf_24 : decode cX11_rebateOf 24 = .ok (.iconst 3, 1) := by decide +kernel
theorem dX11_rebateOf_25 : decode cX11_rebateOf 25 = .ok (.invokestatic 50, 3) := by decide +kernel
theorem dX11_rebateOf_28 : decode cX11_rebateOf 28 = .ok (.ifCond .eq 20, 3) := by decide +kernel
theorem dX11_rebateOf_31 : decode cX11_rebateOf 31 = .ok (.aload_n 0, 1) := by decide +kernel
theorem dX11_rebateOf_32 : decode cX11_rebateOf 32 = .ok (.getfield 37, 3) := by decide +kernel
theorem dX11_rebateOf_35 : decode cX11_rebateOf 35 = .ok (.iconst 2, 1) := by decide +kernel
theorem dX11_rebateOf_36 : decode cX11_rebateOf 36 = .ok (.dup2, 1) := by decide +kernel
theorem dX11_rebateOf_37 : decode cX11_rebateOf 37 = .ok (.iaload, 1) := by decide +kernel
theorem dX11_rebateOf_38 : decode cX11_rebateOf 38 = .ok (.iconst 1, 1) := by decide +kernel
theorem dX11_rebateOf_39 : decode cX11_rebateOf 39 = .ok (.iadd, 1) := by decide +kernel
theorem dX11_rebateOf_40 : decode cX11_rebateOf 40 = .ok (.iastore, 1) := by decide +kernel
theorem dX11_rebateOf_41 : decode cX11_rebateOf 41 = .ok (.iload_n 2, 1) := by decide +kernel
theorem dX11_rebateOf_42 : decode cX11_rebateOf 42 = .ok (.iconst 5, 1) := by decide +kernel
theorem dX11_rebateOf_43 : decode cX11_rebateOf 43 = .ok (.iadd, 1) := by decide +kernel
theorem dX11_rebateOf_44 : decode cX11_rebateOf 44 = .ok (.istore_n 2, 1) := by decide +kernel
theorem dX11_rebateOf_45 : decode cX11_rebateOf 45 = .ok (.goto 29, 3) := by decide +kernel
theorem dX11_rebateOf_48 : decode cX11_rebateOf 48 = .ok (.aload_n 0, 1) := by decide +kernel
theorem dX11_rebateOf_49 : decode cX11_rebateOf 49 = .ok (.getfield 7, 3) := by decide +kernel
theorem dX11_rebateOf_52 : decode cX11_rebateOf 52 = .ok (.iload_n 1, 1) := by decide +kernel
theorem dX11_rebateOf_53 : decode cX11_rebateOf 53 = .ok (.iaload, 1) := by decide +kernel
theorem dX11_rebateOf_54 : decode cX11_rebateOf 54 = .ok (.bipush 7, 2) := by decide +kernel
theorem dX11_rebateOf_56 : decode cX11_rebateOf 56 = .ok (.if_icmp .ne 18, 3) := by decide +kernel
theorem dX11_rebateOf_59 : decode cX11_rebateOf 59 = .ok (.aload_n 0, 1) := by decide +kernel
theorem dX11_rebateOf_60 : decode cX11_rebateOf 60 = .ok (.getfield 37, 3) := by decide +kernel
theorem dX11_rebateOf_63 : decode cX11_rebateOf 63 = .ok (.bipush 7, 2) := by decide +kernel
theorem dX11_rebateOf_65 : decode cX11_rebateOf 65 = .ok (.dup2, 1) := by decide +kernel
theorem dX11_rebateOf_66 : decode cX11_rebateOf 66 = .ok (.iaload, 1) := by decide +kernel
theorem dX11_rebateOf_67 : decode cX11_rebateOf 67 = .ok (.iconst 1, 1) := by decide +kernel
theorem dX11_rebateOf_68 : decode cX11_rebateOf 68 = .ok (.iadd, 1) := by decide +kernel
theorem dX11_rebateOf_69 : decode cX11_rebateOf 69 = .ok (.iastore, 1) := by decide +kernel
theorem dX11_rebateOf_70 : decode cX11_rebateOf 70 = .ok (.iconst 2, 1) := by decide +kernel
theorem dX11_rebateOf_71 : decode cX11_rebateOf 71 = .ok (.iload_n 2, 1) := by decide +kernel
theorem dX11_rebateOf_72 : decode cX11_rebateOf 72 = .ok (.imul, 1) := by decide +kernel
theorem dX11_rebateOf_73 : decode cX11_rebateOf 73 = .ok (.istore_n 2, 1) := by decide +kernel
theorem dX11_rebateOf_74 : decode cX11_rebateOf 74 = .ok (.iload_n 2, 1) := by decide +kernel
theorem dX11_rebateOf_75 : decode cX11_rebateOf 75 = .ok (.bipush 100, 2) := by decide +kernel
theorem dX11_rebateOf_77 : decode cX11_rebateOf 77 = .ok (.if_icmp .le 8, 3) := by decide +kernel
theorem dX11_rebateOf_80 : decode cX11_rebateOf 80 = .ok (.bipush 100, 2) := by decide +kernel
theorem dX11_rebateOf_82 : decode cX11_rebateOf 82 = .ok (.goto 4, 3) := by decide +kernel
theorem dX11_rebateOf_85 : decode cX11_rebateOf 85 = .ok (.iload_n 2, 1) := by decide +kernel
theorem dX11_rebateOf_86 : decode cX11_rebateOf 86 = .ok (.ireturn, 1) := by decide +kernel
theorem dX11_hasAccount_0 : decode cX11_hasAccount 0 = .ok (.aload_n 0, 1) := by decide +kernel
theorem dX11_hasAccount_1 : decode cX11_hasAccount 1 = .ok (.getfield 7, 3) := by decide +kernel
theorem dX11_hasAccount_4 : decode cX11_hasAccount 4 = .ok (.iload_n 1, 1) := by decide +kernel
theorem dX11_hasAccount_5 : decode cX11_hasAccount 5 = .ok (.iaload, 1) := by decide +kernel
theorem dX11_hasAccount_6 : decode cX11_hasAccount 6 = .ok (.iconst 3, 1) := by decide +kernel
theorem dX11_hasAccount_7 : decode cX11_hasAccount 7 = .ok (.if_icmp .eq 25, 3) := by decide +kernel
theorem dX11_hasAccount_10 : decode cX11_hasAccount 10 = .ok (.aload_n 0, 1) := by decide +kernel
theorem dX11_hasAccount_11 : decode cX11_hasAccount 11 = .ok (.getfield 7, 3) := by decide +kernel
theorem dX11_hasAccount_14 : decode cX11_hasAccount 14 = .ok (.iload_n 1, 1) := by decide +kernel
theorem dX11_hasAccount_15 : decode cX11_hasAccount 15 = .ok (.iaload, 1) := by decide +kernel
theorem dX11_hasAccount_16 : decode cX11_hasAccount 16 = .ok (.bipush 6, 2) := by decide +kernel
theorem dX11_hasAccount_18 : decode cX11_hasAccount 18 = .ok (.if_icmp .eq 14, 3) := by decide +kernel
theorem dX11_hasAccount_21 : decode cX11_hasAccount 21 = .ok (.aload_n 0, 1) := by decide +kernel
theorem dX11_hasAccount_22 : decode cX11_hasAccount 22 = .ok (.getfield 7, 3) := by decide +kernel
theorem dX11_hasAccount_25 : decode cX11_hasAccount 25 = .ok (.iload_n 1, 1) := by decide +kernel
theorem dX11_hasAccount_26 : decode cX11_hasAccount 26 = .ok (.iaload, 1) := by decide +kernel
theorem dX11_hasAccount_27 : decode cX11_hasAccount 27 = .ok (.bipush 7, 2) := by decide +kernel
theorem dX11_hasAccount_29 : decode cX11_hasAccount 29 = .ok (.if_icmp .ne 7, 3) := by decide +kernel
theorem dX11_hasAccount_32 : decode cX11_hasAccount 32 = .ok (.iconst 1, 1) := by decide +kernel
theorem dX11_hasAccount_33 : decode cX11_hasAccount 33 = .ok (.goto 4, 3) := by decide +kernel
theorem dX11_hasAccount_36 : decode cX11_hasAccount 36 = .ok (.iconst 0, 1) := by decide +kernel
theorem dX11_hasAccount_37 : decode cX11_hasAccount 37 = .ok (.ireturn, 1) := by decide +kernel
theorem dX11_billOf_0 : decode cX11_billOf 0 = .ok (.aload_n 0, 1) := by decide +kernel
theorem dX11_billOf_1 : decode cX11_billOf 1 = .ok (.iload_n 1, 1) := by decide +kernel
theorem dX11_billOf_2 : decode cX11_billOf 2 = .ok (.iload_n 2, 1) := by decide +kernel
theorem dX11_billOf_3 : decode cX11_billOf 3 = .ok (.invokevirtual 84, 3) := by decide +kernel
theorem dX11_billOf_6 : decode cX11_billOf 6 = .ok (.istore_n 3, 1) := by decide +kernel
theorem dX11_billOf_7 : decode cX11_billOf 7 = .ok (.iload_n 3, 1) := by decide +kernel
theorem dX11_billOf_8 : decode cX11_billOf 8 = .ok (.iload_n 3, 1) := by decide +kernel
theorem dX11_billOf_9 : decode cX11_billOf 9 = .ok (.aload_n 0, 1) := by decide +kernel
theorem dX11_billOf_10 : decode cX11_billOf 10 = .ok (.iload_n 1, 1) := by decide +kernel
theorem dX11_billOf_11 : decode cX11_billOf 11 = .ok (.invokevirtual 91, 3) := by decide +kernel
theorem dX11_billOf_14 : decode cX11_billOf 14 = .ok (.imul, 1) := by decide +kernel
theorem dX11_billOf_15 : decode cX11_billOf 15 = .ok (.bipush 100, 2) := by decide +kernel
theorem dX11_billOf_17 : decode cX11_billOf 17 = .ok (.idiv, 1) := by decide +kernel
theorem dX11_billOf_18 : decode cX11_billOf 18 = .ok (.isub, 1) := by decide +kernel
theorem dX11_billOf_19 : decode cX11_billOf 19 = .ok (.ireturn, 1) := by decide +kernel
theorem dX11_weight_0 : decode cX11_weight 0 = .ok (.aload_n 0, 1) := by decide +kernel
theorem dX11_weight_1 : decode cX11_weight 1 = .ok (.iconst 0, 1) := by decide +kernel
theorem dX11_weight_2 : decode cX11_weight 2 = .ok (.putfield 44, 3) := by decide +kernel
theorem dX11_weight_5 : decode cX11_weight 5 = .ok (.aload_n 0, 1) := by decide +kernel
theorem dX11_weight_6 : decode cX11_weight 6 = .ok (.iload_n 1, 1) := by decide +kernel
theorem dX11_weight_7 : decode cX11_weight 7 = .ok (.invokevirtual 94, 3) := by decide +kernel
theorem dX11_weight_10 : decode cX11_weight 10 = .ok (.ifCond .eq 11, 3) := by decide +kernel
theorem dX11_weight_13 : decode cX11_weight 13 = .ok (.aload_n 0, 1) := by decide +kernel
theorem dX11_weight_14 : decode cX11_weight 14 = .ok (.iload_n 1, 1) := by decide +kernel
theorem dX11_weight_15 : decode cX11_weight 15 = .ok (.invokevirtual 54, 3) := by decide +kernel
theorem dX11_weight_18 : decode cX11_weight 18 = .ok (.goto 5, 3) := by decide +kernel
theorem dX11_weight_21 : decode cX11_weight 21 = .ok (.bipush (-101), 2) := by decide +kernel
theorem dX11_weight_23 : decode cX11_weight 23 = .ok (.ireturn, 1) := by decide +kernel
theorem dX11_toll_0 : decode cX11_toll 0 = .ok (.aload_n 0, 1) := by decide +kernel
theorem dX11_toll_1 : decode cX11_toll 1 = .ok (.iconst 0, 1) := by decide +kernel
theorem dX11_toll_2 : decode cX11_toll 2 = .ok (.putfield 44, 3) := by decide +kernel
theorem dX11_toll_5 : decode cX11_toll 5 = .ok (.aload_n 0, 1) := by decide +kernel
theorem dX11_toll_6 : decode cX11_toll 6 = .ok (.iload_n 1, 1) := by decide +kernel
theorem dX11_toll_7 : decode cX11_toll 7 = .ok (.invokevirtual 94, 3) := by decide +kernel
theorem dX11_toll_10 : decode cX11_toll 10 = .ok (.ifCond .ne 6, 3) := by decide +kernel
theorem dX11_toll_13 : decode cX11_toll 13 = .ok (.bipush (-101), 2) := by decide +kernel
theorem dX11_toll_15 : decode cX11_toll 15 = .ok (.ireturn, 1) := by decide +kernel
theorem dX11_toll_16 : decode cX11_toll 16 = .ok (.iload_n 2, 1) := by decide +kernel
theorem dX11_toll_17 : decode cX11_toll 17 = .ok (.invokestatic 97, 3) := by decide +kernel
theorem dX11_toll_20 : decode cX11_toll 20 = .ok (.ifCond .ne 6, 3) := by decide +kernel
theorem dX11_toll_23 : decode cX11_toll 23 = .ok (.bipush (-102), 2) := by decide +kernel
theorem dX11_toll_25 : decode cX11_toll 25 = .ok (.ireturn, 1) := by decide +kernel
theorem dX11_toll_26 : decode cX11_toll 26 = .ok (.aload_n 0, 1) := by decide +kernel
theorem dX11_toll_27 : decode cX11_toll 27 = .ok (.iload_n 1, 1) := by decide +kernel
theorem dX11_toll_28 : decode cX11_toll 28 = .ok (.iload_n 2, 1) := by decide +kernel
theorem dX11_toll_29 : decode cX11_toll 29 = .ok (.invokevirtual 84, 3) := by decide +kernel
theorem dX11_toll_32 : decode cX11_toll 32 = .ok (.istore_n 3, 1) := by decide +kernel
theorem dX11_toll_33 : decode cX11_toll 33 = .ok (.aload_n 0, 1) := by decide +kernel
theorem dX11_toll_34 : decode cX11_toll 34 = .ok (.aload_n 0, 1) := by decide +kernel
theorem dX11_toll_35 : decode cX11_toll 35 = .ok (.getfield 58, 3) := by decide +kernel
theorem dX11_toll_38 : decode cX11_toll 38 = .ok (.ifCond .eq 7, 3) := by decide +kernel
theorem dX11_toll_41 : decode cX11_toll 41 = .ok (.iconst 1, 1) := by decide +kernel
theorem dX11_toll_42 : decode cX11_toll 42 = .ok (.goto 4, 3) := by decide +kernel
theorem dX11_toll_45 : decode cX11_toll 45 = .ok (.iconst 0, 1) := by decide +kernel
theorem dX11_toll_46 : decode cX11_toll 46 = .ok (.putfield 44, 3) := by decide +kernel
theorem dX11_toll_49 : decode cX11_toll 49 = .ok (.iload_n 3, 1) := by decide +kernel
theorem dX11_toll_50 : decode cX11_toll 50 = .ok (.ireturn, 1) := by decide +kernel
theorem dX11_fits_0 : decode cX11_fits 0 = .ok (.aload_n 0, 1) := by decide +kernel
theorem dX11_fits_1 : decode cX11_fits 1 = .ok (.iconst 0, 1) := by decide +kernel
theorem dX11_fits_2 : decode cX11_fits 2 = .ok (.putfield 44, 3) := by decide +kernel
theorem dX11_fits_5 : decode cX11_fits 5 = .ok (.aload_n 0, 1) := by decide +kernel
theorem dX11_fits_6 : decode cX11_fits 6 = .ok (.iload_n 1, 1) := by decide +kernel
theorem dX11_fits_7 : decode cX11_fits 7 = .ok (.invokevirtual 94, 3) := by decide +kernel
theorem dX11_fits_10 : decode cX11_fits 10 = .ok (.ifCond .ne 8, 3) := by decide +kernel
theorem dX11_fits_13 : decode cX11_fits 13 = .ok (.bipush (-101), 2) := by decide +kernel
theorem dX11_fits_15 : decode cX11_fits 15 = .ok (.goto 16, 3) := by decide +kernel
theorem dX11_fits_18 : decode cX11_fits 18 = .ok (.aload_n 0, 1) := by decide +kernel
theorem dX11_fits_19 : decode cX11_fits 19 = .ok (.iload_n 1, 1) := by decide +kernel
theorem dX11_fits_20 : decode cX11_fits 20 = .ok (.invokevirtual 78, 3) := by decide +kernel
theorem dX11_fits_23 : decode cX11_fits 23 = .ok (.ifCond .eq 7, 3) := by decide +kernel
theorem dX11_fits_26 : decode cX11_fits 26 = .ok (.iconst 1, 1) := by decide +kernel
theorem dX11_fits_27 : decode cX11_fits 27 = .ok (.goto 4, 3) := by decide +kernel
theorem dX11_fits_30 : decode cX11_fits 30 = .ok (.iconst 0, 1) := by decide +kernel
theorem dX11_fits_31 : decode cX11_fits 31 = .ok (.ireturn, 1) := by decide +kernel
theorem dX11_enter_0 : decode cX11_enter 0 = .ok (.aload_n 0, 1) := by decide +kernel
theorem dX11_enter_1 : decode cX11_enter 1 = .ok (.iconst 0, 1) := by decide +kernel
theorem dX11_enter_2 : decode cX11_enter 2 = .ok (.putfield 44, 3) := by decide +kernel
theorem dX11_enter_5 : decode cX11_enter 5 = .ok (.aload_n 0, 1) := by decide +kernel
theorem dX11_enter_6 : decode cX11_enter 6 = .ok (.iload_n 1, 1) := by decide +kernel
theorem dX11_enter_7 : decode cX11_enter 7 = .ok (.invokevirtual 94, 3) := by decide +kernel
theorem dX11_enter_10 : decode cX11_enter 10 = .ok (.ifCond .ne 6, 3) := by decide +kernel
theorem dX11_enter_13 : decode cX11_enter 13 = .ok (.bipush (-101), 2) := by decide +kernel
theorem dX11_enter_15 : decode cX11_enter 15 = .ok (.ireturn, 1) := by decide +kernel
theorem dX11_enter_16 : decode cX11_enter 16 = .ok (.iload_n 2, 1) := by decide +kernel
theorem dX11_enter_17 : decode cX11_enter 17 = .ok (.invokestatic 97, 3) := by decide +kernel
theorem dX11_enter_20 : decode cX11_enter 20 = .ok (.ifCond .ne 6, 3) := by decide +kernel
theorem dX11_enter_23 : decode cX11_enter 23 = .ok (.bipush (-102), 2) := by decide +kernel
theorem dX11_enter_25 : decode cX11_enter 25 = .ok (.ireturn, 1) := by decide +kernel
theorem dX11_enter_26 : decode cX11_enter 26 = .ok (.aload_n 0, 1) := by decide +kernel
theorem dX11_enter_27 : decode cX11_enter 27 = .ok (.getfield 22, 3) := by decide +kernel
theorem dX11_enter_30 : decode cX11_enter 30 = .ok (.iload_n 1, 1) := by decide +kernel
theorem dX11_enter_31 : decode cX11_enter 31 = .ok (.iaload, 1) := by decide +kernel
theorem dX11_enter_32 : decode cX11_enter 32 = .ok (.iconst 1, 1) := by decide +kernel
theorem dX11_enter_33 : decode cX11_enter 33 = .ok (.if_icmp .ne 6, 3) := by decide +kernel
theorem dX11_enter_36 : decode cX11_enter 36 = .ok (.bipush (-103), 2) := by decide +kernel
theorem dX11_enter_38 : decode cX11_enter 38 = .ok (.ireturn, 1) := by decide +kernel
theorem dX11_enter_39 : decode cX11_enter 39 = .ok (.aload_n 0, 1) := by decide +kernel
theorem dX11_enter_40 : decode cX11_enter 40 = .ok (.aload_n 0, 1) := by decide +kernel
theorem dX11_enter_41 : decode cX11_enter 41 = .ok (.iload_n 1, 1) := by decide +kernel
theorem dX11_enter_42 : decode cX11_enter 42 = .ok (.iload_n 2, 1) := by decide +kernel
theorem dX11_enter_43 : decode cX11_enter 43 = .ok (.invokevirtual 100, 3) := by decide +kernel
theorem dX11_enter_46 : decode cX11_enter 46 = .ok (.putfield 44, 3) := by decide +kernel
theorem dX11_enter_49 : decode cX11_enter 49 = .ok (.aload_n 0, 1) := by decide +kernel
theorem dX11_enter_50 : decode cX11_enter 50 = .ok (.getfield 44, 3) := by decide +kernel
theorem dX11_enter_53 : decode cX11_enter 53 = .ok (.ifCond .ne 12, 3) := by decide +kernel
theorem dX11_enter_56 : decode cX11_enter 56 = .ok (.aload_n 0, 1) := by decide +kernel
theorem dX11_enter_57 : decode cX11_enter 57 = .ok (.getfield 25, 3) := by decide +kernel
theorem dX11_enter_60 : decode cX11_enter 60 = .ok (.iload_n 1, 1) := by decide +kernel
theorem dX11_enter_61 : decode cX11_enter 61 = .ok (.iaload, 1) := by decide +kernel
theorem dX11_enter_62 : decode cX11_enter 62 = .ok (.goto 4, 3) := by decide +kernel
theorem dX11_enter_65 : decode cX11_enter 65 = .ok (.iconst 0, 1) := by decide +kernel
theorem dX11_enter_66 : decode cX11_enter 66 = .ok (.ireturn, 1) := by decide +kernel
theorem dX11_leave_0 : decode cX11_leave 0 = .ok (.aload_n 0, 1) := by decide +kernel
theorem dX11_leave_1 : decode cX11_leave 1 = .ok (.iconst 0, 1) := by decide +kernel
theorem dX11_leave_2 : decode cX11_leave 2 = .ok (.putfield 44, 3) := by decide +kernel
theorem dX11_leave_5 : decode cX11_leave 5 = .ok (.aload_n 0, 1) := by decide +kernel
theorem dX11_leave_6 : decode cX11_leave 6 = .ok (.iload_n 1, 1) := by decide +kernel
theorem dX11_leave_7 : decode cX11_leave 7 = .ok (.invokevirtual 94, 3) := by decide +kernel
theorem dX11_leave_10 : decode cX11_leave 10 = .ok (.ifCond .ne 6, 3) := by decide +kernel
theorem dX11_leave_13 : decode cX11_leave 13 = .ok (.bipush (-101), 2) := by decide +kernel
theorem dX11_leave_15 : decode cX11_leave 15 = .ok (.ireturn, 1) := by decide +kernel
theorem dX11_leave_16 : decode cX11_leave 16 = .ok (.aload_n 0, 1) := by decide +kernel
theorem dX11_leave_17 : decode cX11_leave 17 = .ok (.getfield 22, 3) := by decide +kernel
theorem dX11_leave_20 : decode cX11_leave 20 = .ok (.iload_n 1, 1) := by decide +kernel
theorem dX11_leave_21 : decode cX11_leave 21 = .ok (.iaload, 1) := by decide +kernel
theorem dX11_leave_22 : decode cX11_leave 22 = .ok (.ifCond .ne 6, 3) := by decide +kernel
theorem dX11_leave_25 : decode cX11_leave 25 = .ok (.bipush (-103), 2) := by decide +kernel
theorem dX11_leave_27 : decode cX11_leave 27 = .ok (.ireturn, 1) := by decide +kernel
theorem dX11_leave_28 : decode cX11_leave 28 = .ok (.aload_n 0, 1) := by decide +kernel
theorem dX11_leave_29 : decode cX11_leave 29 = .ok (.iload_n 1, 1) := by decide +kernel
theorem dX11_leave_30 : decode cX11_leave 30 = .ok (.invokevirtual 103, 3) := by decide +kernel
theorem dX11_leave_33 : decode cX11_leave 33 = .ok (.aload_n 0, 1) := by decide +kernel
theorem dX11_leave_34 : decode cX11_leave 34 = .ok (.getfield 68, 3) := by decide +kernel
theorem dX11_leave_37 : decode cX11_leave 37 = .ok (.ireturn, 1) := by decide +kernel
theorem dX11_rebate_0 : decode cX11_rebate 0 = .ok (.aload_n 0, 1) := by decide +kernel
theorem dX11_rebate_1 : decode cX11_rebate 1 = .ok (.iconst 0, 1) := by decide +kernel
theorem dX11_rebate_2 : decode cX11_rebate 2 = .ok (.putfield 44, 3) := by decide +kernel
theorem dX11_rebate_5 : decode cX11_rebate 5 = .ok (.aload_n 0, 1) := by decide +kernel
theorem dX11_rebate_6 : decode cX11_rebate 6 = .ok (.iload_n 1, 1) := by decide +kernel
theorem dX11_rebate_7 : decode cX11_rebate 7 = .ok (.invokevirtual 94, 3) := by decide +kernel
theorem dX11_rebate_10 : decode cX11_rebate 10 = .ok (.ifCond .eq 11, 3) := by decide +kernel
theorem dX11_rebate_13 : decode cX11_rebate 13 = .ok (.aload_n 0, 1) := by decide +kernel
theorem dX11_rebate_14 : decode cX11_rebate 14 = .ok (.iload_n 1, 1) := by decide +kernel
theorem dX11_rebate_15 : decode cX11_rebate 15 = .ok (.invokevirtual 91, 3) := by decide +kernel
theorem dX11_rebate_18 : decode cX11_rebate 18 = .ok (.goto 5, 3) := by decide +kernel
theorem dX11_rebate_21 : decode cX11_rebate 21 = .ok (.bipush (-101), 2) := by decide +kernel
theorem dX11_rebate_23 : decode cX11_rebate 23 = .ok (.ireturn, 1) := by decide +kernel
theorem dX11_bill_0 : decode cX11_bill 0 = .ok (.aload_n 0, 1) := by decide +kernel
theorem dX11_bill_1 : decode cX11_bill 1 = .ok (.iconst 0, 1) := by decide +kernel
theorem dX11_bill_2 : decode cX11_bill 2 = .ok (.putfield 44, 3) := by decide +kernel
theorem dX11_bill_5 : decode cX11_bill 5 = .ok (.aload_n 0, 1) := by decide +kernel
theorem dX11_bill_6 : decode cX11_bill 6 = .ok (.iload_n 1, 1) := by decide +kernel
theorem dX11_bill_7 : decode cX11_bill 7 = .ok (.invokevirtual 94, 3) := by decide +kernel
theorem dX11_bill_10 : decode cX11_bill 10 = .ok (.ifCond .ne 6, 3) := by decide +kernel
theorem dX11_bill_13 : decode cX11_bill 13 = .ok (.bipush (-101), 2) := by decide +kernel
theorem dX11_bill_15 : decode cX11_bill 15 = .ok (.ireturn, 1) := by decide +kernel
theorem dX11_bill_16 : decode cX11_bill 16 = .ok (.iload_n 2, 1) := by decide +kernel
theorem dX11_bill_17 : decode cX11_bill 17 = .ok (.invokestatic 97, 3) := by decide +kernel
theorem dX11_bill_20 : decode cX11_bill 20 = .ok (.ifCond .ne 6, 3) := by decide +kernel
theorem dX11_bill_23 : decode cX11_bill 23 = .ok (.bipush (-102), 2) := by decide +kernel
theorem dX11_bill_25 : decode cX11_bill 25 = .ok (.ireturn, 1) := by decide +kernel
theorem dX11_bill_26 : decode cX11_bill 26 = .ok (.aload_n 0, 1) := by decide +kernel
theorem dX11_bill_27 : decode cX11_bill 27 = .ok (.iload_n 1, 1) := by decide +kernel
theorem dX11_bill_28 : decode cX11_bill 28 = .ok (.invokevirtual 107, 3) := by decide +kernel
theorem dX11_bill_31 : decode cX11_bill 31 = .ok (.ifCond .eq 12, 3) := by decide +kernel
theorem dX11_bill_34 : decode cX11_bill 34 = .ok (.aload_n 0, 1) := by decide +kernel
theorem dX11_bill_35 : decode cX11_bill 35 = .ok (.iload_n 1, 1) := by decide +kernel
theorem dX11_bill_36 : decode cX11_bill 36 = .ok (.iload_n 2, 1) := by decide +kernel
theorem dX11_bill_37 : decode cX11_bill 37 = .ok (.invokevirtual 110, 3) := by decide +kernel
theorem dX11_bill_40 : decode cX11_bill 40 = .ok (.goto 5, 3) := by decide +kernel
theorem dX11_bill_43 : decode cX11_bill 43 = .ok (.bipush (-103), 2) := by decide +kernel
theorem dX11_bill_45 : decode cX11_bill 45 = .ok (.ireturn, 1) := by decide +kernel
theorem dX11_month_0 : decode cX11_month 0 = .ok (.aload_n 0, 1) := by decide +kernel
theorem dX11_month_1 : decode cX11_month 1 = .ok (.iconst 0, 1) := by decide +kernel
theorem dX11_month_2 : decode cX11_month 2 = .ok (.putfield 44, 3) := by decide +kernel
theorem dX11_month_5 : decode cX11_month 5 = .ok (.aload_n 0, 1) := by decide +kernel
theorem dX11_month_6 : decode cX11_month 6 = .ok (.iload_n 1, 1) := by decide +kernel
theorem dX11_month_7 : decode cX11_month 7 = .ok (.invokevirtual 94, 3) := by decide +kernel
theorem dX11_month_10 : decode cX11_month 10 = .ok (.ifCond .ne 6, 3) := by decide +kernel
theorem dX11_month_13 : decode cX11_month 13 = .ok (.bipush (-101), 2) := by decide +kernel
theorem dX11_month_15 : decode cX11_month 15 = .ok (.ireturn, 1) := by decide +kernel
theorem dX11_month_16 : decode cX11_month 16 = .ok (.iload_n 2, 1) := by decide +kernel
theorem dX11_month_17 : decode cX11_month 17 = .ok (.iconst 0, 1) := by decide +kernel
theorem dX11_month_18 : decode cX11_month 18 = .ok (.bipush 31, 2) := by decide +kernel
theorem dX11_month_20 : decode cX11_month 20 = .ok (.invokestatic 50, 3) := by decide +kernel
theorem dX11_month_23 : decode cX11_month 23 = .ok (.ifCond .ne 6, 3) := by decide +kernel
theorem dX11_month_26 : decode cX11_month 26 = .ok (.bipush (-102), 2) := by decide +kernel
theorem dX11_month_28 : decode cX11_month 28 = .ok (.ireturn, 1) := by decide +kernel
theorem dX11_month_29 : decode cX11_month 29 = .ok (.aload_n 0, 1) := by decide +kernel
theorem dX11_month_30 : decode cX11_month 30 = .ok (.iload_n 1, 1) := by decide +kernel
theorem dX11_month_31 : decode cX11_month 31 = .ok (.invokevirtual 107, 3) := by decide +kernel
theorem dX11_month_34 : decode cX11_month 34 = .ok (.ifCond .ne 6, 3) := by decide +kernel
theorem dX11_month_37 : decode cX11_month 37 = .ok (.bipush (-103), 2) := by decide +kernel
theorem dX11_month_39 : decode cX11_month 39 = .ok (.ireturn, 1) := by decide +kernel
theorem dX11_month_40 : decode cX11_month 40 = .ok (.aload_n 0, 1) := by decide +kernel
theorem dX11_month_41 : decode cX11_month 41 = .ok (.getfield 7, 3) := by decide +kernel
theorem dX11_month_44 : decode cX11_month 44 = .ok (.iload_n 1, 1) := by decide +kernel
theorem dX11_month_45 : decode cX11_month 45 = .ok (.iaload, 1) := by decide +kernel
theorem dX11_month_46 : decode cX11_month 46 = .ok (.bipush 7, 2) := by decide +kernel
theorem dX11_month_48 : decode cX11_month 48 = .ok (.if_icmp .ne 18, 3) := by decide +kernel
theorem dX11_month_51 : decode cX11_month 51 = .ok (.bipush 15, 2) := by decide +kernel
theorem dX11_month_53 : decode cX11_month 53 = .ok (.iload_n 2, 1) := by decide +kernel
theorem dX11_month_54 : decode cX11_month 54 = .ok (.imul, 1) := by decide +kernel
theorem dX11_month_55 : decode cX11_month 55 = .ok (.aload_n 0, 1) := by decide +kernel
theorem dX11_month_56 : decode cX11_month 56 = .ok (.iload_n 1, 1) := by decide +kernel
theorem dX11_month_57 : decode cX11_month 57 = .ok (.bipush 23, 2) := by decide +kernel
theorem dX11_month_59 : decode cX11_month 59 = .ok (.invokevirtual 110, 3) := by decide +kernel
theorem dX11_month_62 : decode cX11_month 62 = .ok (.iadd, 1) := by decide +kernel
theorem dX11_month_63 : decode cX11_month 63 = .ok (.goto 15, 3) := by decide +kernel
theorem dX11_month_66 : decode cX11_month 66 = .ok (.bipush 20, 2) := by decide +kernel
theorem dX11_month_68 : decode cX11_month 68 = .ok (.iload_n 2, 1) := by decide +kernel
theorem dX11_month_69 : decode cX11_month 69 = .ok (.imul, 1) := by decide +kernel
theorem dX11_month_70 : decode cX11_month 70 = .ok (.aload_n 0, 1) := by decide +kernel
theorem dX11_month_71 : decode cX11_month 71 = .ok (.iload_n 1, 1) := by decide +kernel
theorem dX11_month_72 : decode cX11_month 72 = .ok (.bipush 12, 2) := by decide +kernel
theorem dX11_month_74 : decode cX11_month 74 = .ok (.invokevirtual 110, 3) := by decide +kernel
theorem dX11_month_77 : decode cX11_month 77 = .ok (.iadd, 1) := by decide +kernel
theorem dX11_month_78 : decode cX11_month 78 = .ok (.ireturn, 1) := by decide +kernel
theorem dX11_swing_0 : decode cX11_swing 0 = .ok (.aload_n 0, 1) := by decide +kernel
theorem dX11_swing_1 : decode cX11_swing 1 = .ok (.iconst 0, 1) := by decide +kernel
theorem dX11_swing_2 : decode cX11_swing 2 = .ok (.putfield 44, 3) := by decide +kernel
theorem dX11_swing_5 : decode cX11_swing 5 = .ok (.iload_n 1, 1) := by decide +kernel
theorem dX11_swing_6 : decode cX11_swing 6 = .ok (.aload_n 0, 1) := by decide +kernel
theorem dX11_swing_7 : decode cX11_swing 7 = .ok (.getfield 71, 3) := by decide +kernel
theorem dX11_swing_10 : decode cX11_swing 10 = .ok (.if_icmp .ne 5, 3) := by decide +kernel
theorem dX11_swing_13 : decode cX11_swing 13 = .ok (.iconst 0, 1) := by decide +kernel
theorem dX11_swing_14 : decode cX11_swing 14 = .ok (.ireturn, 1) := by decide +kernel
theorem dX11_swing_15 : decode cX11_swing 15 = .ok (.iload_n 1, 1) := by decide +kernel
theorem dX11_swing_16 : decode cX11_swing 16 = .ok (.ifCond .eq 13, 3) := by decide +kernel
theorem dX11_swing_19 : decode cX11_swing 19 = .ok (.aload_n 0, 1) := by decide +kernel
theorem dX11_swing_20 : decode cX11_swing 20 = .ok (.getfield 68, 3) := by decide +kernel
theorem dX11_swing_23 : decode cX11_swing 23 = .ok (.ifCond .le 6, 3) := by decide +kernel
theorem dX11_swing_26 : decode cX11_swing 26 = .ok (.bipush (-103), 2) := by decide +kernel
theorem dX11_swing_28 : decode cX11_swing 28 = .ok (.ireturn, 1) := by decide +kernel
theorem dX11_swing_29 : decode cX11_swing 29 = .ok (.aload_n 0, 1) := by decide +kernel
theorem dX11_swing_30 : decode cX11_swing 30 = .ok (.iload_n 1, 1) := by decide +kernel
theorem dX11_swing_31 : decode cX11_swing 31 = .ok (.putfield 71, 3) := by decide +kernel
theorem dX11_swing_34 : decode cX11_swing 34 = .ok (.iconst 1, 1) := by decide +kernel
theorem dX11_swing_35 : decode cX11_swing 35 = .ok (.ireturn, 1) := by decide +kernel
theorem dX11_rush_0 : decode cX11_rush 0 = .ok (.aload_n 0, 1) := by decide +kernel
theorem dX11_rush_1 : decode cX11_rush 1 = .ok (.iconst 0, 1) := by decide +kernel
theorem dX11_rush_2 : decode cX11_rush 2 = .ok (.putfield 44, 3) := by decide +kernel
theorem dX11_rush_5 : decode cX11_rush 5 = .ok (.iload_n 1, 1) := by decide +kernel
theorem dX11_rush_6 : decode cX11_rush 6 = .ok (.invokestatic 97, 3) := by decide +kernel
theorem dX11_rush_9 : decode cX11_rush 9 = .ok (.ifCond .ne 6, 3) := by decide +kernel
theorem dX11_rush_12 : decode cX11_rush 12 = .ok (.bipush (-102), 2) := by decide +kernel
theorem dX11_rush_14 : decode cX11_rush 14 = .ok (.ireturn, 1) := by decide +kernel
theorem dX11_rush_15 : decode cX11_rush 15 = .ok (.iconst 0, 1) := by decide +kernel
theorem dX11_rush_16 : decode cX11_rush 16 = .ok (.istore_n 2, 1) := by decide +kernel
theorem dX11_rush_17 : decode cX11_rush 17 = .ok (.iconst 0, 1) := by decide +kernel
theorem dX11_rush_18 : decode cX11_rush 18 = .ok (.istore_n 3, 1) := by decide +kernel
theorem dX11_rush_19 : decode cX11_rush 19 = .ok (.iload_n 3, 1) := by decide +kernel
theorem dX11_rush_20 : decode cX11_rush 20 = .ok (.aload_n 0, 1) := by decide +kernel
theorem dX11_rush_21 : decode cX11_rush 21 = .ok (.getfield 47, 3) := by decide +kernel
theorem dX11_rush_24 : decode cX11_rush 24 = .ok (.if_icmp .ge 35, 3) := by decide +kernel
theorem dX11_rush_27 : decode cX11_rush 27 = .ok (.iload_n 2, 1) := by decide +kernel
theorem dX11_rush_28 : decode cX11_rush 28 = .ok (.aload_n 0, 1) := by decide +kernel
theorem dX11_rush_29 : decode cX11_rush 29 = .ok (.getfield 22, 3) := by decide +kernel
theorem dX11_rush_32 : decode cX11_rush 32 = .ok (.iload_n 3, 1) := by decide +kernel
theorem dX11_rush_33 : decode cX11_rush 33 = .ok (.iaload, 1) := by decide +kernel
theorem dX11_rush_34 : decode cX11_rush 34 = .ok (.ifCond .ne 16, 3) := by decide +kernel
theorem dX11_rush_37 : decode cX11_rush 37 = .ok (.aload_n 0, 1) := by decide +kernel
theorem dX11_rush_38 : decode cX11_rush 38 = .ok (.iload_n 3, 1) := by decide +kernel
theorem dX11_rush_39 : decode cX11_rush 39 = .ok (.iload_n 1, 1) := by decide +kernel
theorem dX11_rush_40 : decode cX11_rush 40 = .ok (.invokevirtual 100, 3) := by decide +kernel
theorem dX11_rush_43 : decode cX11_rush 43 = .ok (.ifCond .ne 7, 3) := by decide +kernel
theorem dX11_rush_46 : decode cX11_rush 46 = .ok (.iconst 1, 1) := by decide +kernel
theorem dX11_rush_47 : decode cX11_rush 47 = .ok (.goto 4, 3) := by decide +kernel
theorem dX11_rush_50 : decode cX11_rush 50 = .ok (.iconst 0, 1) := by decide +kernel
theorem dX11_rush_51 : decode cX11_rush 51 = .ok (.iadd, 1) := by decide +kernel
theorem dX11_rush_52 : decode cX11_rush 52 = .ok (.istore_n 2, 1) := by decide +kernel
theorem dX11_rush_53 : decode cX11_rush 53 = .ok (.iinc 3 1, 3) := by decide +kernel
theorem dX11_rush_56 : decode cX11_rush 56 = .ok (.goto (-37), 3) := by decide +kernel
theorem dX11_rush_59 : decode cX11_rush 59 = .ok (.iload_n 2, 1) := by decide +kernel
theorem dX11_rush_60 : decode cX11_rush 60 = .ok (.ireturn, 1) := by decide +kernel
theorem dX11_clear_0 : decode cX11_clear 0 = .ok (.aload_n 0, 1) := by decide +kernel
theorem dX11_clear_1 : decode cX11_clear 1 = .ok (.iconst 0, 1) := by decide +kernel
theorem dX11_clear_2 : decode cX11_clear 2 = .ok (.putfield 44, 3) := by decide +kernel
theorem dX11_clear_5 : decode cX11_clear 5 = .ok (.iconst 0, 1) := by decide +kernel
theorem dX11_clear_6 : decode cX11_clear 6 = .ok (.istore_n 1, 1) := by decide +kernel
theorem dX11_clear_7 : decode cX11_clear 7 = .ok (.aload_n 0, 1) := by decide +kernel
theorem dX11_clear_8 : decode cX11_clear 8 = .ok (.getfield 68, 3) := by decide +kernel
theorem dX11_clear_11 : decode cX11_clear 11 = .ok (.ifCond .le 19, 3) := by decide +kernel
theorem dX11_clear_14 : decode cX11_clear 14 = .ok (.aload_n 0, 1) := by decide +kernel
theorem dX11_clear_15 : decode cX11_clear 15 = .ok (.aload_n 0, 1) := by decide +kernel
theorem dX11_clear_16 : decode cX11_clear 16 = .ok (.getfield 34, 3) := by decide +kernel
theorem dX11_clear_19 : decode cX11_clear 19 = .ok (.iconst 0, 1) := by decide +kernel
theorem dX11_clear_20 : decode cX11_clear 20 = .ok (.iaload, 1) := by decide +kernel
theorem dX11_clear_21 : decode cX11_clear 21 = .ok (.invokevirtual 103, 3) := by decide +kernel
theorem dX11_clear_24 : decode cX11_clear 24 = .ok (.iinc 1 1, 3) := by decide +kernel
theorem dX11_clear_27 : decode cX11_clear 27 = .ok (.goto (-20), 3) := by decide +kernel
theorem dX11_clear_30 : decode cX11_clear 30 = .ok (.iload_n 1, 1) := by decide +kernel
theorem dX11_clear_31 : decode cX11_clear 31 = .ok (.ireturn, 1) := by decide +kernel
theorem dX11_tell_0 : decode cX11_tell 0 = .ok (.aload_n 0, 1) := by decide +kernel
theorem dX11_tell_1 : decode cX11_tell 1 = .ok (.iconst 0, 1) := by decide +kernel
theorem dX11_tell_2 : decode cX11_tell 2 = .ok (.putfield 44, 3) := by decide +kernel
theorem dX11_tell_5 : decode cX11_tell 5 = .ok (.aload_n 0, 1) := by decide +kernel
theorem dX11_tell_6 : decode cX11_tell 6 = .ok (.iload_n 1, 1) := by decide +kernel
theorem dX11_tell_7 : decode cX11_tell 7 = .ok (.invokevirtual 94, 3) := by decide +kernel
theorem dX11_tell_10 : decode cX11_tell 10 = .ok (.ifCond .ne 6, 3) := by decide +kernel
theorem dX11_tell_13 : decode cX11_tell 13 = .ok (.bipush (-101), 2) := by decide +kernel
theorem dX11_tell_15 : decode cX11_tell 15 = .ok (.ireturn, 1) := by decide +kernel
theorem dX11_tell_16 : decode cX11_tell 16 = .ok (.iload_n 2, 1) := by decide +kernel
theorem dX11_tell_17 : decode cX11_tell 17 = .ok (.tableswitch 103 0 7 #[47, 54, 61, 68, 75, 82, 89, 96], 47) := by decide +kernel
theorem dX11_tell_64 : decode cX11_tell 64 = .ok (.aload_n 0, 1) := by decide +kernel
theorem dX11_tell_65 : decode cX11_tell 65 = .ok (.getfield 7, 3) := by decide +kernel
theorem dX11_tell_68 : decode cX11_tell 68 = .ok (.iload_n 1, 1) := by decide +kernel
theorem dX11_tell_69 : decode cX11_tell 69 = .ok (.iaload, 1) := by decide +kernel
theorem dX11_tell_70 : decode cX11_tell 70 = .ok (.ireturn, 1) := by decide +kernel
theorem dX11_tell_71 : decode cX11_tell 71 = .ok (.aload_n 0, 1) := by decide +kernel
theorem dX11_tell_72 : decode cX11_tell 72 = .ok (.getfield 13, 3) := by decide +kernel
theorem dX11_tell_75 : decode cX11_tell 75 = .ok (.iload_n 1, 1) := by decide +kernel
theorem dX11_tell_76 : decode cX11_tell 76 = .ok (.iaload, 1) := by decide +kernel
theorem dX11_tell_77 : decode cX11_tell 77 = .ok (.ireturn, 1) := by decide +kernel
theorem dX11_tell_78 : decode cX11_tell 78 = .ok (.aload_n 0, 1) := by decide +kernel
theorem dX11_tell_79 : decode cX11_tell 79 = .ok (.getfield 16, 3) := by decide +kernel
theorem dX11_tell_82 : decode cX11_tell 82 = .ok (.iload_n 1, 1) := by decide +kernel
theorem dX11_tell_83 : decode cX11_tell 83 = .ok (.iaload, 1) := by decide +kernel
theorem dX11_tell_84 : decode cX11_tell 84 = .ok (.ireturn, 1) := by decide +kernel
theorem dX11_tell_85 : decode cX11_tell 85 = .ok (.aload_n 0, 1) := by decide +kernel
theorem dX11_tell_86 : decode cX11_tell 86 = .ok (.getfield 19, 3) := by decide +kernel
theorem dX11_tell_89 : decode cX11_tell 89 = .ok (.iload_n 1, 1) := by decide +kernel
theorem dX11_tell_90 : decode cX11_tell 90 = .ok (.iaload, 1) := by decide +kernel
theorem dX11_tell_91 : decode cX11_tell 91 = .ok (.ireturn, 1) := by decide +kernel
theorem dX11_tell_92 : decode cX11_tell 92 = .ok (.aload_n 0, 1) := by decide +kernel
theorem dX11_tell_93 : decode cX11_tell 93 = .ok (.getfield 22, 3) := by decide +kernel
theorem dX11_tell_96 : decode cX11_tell 96 = .ok (.iload_n 1, 1) := by decide +kernel
theorem dX11_tell_97 : decode cX11_tell 97 = .ok (.iaload, 1) := by decide +kernel
theorem dX11_tell_98 : decode cX11_tell 98 = .ok (.ireturn, 1) := by decide +kernel
theorem dX11_tell_99 : decode cX11_tell 99 = .ok (.aload_n 0, 1) := by decide +kernel
theorem dX11_tell_100 : decode cX11_tell 100 = .ok (.getfield 25, 3) := by decide +kernel
theorem dX11_tell_103 : decode cX11_tell 103 = .ok (.iload_n 1, 1) := by decide +kernel
theorem dX11_tell_104 : decode cX11_tell 104 = .ok (.iaload, 1) := by decide +kernel
theorem dX11_tell_105 : decode cX11_tell 105 = .ok (.ireturn, 1) := by decide +kernel
theorem dX11_tell_106 : decode cX11_tell 106 = .ok (.aload_n 0, 1) := by decide +kernel
theorem dX11_tell_107 : decode cX11_tell 107 = .ok (.getfield 28, 3) := by decide +kernel
theorem dX11_tell_110 : decode cX11_tell 110 = .ok (.iload_n 1, 1) := by decide +kernel
theorem dX11_tell_111 : decode cX11_tell 111 = .ok (.iaload, 1) := by decide +kernel
theorem dX11_tell_112 : decode cX11_tell 112 = .ok (.ireturn, 1) := by decide +kernel
theorem dX11_tell_113 : decode cX11_tell 113 = .ok (.aload_n 0, 1) := by decide +kernel
theorem dX11_tell_114 : decode cX11_tell 114 = .ok (.getfield 31, 3) := by decide +kernel
theorem dX11_tell_117 : decode cX11_tell 117 = .ok (.iload_n 1, 1) := by decide +kernel
theorem dX11_tell_118 : decode cX11_tell 118 = .ok (.iaload, 1) := by decide +kernel
theorem dX11_tell_119 : decode cX11_tell 119 = .ok (.ireturn, 1) := by decide +kernel
theorem dX11_tell_120 : decode cX11_tell 120 = .ok (.bipush (-102), 2) := by decide +kernel
theorem dX11_tell_122 : decode cX11_tell 122 = .ok (.ireturn, 1) := by decide +kernel
theorem dX11_deck_0 : decode cX11_deck 0 = .ok (.aload_n 0, 1) := by decide +kernel
theorem dX11_deck_1 : decode cX11_deck 1 = .ok (.iconst 0, 1) := by decide +kernel
theorem dX11_deck_2 : decode cX11_deck 2 = .ok (.putfield 44, 3) := by decide +kernel
theorem dX11_deck_5 : decode cX11_deck 5 = .ok (.iload_n 1, 1) := by decide +kernel
theorem dX11_deck_6 : decode cX11_deck 6 = .ok (.iconst 0, 1) := by decide +kernel
theorem dX11_deck_7 : decode cX11_deck 7 = .ok (.aload_n 0, 1) := by decide +kernel
theorem dX11_deck_8 : decode cX11_deck 8 = .ok (.getfield 68, 3) := by decide +kernel
theorem dX11_deck_11 : decode cX11_deck 11 = .ok (.iconst 1, 1) := by decide +kernel
theorem dX11_deck_12 : decode cX11_deck 12 = .ok (.isub, 1) := by decide +kernel
theorem dX11_deck_13 : decode cX11_deck 13 = .ok (.invokestatic 50, 3) := by decide +kernel
theorem dX11_deck_16 : decode cX11_deck 16 = .ok (.ifCond .eq 12, 3) := by decide +kernel
theorem dX11_deck_19 : decode cX11_deck 19 = .ok (.aload_n 0, 1) := by decide +kernel
theorem dX11_deck_20 : decode cX11_deck 20 = .ok (.getfield 34, 3) := by decide +kernel
theorem dX11_deck_23 : decode cX11_deck 23 = .ok (.iload_n 1, 1) := by decide +kernel
theorem dX11_deck_24 : decode cX11_deck 24 = .ok (.iaload, 1) := by decide +kernel
theorem dX11_deck_25 : decode cX11_deck 25 = .ok (.goto 5, 3) := by decide +kernel
theorem dX11_deck_28 : decode cX11_deck 28 = .ok (.bipush (-101), 2) := by decide +kernel
theorem dX11_deck_30 : decode cX11_deck 30 = .ok (.ireturn, 1) := by decide +kernel
theorem dX11_began_0 : decode cX11_began 0 = .ok (.aload_n 0, 1) := by decide +kernel
theorem dX11_began_1 : decode cX11_began 1 = .ok (.iconst 0, 1) := by decide +kernel
theorem dX11_began_2 : decode cX11_began 2 = .ok (.putfield 44, 3) := by decide +kernel
theorem dX11_began_5 : decode cX11_began 5 = .ok (.iload_n 1, 1) := by decide +kernel
theorem dX11_began_6 : decode cX11_began 6 = .ok (.iconst 0, 1) := by decide +kernel
theorem dX11_began_7 : decode cX11_began 7 = .ok (.bipush 8, 2) := by decide +kernel
theorem dX11_began_9 : decode cX11_began 9 = .ok (.invokestatic 50, 3) := by decide +kernel
theorem dX11_began_12 : decode cX11_began 12 = .ok (.ifCond .eq 12, 3) := by decide +kernel
theorem dX11_began_15 : decode cX11_began 15 = .ok (.aload_n 0, 1) := by decide +kernel
theorem dX11_began_16 : decode cX11_began 16 = .ok (.getfield 37, 3) := by decide +kernel
theorem dX11_began_19 : decode cX11_began 19 = .ok (.iload_n 1, 1) := by decide +kernel
theorem dX11_began_20 : decode cX11_began 20 = .ok (.iaload, 1) := by decide +kernel
theorem dX11_began_21 : decode cX11_began 21 = .ok (.goto 5, 3) := by decide +kernel
theorem dX11_began_24 : decode cX11_began 24 = .ok (.bipush (-102), 2) := by decide +kernel
theorem dX11_began_26 : decode cX11_began 26 = .ok (.ireturn, 1) := by decide +kernel
theorem dX11_count_0 : decode cX11_count 0 = .ok (.aload_n 0, 1) := by decide +kernel
theorem dX11_count_1 : decode cX11_count 1 = .ok (.iconst 0, 1) := by decide +kernel
theorem dX11_count_2 : decode cX11_count 2 = .ok (.putfield 44, 3) := by decide +kernel
theorem dX11_count_5 : decode cX11_count 5 = .ok (.iload_n 1, 1) := by decide +kernel
theorem dX11_count_6 : decode cX11_count 6 = .ok (.tableswitch 76 0 5 #[38, 43, 48, 53, 66, 71], 38) := by decide +kernel
theorem dX11_count_44 : decode cX11_count 44 = .ok (.aload_n 0, 1) := by decide +kernel
theorem dX11_count_45 : decode cX11_count 45 = .ok (.getfield 47, 3) := by decide +kernel
theorem dX11_count_48 : decode cX11_count 48 = .ok (.ireturn, 1) := by decide +kernel
theorem dX11_count_49 : decode cX11_count 49 = .ok (.aload_n 0, 1) := by decide +kernel
theorem dX11_count_50 : decode cX11_count 50 = .ok (.getfield 68, 3) := by decide +kernel
theorem dX11_count_53 : decode cX11_count 53 = .ok (.ireturn, 1) := by decide +kernel
theorem dX11_count_54 : decode cX11_count 54 = .ok (.aload_n 0, 1) := by decide +kernel
theorem dX11_count_55 : decode cX11_count 55 = .ok (.getfield 40, 3) := by decide +kernel
theorem dX11_count_58 : decode cX11_count 58 = .ok (.ireturn, 1) := by decide +kernel
theorem dX11_count_59 : decode cX11_count 59 = .ok (.aload_n 0, 1) := by decide +kernel
theorem dX11_count_60 : decode cX11_count 60 = .ok (.getfield 71, 3) := by decide +kernel
theorem dX11_count_63 : decode cX11_count 63 = .ok (.ifCond .eq 7, 3) := by decide +kernel
theorem dX11_count_66 : decode cX11_count 66 = .ok (.iconst 0, 1) := by decide +kernel
theorem dX11_count_67 : decode cX11_count 67 = .ok (.goto 4, 3) := by decide +kernel
theorem dX11_count_70 : decode cX11_count 70 = .ok (.iconst 1, 1) := by decide +kernel
theorem dX11_count_71 : decode cX11_count 71 = .ok (.ireturn, 1) := by decide +kernel
theorem dX11_count_72 : decode cX11_count 72 = .ok (.aload_n 0, 1) := by decide +kernel
theorem dX11_count_73 : decode cX11_count 73 = .ok (.getfield 81, 3) := by decide +kernel
theorem dX11_count_76 : decode cX11_count 76 = .ok (.ireturn, 1) := by decide +kernel
theorem dX11_count_77 : decode cX11_count 77 = .ok (.aload_n 0, 1) := by decide +kernel
theorem dX11_count_78 : decode cX11_count 78 = .ok (.getfield 65, 3) := by decide +kernel
theorem dX11_count_81 : decode cX11_count 81 = .ok (.ireturn, 1) := by decide +kernel
theorem dX11_count_82 : decode cX11_count 82 = .ok (.bipush (-102), 2) := by decide +kernel
theorem dX11_count_84 : decode cX11_count 84 = .ok (.ireturn, 1) := by decide +kernel
