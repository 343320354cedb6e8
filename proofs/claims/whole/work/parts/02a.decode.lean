theorem dX0_init_0 : decode cX0_init 0 = .ok (.aload_n 0, 1) := by decide +kernel
theorem dX0_init_1 : decode cX0_init 1 = .ok (.invokespecial 3, 3) := by decide +kernel
theorem dX0_init_4 : decode cX0_init 4 = .ok (.aload_n 0, 1) := by decide +kernel
theorem dX0_init_5 : decode cX0_init 5 = .ok (.new 9, 3) := by decide +kernel
theorem dX0_init_8 : decode cX0_init 8 = .ok (.dup, 1) := by decide +kernel
theorem dX0_init_9 : decode cX0_init 9 = .ok (.invokespecial 11, 3) := by decide +kernel
theorem dX0_init_12 : decode cX0_init 12 = .ok (.putfield 12, 3) := by decide +kernel
theorem dX0_init_15 : decode cX0_init 15 = .ok (.aload_n 0, 1) := by decide +kernel
theorem dX0_init_16 : decode cX0_init 16 = .ok (.new 18, 3) := by decide +kernel
theorem dX0_init_19 : decode cX0_init 19 = .ok (.dup, 1) := by decide +kernel
theorem dX0_init_20 : decode cX0_init 20 = .ok (.bipush 8, 2) := by decide +kernel
theorem dX0_init_22 : decode cX0_init 22 = .ok (.invokespecial 20, 3) := by decide +kernel
theorem dX0_init_25 : decode cX0_init 25 = .ok (.putfield 23, 3) := by decide +kernel
theorem dX0_init_28 : decode cX0_init 28 = .ok (.aload_n 0, 1) := by decide +kernel
theorem dX0_init_29 : decode cX0_init 29 = .ok (.new 18, 3) := by decide +kernel
theorem dX0_init_32 : decode cX0_init 32 = .ok (.dup, 1) := by decide +kernel
theorem dX0_init_33 : decode cX0_init 33 = .ok (.bipush 8, 2) := by decide +kernel
theorem dX0_init_35 : decode cX0_init 35 = .ok (.invokespecial 20, 3) := by decide +kernel
theorem dX0_init_38 : decode cX0_init 38 = .ok (.putfield 27, 3) := by decide +kernel
theorem dX0_init_41 : decode cX0_init 41 = .ok (.aload_n 0, 1) := by decide +kernel
theorem dX0_init_42 : decode cX0_init 42 = .ok (.new 18, 3) := by decide +kernel
theorem dX0_init_45 : decode cX0_init 45 = .ok (.dup, 1) := by decide +kernel
theorem dX0_init_46 : decode cX0_init 46 = .ok (.bipush 8, 2) := by decide +kernel
theorem dX0_init_48 : decode cX0_init 48 = .ok (.invokespecial 20, 3) := by decide +kernel
theorem dX0_init_51 : decode cX0_init 51 = .ok (.putfield 30, 3) := by decide +kernel
theorem dX0_init_54 : decode cX0_init 54 = .ok (.aload_n 0, 1) := by decide +kernel
theorem dX0_init_55 : decode cX0_init 55 = .ok (.new 18, 3) := by decide +kernel
theorem dX0_init_58 : decode cX0_init 58 = .ok (.dup, 1) := by decide +kernel
theorem dX0_init_59 : decode cX0_init 59 = .ok (.bipush 8, 2) := by decide +kernel
theorem dX0_init_61 : decode cX0_init 61 = .ok (.invokespecial 20, 3) := by decide +kernel
theorem dX0_init_64 : decode cX0_init 64 = .ok (.putfield 33, 3) := by decide +kernel
theorem dX0_init_67 : decode cX0_init 67 = .ok (.aload_n 0, 1) := by decide +kernel
theorem dX0_init_68 : decode cX0_init 68 = .ok (.new 18, 3) := by decide +kernel
theorem dX0_init_71 : decode cX0_init 71 = .ok (.dup, 1) := by decide +kernel
theorem dX0_init_72 : decode cX0_init 72 = .ok (.bipush 6, 2) := by decide +kernel
theorem dX0_init_74 : decode cX0_init 74 = .ok (.invokespecial 20, 3) := by decide +kernel
theorem dX0_init_77 : decode cX0_init 77 = .ok (.putfield 36, 3) := by decide +kernel
theorem dX0_init_80 : decode cX0_init 80 = .ok (.aload_n 0, 1) := by decide +kernel
theorem dX0_init_81 : decode cX0_init 81 = .ok (.new 18, 3) := by decide +kernel
theorem dX0_init_84 : decode cX0_init 84 = .ok (.dup, 1) := by decide +kernel
theorem dX0_init_85 : decode cX0_init 85 = .ok (.bipush 6, 2) := by decide +kernel
theorem dX0_init_87 : decode cX0_init 87 = .ok (.invokespecial 20, 3) := by decide +kernel
theorem dX0_init_90 : decode cX0_init 90 = .ok (.putfield 39, 3) := by decide +kernel
theorem dX0_init_93 : decode cX0_init 93 = .ok (.aload_n 0, 1) := by decide +kernel
theorem dX0_init_94 : decode cX0_init 94 = .ok (.new 18, 3) := by decide +kernel
theorem dX0_init_97 : decode cX0_init 97 = .ok (.dup, 1) := by decide +kernel
theorem dX0_init_98 : decode cX0_init 98 = .ok (.bipush 36, 2) := by decide +kernel
theorem dX0_init_100 : decode cX0_init 100 = .ok (.invokespecial 20, 3) := by decide +kernel
theorem dX0_init_103 : decode cX0_init 103 = .ok (.putfield 42, 3) := by decide +kernel
theorem dX0_init_106 : decode cX0_init 106 = .ok (.aload_n 0, 1) := by decide +kernel
theorem dX0_init_107 : decode cX0_init 107 = .ok (.new 18, 3) := by decide +kernel
theorem dX0_init_110 : decode cX0_init 110 = .ok (.dup, 1) := by decide +kernel
theorem dX0_init_111 : decode cX0_init 111 = .ok (.bipush 36, 2) := by decide +kernel
theorem dX0_init_113 : decode cX0_init 113 = .ok (.invokespecial 20, 3) := by decide +kernel
theorem dX0_init_116 : decode cX0_init 116 = .ok (.putfield 45, 3) := by decide +kernel
theorem dX0_init_119 : decode cX0_init 119 = .ok (.aload_n 0, 1) := by decide +kernel
theorem dX0_init_120 : decode cX0_init 120 = .ok (.aload_n 1, 1) := by decide +kernel
theorem dX0_init_121 : decode cX0_init 121 = .ok (.putfield 48, 3) := by decide +kernel
theorem dX0_init_124 : decode cX0_init 124 = .ok (.aload_n 0, 1) := by decide +kernel
theorem dX0_init_125 : decode cX0_init 125 = .ok (.invokevirtual 52, 3) := by decide +kernel
theorem dX0_init_128 : decode cX0_init 128 = .ok (.return_, 1) := by decide +kernel
theorem dX0_startAnew_0 : decode cX0_startAnew 0 = .ok (.aload_n 0, 1) := by decide +kernel
theorem dX0_startAnew_1 : decode cX0_startAnew 1 = .ok (.getfield 23, 3) := by decide +kernel
theorem dX0_startAnew_4 : decode cX0_startAnew 4 = .ok (.aload_n 0, 1) := by decide +kernel
theorem dX0_startAnew_5 : decode cX0_startAnew 5 = .ok (.getfield 48, 3) := by decide +kernel
theorem dX0_startAnew_8 : decode cX0_startAnew 8 = .ok (.getfield 55, 3) := by decide +kernel
theorem dX0_startAnew_11 : decode cX0_startAnew 11 = .ok (.invokevirtual 60, 3) := by decide +kernel
theorem dX0_startAnew_14 : decode cX0_startAnew 14 = .ok (.aload_n 0, 1) := by decide +kernel
theorem dX0_startAnew_15 : decode cX0_startAnew 15 = .ok (.getfield 27, 3) := by decide +kernel
theorem dX0_startAnew_18 : decode cX0_startAnew 18 = .ok (.iconst 0, 1) := by decide +kernel
theorem dX0_startAnew_19 : decode cX0_startAnew 19 = .ok (.invokevirtual 64, 3) := by decide +kernel
theorem dX0_startAnew_22 : decode cX0_startAnew 22 = .ok (.aload_n 0, 1) := by decide +kernel
theorem dX0_startAnew_23 : decode cX0_startAnew 23 = .ok (.getfield 30, 3) := by decide +kernel
theorem dX0_startAnew_26 : decode cX0_startAnew 26 = .ok (.iconst (-1), 1) := by decide +kernel
theorem dX0_startAnew_27 : decode cX0_startAnew 27 = .ok (.invokevirtual 64, 3) := by decide +kernel
theorem dX0_startAnew_30 : decode cX0_startAnew 30 = .ok (.aload_n 0, 1) := by decide +kernel
theorem dX0_startAnew_31 : decode cX0_startAnew 31 = .ok (.getfield 33, 3) := by decide +kernel
theorem dX0_startAnew_34 : decode cX0_startAnew 34 = .ok (.iconst 0, 1) := by decide +kernel
theorem dX0_startAnew_35 : decode cX0_startAnew 35 = .ok (.invokevirtual 64, 3) := by decide +kernel
theorem dX0_startAnew_38 : decode cX0_startAnew 38 = .ok (.aload_n 0, 1) := by decide +kernel
theorem dX0_startAnew_39 : decode cX0_startAnew 39 = .ok (.getfield 36, 3) := by decide +kernel
theorem dX0_startAnew_42 : decode cX0_startAnew 42 = .ok (.iconst 0, 1) := by decide +kernel
theorem dX0_startAnew_43 : decode cX0_startAnew 43 = .ok (.invokevirtual 64, 3) := by decide +kernel
theorem dX0_startAnew_46 : decode cX0_startAnew 46 = .ok (.aload_n 0, 1) := by decide +kernel
theorem dX0_startAnew_47 : decode cX0_startAnew 47 = .ok (.getfield 39, 3) := by decide +kernel
theorem dX0_startAnew_50 : decode cX0_startAnew 50 = .ok (.iconst 0, 1) := by decide +kernel
theorem dX0_startAnew_51 : decode cX0_startAnew 51 = .ok (.invokevirtual 64, 3) := by decide +kernel
theorem dX0_startAnew_54 : decode cX0_startAnew 54 = .ok (.aload_n 0, 1) := by decide +kernel
theorem dX0_startAnew_55 : decode cX0_startAnew 55 = .ok (.getfield 42, 3) := by decide +kernel
theorem dX0_startAnew_58 : decode cX0_startAnew 58 = .ok (.iconst 0, 1) := by decide +kernel
theorem dX0_startAnew_59 : decode cX0_startAnew 59 = .ok (.invokevirtual 64, 3) := by decide +kernel
theorem dX0_startAnew_62 : decode cX0_startAnew 62 = .ok (.aload_n 0, 1) := by decide +kernel
theorem dX0_startAnew_63 : decode cX0_startAnew 63 = .ok (.getfield 45, 3) := by decide +kernel
theorem dX0_startAnew_66 : decode cX0_startAnew 66 = .ok (.iconst 0, 1) := by decide +kernel
theorem dX0_startAnew_67 : decode cX0_startAnew 67 = .ok (.invokevirtual 64, 3) := by decide +kernel
theorem dX0_startAnew_70 : decode cX0_startAnew 70 = .ok (.aload_n 0, 1) := by decide +kernel
theorem dX0_startAnew_71 : decode cX0_startAnew 71 = .ok (.iconst 0, 1) := by decide +kernel
theorem dX0_startAnew_72 : decode cX0_startAnew 72 = .ok (.putfield 67, 3) := by decide +kernel
theorem dX0_startAnew_75 : decode cX0_startAnew 75 = .ok (.aload_n 0, 1) := by decide +kernel
theorem dX0_startAnew_76 : decode cX0_startAnew 76 = .ok (.iconst 0, 1) := by decide +kernel
theorem dX0_startAnew_77 : decode cX0_startAnew 77 = .ok (.putfield 71, 3) := by decide +kernel
theorem dX0_startAnew_80 : decode cX0_startAnew 80 = .ok (.aload_n 0, 1) := by decide +kernel
theorem dX0_startAnew_81 : decode cX0_startAnew 81 = .ok (.iconst 1, 1) := by decide +kernel
theorem dX0_startAnew_82 : decode cX0_startAnew 82 = .ok (.putfield 74, 3) := by decide +kernel
theorem dX0_startAnew_85 : decode cX0_startAnew 85 = .ok (.return_, 1) := by decide +kernel
theorem dX0_copyFrom_0 : decode cX0_copyFrom 0 = .ok (.aload_n 0, 1) := by decide +kernel
theorem dX0_copyFrom_1 : decode cX0_copyFrom 1 = .ok (.getfield 23, 3) := by decide +kernel
theorem dX0_copyFrom_4 : decode cX0_copyFrom 4 = .ok (.aload_n 1, 1) := by decide +kernel
theorem dX0_copyFrom_5 : decode cX0_copyFrom 5 = .ok (.getfield 23, 3) := by decide +kernel
theorem dX0_copyFrom_8 : decode cX0_copyFrom 8 = .ok (.invokevirtual 60, 3) := by decide +kernel
theorem dX0_copyFrom_11 : decode cX0_copyFrom 11 = .ok (.aload_n 0, 1) := by decide +kernel
theorem dX0_copyFrom_12 : decode cX0_copyFrom 12 = .ok (.getfield 27, 3) := by decide +kernel
theorem dX0_copyFrom_15 : decode cX0_copyFrom 15 = .ok (.aload_n 1, 1) := by decide +kernel
theorem dX0_copyFrom_16 : decode cX0_copyFrom 16 = .ok (.getfield 27, 3) := by decide +kernel
theorem dX0_copyFrom_19 : decode cX0_copyFrom 19 = .ok (.invokevirtual 60, 3) := by decide +kernel
theorem dX0_copyFrom_22 : decode cX0_copyFrom 22 = .ok (.aload_n 0, 1) := by decide +kernel
theorem dX0_copyFrom_23 : decode cX0_copyFrom 23 = .ok (.getfield 30, 3) := by decide +kernel
theorem dX0_copyFrom_26 : decode cX0_copyFrom 26 = .ok (.aload_n 1, 1) := by decide +kernel
theorem dX0_copyFrom_27 : decode cX0_copyFrom 27 = .ok (.getfield 30, 3) := by decide +kernel
theorem dX0_copyFrom_30 : decode cX0_copyFrom 30 = .ok (.invokevirtual 60, 3) := by decide +kernel
theorem dX0_copyFrom_33 : decode cX0_copyFrom 33 = .ok (.aload_n 0, 1) := by decide +kernel
theorem dX0_copyFrom_34 : decode cX0_copyFrom 34 = .ok (.getfield 33, 3) := by decide +kernel
theorem dX0_copyFrom_37 : decode cX0_copyFrom 37 = .ok (.aload_n 1, 1) := by decide +kernel
theorem dX0_copyFrom_38 : decode cX0_copyFrom 38 = .ok (.getfield 33, 3) := by decide +kernel
theorem dX0_copyFrom_41 : decode cX0_copyFrom 41 = .ok (.invokevirtual 60, 3) := by decide +kernel
theorem dX0_copyFrom_44 : decode cX0_copyFrom 44 = .ok (.aload_n 0, 1) := by decide +kernel
theorem dX0_copyFrom_45 : decode cX0_copyFrom 45 = .ok (.getfield 36, 3) := by decide +kernel
theorem dX0_copyFrom_48 : decode cX0_copyFrom 48 = .ok (.aload_n 1, 1) := by decide +kernel
theorem dX0_copyFrom_49 : decode cX0_copyFrom 49 = .ok (.getfield 36, 3) := by decide +kernel
theorem dX0_copyFrom_52 : decode cX0_copyFrom 52 = .ok (.invokevirtual 60, 3) := by decide +kernel
theorem dX0_copyFrom_55 : decode cX0_copyFrom 55 = .ok (.aload_n 0, 1) := by decide +kernel
theorem dX0_copyFrom_56 : decode cX0_copyFrom 56 = .ok (.getfield 39, 3) := by decide +kernel
theorem dX0_copyFrom_59 : decode cX0_copyFrom 59 = .ok (.aload_n 1, 1) := by decide +kernel
theorem dX0_copyFrom_60 : decode cX0_copyFrom 60 = .ok (.getfield 39, 3) := by decide +kernel
theorem dX0_copyFrom_63 : decode cX0_copyFrom 63 = .ok (.invokevirtual 60, 3) := by decide +kernel
theorem dX0_copyFrom_66 : decode cX0_copyFrom 66 = .ok (.aload_n 0, 1) := by decide +kernel
theorem dX0_copyFrom_67 : decode cX0_copyFrom 67 = .ok (.getfield 42, 3) := by decide +kernel
theorem dX0_copyFrom_70 : decode cX0_copyFrom 70 = .ok (.aload_n 1, 1) := by decide +kernel
theorem dX0_copyFrom_71 : decode cX0_copyFrom 71 = .ok (.getfield 42, 3) := by decide +kernel
theorem dX0_copyFrom_74 : decode cX0_copyFrom 74 = .ok (.invokevirtual 60, 3) := by decide +kernel
theorem dX0_copyFrom_77 : decode cX0_copyFrom 77 = .ok (.aload_n 0, 1) := by decide +kernel
theorem dX0_copyFrom_78 : decode cX0_copyFrom 78 = .ok (.getfield 45, 3) := by decide +kernel
theorem dX0_copyFrom_81 : decode cX0_copyFrom 81 = .ok (.aload_n 1, 1) := by decide +kernel
theorem dX0_copyFrom_82 : decode cX0_copyFrom 82 = .ok (.getfield 45, 3) := by decide +kernel
theorem dX0_copyFrom_85 : decode cX0_copyFrom 85 = .ok (.invokevirtual 60, 3) := by decide +kernel
theorem dX0_copyFrom_88 : decode cX0_copyFrom 88 = .ok (.aload_n 0, 1) := by decide +kernel
theorem dX0_copyFrom_89 : decode cX0_copyFrom 89 = .ok (.aload_n 1, 1) := by decide +kernel
theorem dX0_copyFrom_90 : decode cX0_copyFrom 90 = .ok (.getfield 67, 3) := by decide +kernel
theorem dX0_copyFrom_93 : decode cX0_copyFrom 93 = .ok (.putfield 67, 3) := by decide +kernel
theorem dX0_copyFrom_96 : decode cX0_copyFrom 96 = .ok (.aload_n 0, 1) := by decide +kernel
theorem dX0_copyFrom_97 : decode cX0_copyFrom 97 = .ok (.aload_n 1, 1) := by decide +kernel
theorem dX0_copyFrom_98 : decode cX0_copyFrom 98 = .ok (.getfield 71, 3) := by decide +kernel
theorem dX0_copyFrom_101 : decode cX0_copyFrom 101 = .ok (.putfield 71, 3) := by decide +kernel
theorem dX0_copyFrom_104 : decode cX0_copyFrom 104 = .ok (.aload_n 0, 1) := by decide +kernel
theorem dX0_copyFrom_105 : decode cX0_copyFrom 105 = .ok (.aload_n 1, 1) := by decide +kernel
theorem dX0_copyFrom_106 : decode cX0_copyFrom 106 = .ok (.getfield 74, 3) := by decide +kernel
theorem dX0_copyFrom_109 : decode cX0_copyFrom 109 = .ok (.putfield 74, 3) := by decide +kernel
theorem dX0_copyFrom_112 : decode cX0_copyFrom 112 = .ok (.return_, 1) := by decide +kernel
theorem dX0_isUp_0 : decode cX0_isUp 0 = .ok (.iload_n 1, 1) := by decide +kernel
theorem dX0_isUp_1 : decode cX0_isUp 1 = .ok (.bipush 8, 2) := by decide +kernel
theorem dX0_isUp_3 : decode cX0_isUp 3 = .ok (.if_icmp .ne 10, 3) := by decide +kernel
theorem dX0_isUp_6 : decode cX0_isUp 6 = .ok (.aload_n 0, 1) := by decide +kernel
theorem dX0_isUp_7 : decode cX0_isUp 7 = .ok (.getfield 74, 3) := by decide +kernel
theorem dX0_isUp_10 : decode cX0_isUp 10 = .ok (.goto 19, 3) := by decide +kernel
theorem dX0_isUp_13 : decode cX0_isUp 13 = .ok (.aload_n 0, 1) := by decide +kernel
theorem dX0_isUp_14 : decode cX0_isUp 14 = .ok (.getfield 27, 3) := by decide +kernel
theorem dX0_isUp_17 : decode cX0_isUp 17 = .ok (.iload_n 1, 1) := by decide +kernel
theorem dX0_isUp_18 : decode cX0_isUp 18 = .ok (.invokevirtual 78, 3) := by decide +kernel
theorem dX0_isUp_21 : decode cX0_isUp 21 = .ok (.ifCond .ne 7, 3) := by decide +kernel
theorem dX0_isUp_24 : decode cX0_isUp 24 = .ok (.iconst 1, 1) := by decide +kernel
theorem dX0_isUp_25 : decode cX0_isUp 25 = .ok (.goto 4, 3) := by decide +kernel
theorem dX0_isUp_28 : decode cX0_isUp 28 = .ok (.iconst 0, 1) := by decide +kernel
theorem dX0_isUp_29 : decode cX0_isUp 29 = .ok (.ireturn, 1) := by decide +kernel
theorem dX0_countUp_0 : decode cX0_countUp 0 = .ok (.aload_n 0, 1) := by decide +kernel
theorem dX0_countUp_1 : decode cX0_countUp 1 = .ok (.getfield 48, 3) := by decide +kernel
theorem dX0_countUp_4 : decode cX0_countUp 4 = .ok (.getfield 82, 3) := by decide +kernel
theorem dX0_countUp_7 : decode cX0_countUp 7 = .ok (.aload_n 0, 1) := by decide +kernel
theorem dX0_countUp_8 : decode cX0_countUp 8 = .ok (.getfield 27, 3) := by decide +kernel
theorem dX0_countUp_11 : decode cX0_countUp 11 = .ok (.aload_n 0, 1) := by decide +kernel
theorem dX0_countUp_12 : decode cX0_countUp 12 = .ok (.getfield 48, 3) := by decide +kernel
theorem dX0_countUp_15 : decode cX0_countUp 15 = .ok (.getfield 82, 3) := by decide +kernel
theorem dX0_countUp_18 : decode cX0_countUp 18 = .ok (.invokevirtual 85, 3) := by decide +kernel
theorem dX0_countUp_21 : decode cX0_countUp 21 = .ok (.isub, 1) := by decide +kernel
theorem dX0_countUp_22 : decode cX0_countUp 22 = .ok (.ireturn, 1) := by decide +kernel
theorem dX0_countBlocked_0 : decode cX0_countBlocked 0 = .ok (.iconst 0, 1) := by decide +kernel
theorem dX0_countBlocked_1 : decode cX0_countBlocked 1 = .ok (.istore_n 1, 1) := by decide +kernel
theorem dX0_countBlocked_2 : decode cX0_countBlocked 2 = .ok (.iconst 0, 1) := by decide +kernel
theorem dX0_countBlocked_3 : decode cX0_countBlocked 3 = .ok (.istore_n 2, 1) := by decide +kernel
theorem dX0_countBlocked_4 : decode cX0_countBlocked 4 = .ok (.iload_n 2, 1) := by decide +kernel
theorem dX0_countBlocked_5 : decode cX0_countBlocked 5 = .ok (.aload_n 0, 1) := by decide +kernel
theorem dX0_countBlocked_6 : decode cX0_countBlocked 6 = .ok (.getfield 48, 3) := by decide +kernel
theorem dX0_countBlocked_9 : decode cX0_countBlocked 9 = .ok (.getfield 82, 3) := by decide +kernel
theorem dX0_countBlocked_12 : decode cX0_countBlocked 12 = .ok (.if_icmp .ge 32, 3) := by decide +kernel
theorem dX0_countBlocked_15 : decode cX0_countBlocked 15 = .ok (.iload_n 1, 1) := by decide +kernel
theorem dX0_countBlocked_16 : decode cX0_countBlocked 16 = .ok (.aload_n 0, 1) := by decide +kernel
theorem dX0_countBlocked_17 : decode cX0_countBlocked 17 = .ok (.getfield 30, 3) := by decide +kernel
theorem dX0_countBlocked_20 : decode cX0_countBlocked 20 = .ok (.iload_n 2, 1) := by decide +kernel
theorem dX0_countBlocked_21 : decode cX0_countBlocked 21 = .ok (.invokevirtual 78, 3) := by decide +kernel
theorem dX0_countBlocked_24 : decode cX0_countBlocked 24 = .ok (.iconst (-1), 1) := by decide +kernel
theorem dX0_countBlocked_25 : decode cX0_countBlocked 25 = .ok (.if_icmp .eq 7, 3) := by decide +kernel
theorem dX0_countBlocked_28 : decode cX0_countBlocked 28 = .ok (.iconst 1, 1) := by decide +kernel
theorem dX0_countBlocked_29 : decode cX0_countBlocked 29 = .ok (.goto 4, 3) := by decide +kernel
theorem dX0_countBlocked_32 : decode cX0_countBlocked 32 = .ok (.iconst 0, 1) := by decide +kernel
theorem dX0_countBlocked_33 : decode cX0_countBlocked 33 = .ok (.invokestatic 88, 3) := by decide +kernel
theorem dX0_countBlocked_36 : decode cX0_countBlocked 36 = .ok (.iadd, 1) := by decide +kernel
theorem dX0_countBlocked_37 : decode cX0_countBlocked 37 = .ok (.istore_n 1, 1) := by decide +kernel
theorem dX0_countBlocked_38 : decode cX0_countBlocked 38 = .ok (.iinc 2 1, 3) := by decide +kernel
theorem dX0_countBlocked_41 : decode cX0_countBlocked 41 = .ok (.goto (-37), 3) := by decide +kernel
theorem dX0_countBlocked_44 : decode cX0_countBlocked 44 = .ok (.iload_n 1, 1) := by decide +kernel
theorem dX0_countBlocked_45 : decode cX0_countBlocked 45 = .ok (.ireturn, 1) := by decide +kernel
theorem dX0_countBegun_0 : decode cX0_countBegun 0 = .ok (.iconst 0, 1) := by decide +kernel
theorem dX0_countBegun_1 : decode cX0_countBegun 1 = .ok (.istore_n 1, 1) := by decide +kernel
theorem dX0_countBegun_2 : decode cX0_countBegun 2 = .ok (.iconst 0, 1) := by decide +kernel
theorem dX0_countBegun_3 : decode cX0_countBegun 3 = .ok (.istore_n 2, 1) := by decide +kernel
theorem dX0_countBegun_4 : decode cX0_countBegun 4 = .ok (.iload_n 2, 1) := by decide +kernel
theorem dX0_countBegun_5 : decode cX0_countBegun 5 = .ok (.aload_n 0, 1) := by decide +kernel
theorem dX0_countBegun_6 : decode cX0_countBegun 6 = .ok (.getfield 48, 3) := by decide +kernel
theorem dX0_countBegun_9 : decode cX0_countBegun 9 = .ok (.getfield 92, 3) := by decide +kernel
theorem dX0_countBegun_12 : decode cX0_countBegun 12 = .ok (.if_icmp .ge 32, 3) := by decide +kernel
theorem dX0_countBegun_15 : decode cX0_countBegun 15 = .ok (.iload_n 1, 1) := by decide +kernel
theorem dX0_countBegun_16 : decode cX0_countBegun 16 = .ok (.aload_n 0, 1) := by decide +kernel
theorem dX0_countBegun_17 : decode cX0_countBegun 17 = .ok (.getfield 36, 3) := by decide +kernel
theorem dX0_countBegun_20 : decode cX0_countBegun 20 = .ok (.iload_n 2, 1) := by decide +kernel
theorem dX0_countBegun_21 : decode cX0_countBegun 21 = .ok (.invokevirtual 78, 3) := by decide +kernel
theorem dX0_countBegun_24 : decode cX0_countBegun 24 = .ok (.iconst 1, 1) := by decide +kernel
theorem dX0_countBegun_25 : decode cX0_countBegun 25 = .ok (.if_icmp .ne 7, 3) := by decide +kernel
theorem dX0_countBegun_28 : decode cX0_countBegun 28 = .ok (.iconst 1, 1) := by decide +kernel
theorem dX0_countBegun_29 : decode cX0_countBegun 29 = .ok (.goto 4, 3) := by decide +kernel
theorem dX0_countBegun_32 : decode cX0_countBegun 32 = .ok (.iconst 0, 1) := by decide +kernel
theorem dX0_countBegun_33 : decode cX0_countBegun 33 = .ok (.invokestatic 88, 3) := by decide +kernel
theorem dX0_countBegun_36 : decode cX0_countBegun 36 = .ok (.iadd, 1) := by decide +kernel
theorem dX0_countBegun_37 : decode cX0_countBegun 37 = .ok (.istore_n 1, 1) := by decide +kernel
theorem dX0_countBegun_38 : decode cX0_countBegun 38 = .ok (.iinc 2 1, 3) := by decide +kernel
theorem dX0_countBegun_41 : decode cX0_countBegun 41 = .ok (.goto (-37), 3) := by decide +kernel
theorem dX0_countBegun_44 : decode cX0_countBegun 44 = .ok (.iload_n 1, 1) := by decide +kernel
theorem dX0_countBegun_45 : decode cX0_countBegun 45 = .ok (.ireturn, 1) := by decide +kernel
theorem dX0_countVotes_0 : decode cX0_countVotes 0 = .ok (.iconst 0, 1) := by decide +kernel
theorem dX0_countVotes_1 : decode cX0_countVotes 1 = .ok (.istore_n 3, 1) := by decide +kernel
theorem dX0_countVotes_2 : decode cX0_countVotes 2 = .ok (.iconst 0, 1) := by decide +kernel
theorem dX0_countVotes_3 : decode cX0_countVotes 3 = .ok (.istore 4, 2) := by decide +kernel
theorem dX0_countVotes_5 : decode cX0_countVotes 5 = .ok (.iload 4, 2) := by decide +kernel
theorem dX0_countVotes_7 : decode cX0_countVotes 7 = .ok (.aload_n 0, 1) := by decide +kernel
theorem dX0_countVotes_8 : decode cX0_countVotes 8 = .ok (.getfield 48, 3) := by decide +kernel
theorem dX0_countVotes_11 : decode cX0_countVotes 11 = .ok (.getfield 95, 3) := by decide +kernel
theorem dX0_countVotes_14 : decode cX0_countVotes 14 = .ok (.iload_n 1, 1) := by decide +kernel
theorem dX0_countVotes_15 : decode cX0_countVotes 15 = .ok (.invokevirtual 78, 3) := by decide +kernel
theorem dX0_countVotes_18 : decode cX0_countVotes 18 = .ok (.if_icmp .ge 37, 3) := by decide +kernel
theorem dX0_countVotes_21 : decode cX0_countVotes 21 = .ok (.iload_n 3, 1) := by decide +kernel
theorem dX0_countVotes_22 : decode cX0_countVotes 22 = .ok (.aload_n 0, 1) := by decide +kernel
theorem dX0_countVotes_23 : decode cX0_countVotes 23 = .ok (.getfield 42, 3) := by decide +kernel
theorem dX0_countVotes_26 : decode cX0_countVotes 26 = .ok (.iload_n 1, 1) := by decide +kernel
theorem dX0_countVotes_27 : decode cX0_countVotes 27 = .ok (.iload 4, 2) := by decide +kernel
theorem dX0_countVotes_29 : decode cX0_countVotes 29 = .ok (.invokestatic 98, 3) := by decide +kernel
theorem dX0_countVotes_32 : decode cX0_countVotes 32 = .ok (.invokevirtual 78, 3) := by decide +kernel
theorem dX0_countVotes_35 : decode cX0_countVotes 35 = .ok (.iload_n 2, 1) := by decide +kernel
theorem dX0_countVotes_36 : decode cX0_countVotes 36 = .ok (.if_icmp .ne 7, 3) := by decide +kernel
theorem dX0_countVotes_39 : decode cX0_countVotes 39 = .ok (.iconst 1, 1) := by decide +kernel
theorem dX0_countVotes_40 : decode cX0_countVotes 40 = .ok (.goto 4, 3) := by decide +kernel
theorem dX0_countVotes_43 : decode cX0_countVotes 43 = .ok (.iconst 0, 1) := by decide +kernel
theorem dX0_countVotes_44 : decode cX0_countVotes 44 = .ok (.invokestatic 88, 3) := by decide +kernel
theorem dX0_countVotes_47 : decode cX0_countVotes 47 = .ok (.iadd, 1) := by decide +kernel
theorem dX0_countVotes_48 : decode cX0_countVotes 48 = .ok (.istore_n 3, 1) := by decide +kernel
theorem dX0_countVotes_49 : decode cX0_countVotes 49 = .ok (.iinc 4 1, 3) := by decide +kernel
theorem dX0_countVotes_52 : decode cX0_countVotes 52 = .ok (.goto (-47), 3) := by decide +kernel
theorem dX0_countVotes_55 : decode cX0_countVotes 55 = .ok (.iload_n 3, 1) := by decide +kernel
theorem dX0_countVotes_56 : decode cX0_countVotes 56 = .ok (.ireturn, 1) := by decide +kernel
theorem dX0_daysWaited_0 : decode cX0_daysWaited 0 = .ok (.aload_n 0, 1) := by decide +kernel
theorem dX0_daysWaited_1 : decode cX0_daysWaited 1 = .ok (.getfield 36, 3) := by decide +kernel
theorem dX0_daysWaited_4 : decode cX0_daysWaited 4 = .ok (.iload_n 1, 1) := by decide +kernel
theorem dX0_daysWaited_5 : decode cX0_daysWaited 5 = .ok (.invokevirtual 78, 3) := by decide +kernel
theorem dX0_daysWaited_8 : decode cX0_daysWaited 8 = .ok (.iconst 1, 1) := by decide +kernel
theorem dX0_daysWaited_9 : decode cX0_daysWaited 9 = .ok (.if_icmp .ne 19, 3) := by decide +kernel
theorem dX0_daysWaited_12 : decode cX0_daysWaited 12 = .ok (.aload_n 0, 1) := by decide +kernel
theorem dX0_daysWaited_13 : decode cX0_daysWaited 13 = .ok (.getfield 67, 3) := by decide +kernel
theorem dX0_daysWaited_16 : decode cX0_daysWaited 16 = .ok (.aload_n 0, 1) := by decide +kernel
theorem dX0_daysWaited_17 : decode cX0_daysWaited 17 = .ok (.getfield 39, 3) := by decide +kernel
theorem dX0_daysWaited_20 : decode cX0_daysWaited 20 = .ok (.iload_n 1, 1) := by decide +kernel
theorem dX0_daysWaited_21 : decode cX0_daysWaited 21 = .ok (.invokevirtual 78, 3) := by decide +kernel
theorem dX0_daysWaited_24 : decode cX0_daysWaited 24 = .ok (.isub, 1) := by decide +kernel
theorem dX0_daysWaited_25 : decode cX0_daysWaited 25 = .ok (.goto 4, 3) := by decide +kernel
theorem dX0_daysWaited_28 : decode cX0_daysWaited 28 = .ok (.iconst 0, 1) := by decide +kernel
theorem dX0_daysWaited_29 : decode cX0_daysWaited 29 = .ok (.ireturn, 1) := by decide +kernel
theorem dX0_allCanAgree_0 : decode cX0_allCanAgree 0 = .ok (.iconst 0, 1) := by decide +kernel
theorem dX0_allCanAgree_1 : decode cX0_allCanAgree 1 = .ok (.istore_n 2, 1) := by decide +kernel
theorem dX0_allCanAgree_2 : decode cX0_allCanAgree 2 = .ok (.iload_n 2, 1) := by decide +kernel
theorem dX0_allCanAgree_3 : decode cX0_allCanAgree 3 = .ok (.aload_n 0, 1) := by decide +kernel
theorem dX0_allCanAgree_4 : decode cX0_allCanAgree 4 = .ok (.getfield 48, 3) := by decide +kernel
theorem dX0_allCanAgree_7 : decode cX0_allCanAgree 7 = .ok (.getfield 95, 3) := by decide +kernel
theorem dX0_allCanAgree_10 : decode cX0_allCanAgree 10 = .ok (.iload_n 1, 1) := by decide +kernel
theorem dX0_allCanAgree_11 : decode cX0_allCanAgree 11 = .ok (.invokevirtual 78, 3) := by decide +kernel
theorem dX0_allCanAgree_14 : decode cX0_allCanAgree 14 = .ok (.if_icmp .ge 23, 3) := by decide +kernel
theorem dX0_allCanAgree_17 : decode cX0_allCanAgree 17 = .ok (.aload_n 0, 1) := by decide +kernel
theorem dX0_allCanAgree_18 : decode cX0_allCanAgree 18 = .ok (.iload_n 1, 1) := by decide +kernel
theorem dX0_allCanAgree_19 : decode cX0_allCanAgree 19 = .ok (.iload_n 2, 1) := by decide +kernel
theorem dX0_allCanAgree_20 : decode cX0_allCanAgree 20 = .ok (.invokestatic 98, 3) := by decide +kernel
theorem dX0_allCanAgree_23 : decode cX0_allCanAgree 23 = .ok (.invokevirtual 102, 3) := by decide +kernel
theorem dX0_allCanAgree_26 : decode cX0_allCanAgree 26 = .ok (.ifCond .ne 5, 3) := by decide +kernel
theorem dX0_allCanAgree_29 : decode cX0_allCanAgree 29 = .ok (.iconst 0, 1) := by decide +kernel
theorem dX0_allCanAgree_30 : decode cX0_allCanAgree 30 = .ok (.ireturn, 1) := by decide +kernel
theorem dX0_allCanAgree_31 : decode cX0_allCanAgree 31 = .ok (.iinc 2 1, 3) := by decide +kernel
theorem dX0_allCanAgree_34 : decode cX0_allCanAgree 34 = .ok (.goto (-32), 3) := by decide +kernel
theorem dX0_allCanAgree_37 : decode cX0_allCanAgree 37 = .ok (.iconst 1, 1) := by decide +kernel
theorem dX0_allCanAgree_38 : decode cX0_allCanAgree 38 = .ok (.ireturn, 1) := by decide +kernel
theorem dX0_canAgree_0 : decode cX0_canAgree 0 = .ok (.aload_n 0, 1) := by decide +kernel
theorem dX0_canAgree_1 : decode cX0_canAgree 1 = .ok (.getfield 48, 3) := by decide +kernel
theorem dX0_canAgree_4 : decode cX0_canAgree 4 = .ok (.getfield 106, 3) := by decide +kernel
theorem dX0_canAgree_7 : decode cX0_canAgree 7 = .ok (.iload_n 1, 1) := by decide +kernel
theorem dX0_canAgree_8 : decode cX0_canAgree 8 = .ok (.invokevirtual 78, 3) := by decide +kernel
theorem dX0_canAgree_11 : decode cX0_canAgree 11 = .ok (.istore_n 2, 1) := by decide +kernel
theorem dX0_canAgree_12 : decode cX0_canAgree 12 = .ok (.aload_n 0, 1) := by decide +kernel
theorem dX0_canAgree_13 : decode cX0_canAgree 13 = .ok (.getfield 23, 3) := by decide +kernel
theorem dX0_canAgree_16 : decode cX0_canAgree 16 = .ok (.iload_n 2, 1) := by decide +kernel
theorem dX0_canAgree_17 : decode cX0_canAgree 17 = .ok (.invokevirtual 78, 3) := by decide +kernel
theorem dX0_canAgree_20 : decode cX0_canAgree 20 = .ok (.aload_n 0, 1) := by decide +kernel
theorem dX0_canAgree_21 : decode cX0_canAgree 21 = .ok (.getfield 48, 3) := by decide +kernel
theorem dX0_canAgree_24 : decode cX0_canAgree 24 = .ok (.getfield 109, 3) := by decide +kernel
theorem dX0_canAgree_27 : decode cX0_canAgree 27 = .ok (.iload_n 1, 1) := by decide +kernel
theorem dX0_canAgree_28 : decode cX0_canAgree 28 = .ok (.invokevirtual 78, 3) := by decide +kernel
theorem dX0_canAgree_31 : decode cX0_canAgree 31 = .ok (.iadd, 1) := by decide +kernel
theorem dX0_canAgree_32 : decode cX0_canAgree 32 = .ok (.istore_n 3, 1) := by decide +kernel
theorem dX0_canAgree_33 : decode cX0_canAgree 33 = .ok (.aload_n 0, 1) := by decide +kernel
theorem dX0_canAgree_34 : decode cX0_canAgree 34 = .ok (.getfield 30, 3) := by decide +kernel
theorem dX0_canAgree_37 : decode cX0_canAgree 37 = .ok (.iload_n 2, 1) := by decide +kernel
theorem dX0_canAgree_38 : decode cX0_canAgree 38 = .ok (.invokevirtual 78, 3) := by decide +kernel
theorem dX0_canAgree_41 : decode cX0_canAgree 41 = .ok (.iconst (-1), 1) := by decide +kernel
theorem dX0_canAgree_42 : decode cX0_canAgree 42 = .ok (.if_icmp .ne 17, 3) := by decide +kernel
theorem dX0_canAgree_45 : decode cX0_canAgree 45 = .ok (.iload_n 3, 1) := by decide +kernel
theorem dX0_canAgree_46 : decode cX0_canAgree 46 = .ok (.ifCond .lt 13, 3) := by decide +kernel
theorem dX0_canAgree_49 : decode cX0_canAgree 49 = .ok (.iload_n 3, 1) := by decide +kernel
theorem dX0_canAgree_50 : decode cX0_canAgree 50 = .ok (.bipush 99, 2) := by decide +kernel
theorem dX0_canAgree_52 : decode cX0_canAgree 52 = .ok (.if_icmp .gt 7, 3) := by decide +kernel
theorem dX0_canAgree_55 : decode cX0_canAgree 55 = .ok (.iconst 1, 1) := by decide +kernel
theorem dX0_canAgree_56 : decode cX0_canAgree 56 = .ok (.goto 4, 3) := by decide +kernel
theorem dX0_canAgree_59 : decode cX0_canAgree 59 = .ok (.iconst 0, 1) := by decide +kernel
theorem dX0_canAgree_60 : decode cX0_canAgree 60 = .ok (.ireturn, 1) := by decide +kernel
theorem dX0_startDeal_0 : decode cX0_startDeal 0 = .ok (.aload_n 0, 1) := by decide +kernel
theorem dX0_startDeal_1 : decode cX0_startDeal 1 = .ok (.getfield 74, 3) := by decide +kernel
theorem dX0_startDeal_4 : decode cX0_startDeal 4 = .ok (.ifCond .eq 11, 3) := by decide +kernel
theorem dX0_startDeal_7 : decode cX0_startDeal 7 = .ok (.aload_n 0, 1) := by decide +kernel
theorem dX0_startDeal_8 : decode cX0_startDeal 8 = .ok (.iload_n 1, 1) := by decide +kernel
theorem dX0_startDeal_9 : decode cX0_startDeal 9 = .ok (.invokevirtual 112, 3) := by decide +kernel
theorem dX0_startDeal_12 : decode cX0_startDeal 12 = .ok (.ifCond .ne 5, 3) := by decide +kernel
theorem dX0_startDeal_15 : decode cX0_startDeal 15 = .ok (.iconst 0, 1) := by decide +kernel
theorem dX0_startDeal_16 : decode cX0_startDeal 16 = .ok (.ireturn, 1) := by decide +kernel
theorem dX0_startDeal_17 : decode cX0_startDeal 17 = .ok (.aload_n 0, 1) := by decide +kernel
theorem dX0_startDeal_18 : decode cX0_startDeal 18 = .ok (.getfield 36, 3) := by decide +kernel
theorem dX0_startDeal_21 : decode cX0_startDeal 21 = .ok (.iload_n 1, 1) := by decide +kernel
theorem dX0_startDeal_22 : decode cX0_startDeal 22 = .ok (.iconst 1, 1) := by decide +kernel
theorem dX0_startDeal_23 : decode cX0_startDeal 23 = .ok (.invokevirtual 115, 3) := by decide +kernel
theorem dX0_startDeal_26 : decode cX0_startDeal 26 = .ok (.aload_n 0, 1) := by decide +kernel
theorem dX0_startDeal_27 : decode cX0_startDeal 27 = .ok (.getfield 39, 3) := by decide +kernel
theorem dX0_startDeal_30 : decode cX0_startDeal 30 = .ok (.iload_n 1, 1) := by decide +kernel
theorem dX0_startDeal_31 : decode cX0_startDeal 31 = .ok (.aload_n 0, 1) := by decide +kernel
theorem dX0_startDeal_32 : decode cX0_startDeal 32 = .ok (.getfield 67, 3) := by decide +kernel
theorem dX0_startDeal_35 : decode cX0_startDeal 35 = .ok (.invokevirtual 115, 3) := by decide +kernel
theorem dX0_startDeal_38 : decode cX0_startDeal 38 = .ok (.iconst 0, 1) := by decide +kernel
theorem dX0_startDeal_39 : decode cX0_startDeal 39 = .ok (.istore_n 2, 1) := by decide +kernel
theorem dX0_startDeal_40 : decode cX0_startDeal 40 = .ok (.iload_n 2, 1) := by decide +kernel
theorem dX0_startDeal_41 : decode cX0_startDeal 41 = .ok (.aload_n 0, 1) := by decide +kernel
theorem dX0_startDeal_42 : decode cX0_startDeal 42 = .ok (.getfield 48, 3) := by decide +kernel
theorem dX0_startDeal_45 : decode cX0_startDeal 45 = .ok (.getfield 95, 3) := by decide +kernel
theorem dX0_startDeal_48 : decode cX0_startDeal 48 = .ok (.iload_n 1, 1) := by decide +kernel
theorem dX0_startDeal_49 : decode cX0_startDeal 49 = .ok (.invokevirtual 78, 3) := by decide +kernel
theorem dX0_startDeal_52 : decode cX0_startDeal 52 = .ok (.if_icmp .ge 35, 3) := by decide +kernel
theorem dX0_startDeal_55 : decode cX0_startDeal 55 = .ok (.aload_n 0, 1) := by decide +kernel
theorem dX0_startDeal_56 : decode cX0_startDeal 56 = .ok (.getfield 42, 3) := by decide +kernel
theorem dX0_startDeal_59 : decode cX0_startDeal 59 = .ok (.iload_n 1, 1) := by decide +kernel
theorem dX0_startDeal_60 : decode cX0_startDeal 60 = .ok (.iload_n 2, 1) := by decide +kernel
theorem dX0_startDeal_61 : decode cX0_startDeal 61 = .ok (.invokestatic 98, 3) := by decide +kernel
theorem dX0_startDeal_64 : decode cX0_startDeal 64 = .ok (.iconst 0, 1) := by decide +kernel
theorem dX0_startDeal_65 : decode cX0_startDeal 65 = .ok (.invokevirtual 115, 3) := by decide +kernel
theorem dX0_startDeal_68 : decode cX0_startDeal 68 = .ok (.aload_n 0, 1) := by decide +kernel
theorem dX0_startDeal_69 : decode cX0_startDeal 69 = .ok (.getfield 45, 3) := by decide +kernel
theorem dX0_startDeal_72 : decode cX0_startDeal 72 = .ok (.iload_n 1, 1) := by decide +kernel
theorem dX0_startDeal_73 : decode cX0_startDeal 73 = .ok (.iload_n 2, 1) := by decide +kernel
theorem dX0_startDeal_74 : decode cX0_startDeal 74 = .ok (.invokestatic 98, 3) := by decide +kernel
theorem dX0_startDeal_77 : decode cX0_startDeal 77 = .ok (.iconst 0, 1) := by decide +kernel
theorem dX0_startDeal_78 : decode cX0_startDeal 78 = .ok (.invokevirtual 115, 3) := by decide +kernel
theorem dX0_startDeal_81 : decode cX0_startDeal 81 = .ok (.iinc 2 1, 3) := by decide +kernel
theorem dX0_startDeal_84 : decode cX0_startDeal 84 = .ok (.goto (-44), 3) := by decide +kernel
theorem dX0_startDeal_87 : decode cX0_startDeal 87 = .ok (.iconst 1, 1) := by decide +kernel
theorem dX0_startDeal_88 : decode cX0_startDeal 88 = .ok (.ireturn, 1) := by decide +kernel
theorem dX0_isOver_0 : decode cX0_isOver 0 = .ok (.aload_n 0, 1) := by decide +kernel
theorem dX0_isOver_1 : decode cX0_isOver 1 = .ok (.getfield 36, 3) := by decide +kernel
theorem dX0_isOver_4 : decode cX0_isOver 4 = .ok (.iload_n 1, 1) := by decide +kernel
theorem dX0_isOver_5 : decode cX0_isOver 5 = .ok (.invokevirtual 78, 3) := by decide +kernel
theorem dX0_isOver_8 : decode cX0_isOver 8 = .ok (.istore_n 2, 1) := by decide +kernel
theorem dX0_isOver_9 : decode cX0_isOver 9 = .ok (.iload_n 2, 1) := by decide +kernel
theorem dX0_isOver_10 : decode cX0_isOver 10 = .ok (.ifCond .eq 8, 3) := by decide +kernel
theorem dX0_isOver_13 : decode cX0_isOver 13 = .ok (.iload_n 2, 1) := by decide +kernel
theorem dX0_isOver_14 : decode cX0_isOver 14 = .ok (.iconst 1, 1) := by decide +kernel
theorem dX0_isOver_15 : decode cX0_isOver 15 = .ok (.if_icmp .ne 13, 3) := by decide +kernel
theorem dX0_isOver_18 : decode cX0_isOver 18 = .ok (.iload_n 2, 1) := by decide +kernel
theorem dX0_isOver_19 : decode cX0_isOver 19 = .ok (.ifCond .ne 7, 3) := by decide +kernel
theorem dX0_isOver_22 : decode cX0_isOver 22 = .ok (.iconst 1, 1) := by decide +kernel
theorem dX0_isOver_23 : decode cX0_isOver 23 = .ok (.goto 4, 3) := by decide +kernel
theorem dX0_isOver_26 : decode cX0_isOver 26 = .ok (.iconst 0, 1) := by decide +kernel
theorem dX0_isOver_27 : decode cX0_isOver 27 = .ok (.ireturn, 1) := by decide +kernel
theorem dX0_isOver_28 : decode cX0_isOver 28 = .ok (.iconst 0, 1) := by decide +kernel
theorem dX0_isOver_29 : decode cX0_isOver 29 = .ok (.istore_n 3, 1) := by decide +kernel
theorem dX0_isOver_30 : decode cX0_isOver 30 = .ok (.iload_n 3, 1) := by decide +kernel
theorem dX0_isOver_31 : decode cX0_isOver 31 = .ok (.aload_n 0, 1) := by decide +kernel
theorem dX0_isOver_32 : decode cX0_isOver 32 = .ok (.getfield 48, 3) := by decide +kernel
theorem dX0_isOver_35 : decode cX0_isOver 35 = .ok (.getfield 95, 3) := by decide +kernel
theorem dX0_isOver_38 : decode cX0_isOver 38 = .ok (.iload_n 1, 1) := by decide +kernel
theorem dX0_isOver_39 : decode cX0_isOver 39 = .ok (.invokevirtual 78, 3) := by decide +kernel
theorem dX0_isOver_42 : decode cX0_isOver 42 = .ok (.if_icmp .ge 26, 3) := by decide +kernel
theorem dX0_isOver_45 : decode cX0_isOver 45 = .ok (.aload_n 0, 1) := by decide +kernel
theorem dX0_isOver_46 : decode cX0_isOver 46 = .ok (.getfield 45, 3) := by decide +kernel
theorem dX0_isOver_49 : decode cX0_isOver 49 = .ok (.iload_n 1, 1) := by decide +kernel
theorem dX0_isOver_50 : decode cX0_isOver 50 = .ok (.iload_n 3, 1) := by decide +kernel
theorem dX0_isOver_51 : decode cX0_isOver 51 = .ok (.invokestatic 98, 3) := by decide +kernel
theorem dX0_isOver_54 : decode cX0_isOver 54 = .ok (.invokevirtual 78, 3) := by decide +kernel
theorem dX0_isOver_57 : decode cX0_isOver 57 = .ok (.ifCond .ne 5, 3) := by decide +kernel
theorem dX0_isOver_60 : decode cX0_isOver 60 = .ok (.iconst 0, 1) := by decide +kernel
theorem dX0_isOver_61 : decode cX0_isOver 61 = .ok (.ireturn, 1) := by decide +kernel
theorem dX0_isOver_62 : decode cX0_isOver 62 = .ok (.iinc 3 1, 3) := by decide +kernel
theorem dX0_isOver_65 : decode cX0_isOver 65 = .ok (.goto (-35), 3) := by decide +kernel
theorem dX0_isOver_68 : decode cX0_isOver 68 = .ok (.iconst 1, 1) := by decide +kernel
theorem dX0_isOver_69 : decode cX0_isOver 69 = .ok (.ireturn, 1) := by decide +kernel
theorem dX0_putToSleep_0 : decode cX0_putToSleep 0 = .ok (.aload_n 0, 1) := by decide +kernel
theorem dX0_putToSleep_1 : decode cX0_putToSleep 1 = .ok (.iload_n 1, 1) := by decide +kernel
theorem dX0_putToSleep_2 : decode cX0_putToSleep 2 = .ok (.invokevirtual 119, 3) := by decide +kernel
theorem dX0_putToSleep_5 : decode cX0_putToSleep 5 = .ok (.ifCond .ne 5, 3) := by decide +kernel
theorem dX0_putToSleep_8 : decode cX0_putToSleep 8 = .ok (.iconst 0, 1) := by decide +kernel
theorem dX0_putToSleep_9 : decode cX0_putToSleep 9 = .ok (.ireturn, 1) := by decide +kernel
theorem dX0_putToSleep_10 : decode cX0_putToSleep 10 = .ok (.iload_n 1, 1) := by decide +kernel
theorem dX0_putToSleep_11 : decode cX0_putToSleep 11 = .ok (.bipush 8, 2) := by decide +kernel
theorem dX0_putToSleep_13 : decode cX0_putToSleep 13 = .ok (.if_icmp .ne 11, 3) := by decide +kernel
theorem dX0_putToSleep_16 : decode cX0_putToSleep 16 = .ok (.aload_n 0, 1) := by decide +kernel
theorem dX0_putToSleep_17 : decode cX0_putToSleep 17 = .ok (.iconst 0, 1) := by decide +kernel
theorem dX0_putToSleep_18 : decode cX0_putToSleep 18 = .ok (.putfield 74, 3) := by decide +kernel
theorem dX0_putToSleep_21 : decode cX0_putToSleep 21 = .ok (.goto 12, 3) := by decide +kernel
theorem dX0_putToSleep_24 : decode cX0_putToSleep 24 = .ok (.aload_n 0, 1) := by decide +kernel
theorem dX0_putToSleep_25 : decode cX0_putToSleep 25 = .ok (.getfield 27, 3) := by decide +kernel
theorem dX0_putToSleep_28 : decode cX0_putToSleep 28 = .ok (.iload_n 1, 1) := by decide +kernel
theorem dX0_putToSleep_29 : decode cX0_putToSleep 29 = .ok (.iconst 1, 1) := by decide +kernel
theorem dX0_putToSleep_30 : decode cX0_putToSleep 30 = .ok (.invokevirtual 115, 3) := by decide +kernel
theorem dX0_putToSleep_33 : decode cX0_putToSleep 33 = .ok (.iconst 1, 1) := by decide +kernel
theorem dX0_putToSleep_34 : decode cX0_putToSleep 34 = .ok (.ireturn, 1) := by decide +kernel
theorem dX0_rouse_0 : decode cX0_rouse 0 = .ok (.aload_n 0, 1) := by decide +kernel
theorem dX0_rouse_1 : decode cX0_rouse 1 = .ok (.iload_n 1, 1) := by decide +kernel
theorem dX0_rouse_2 : decode cX0_rouse 2 = .ok (.invokevirtual 119, 3) := by decide +kernel
theorem dX0_rouse_5 : decode cX0_rouse 5 = .ok (.ifCond .eq 5, 3) := by decide +kernel
theorem dX0_rouse_8 : decode cX0_rouse 8 = .ok (.iconst 0, 1) := by decide +kernel
theorem dX0_rouse_9 : decode cX0_rouse 9 = .ok (.ireturn, 1) := by decide +kernel
theorem dX0_rouse_10 : decode cX0_rouse 10 = .ok (.iload_n 1, 1) := by decide +kernel
theorem dX0_rouse_11 : decode cX0_rouse 11 = .ok (.bipush 8, 2) := by decide +kernel
theorem dX0_rouse_13 : decode cX0_rouse 13 = .ok (.if_icmp .ne 15, 3) := by decide +kernel
theorem dX0_rouse_16 : decode cX0_rouse 16 = .ok (.aload_n 0, 1) := by decide +kernel
theorem dX0_rouse_17 : decode cX0_rouse 17 = .ok (.iconst 1, 1) := by decide +kernel
theorem dX0_rouse_18 : decode cX0_rouse 18 = .ok (.putfield 74, 3) := by decide +kernel
theorem dX0_rouse_21 : decode cX0_rouse 21 = .ok (.aload_n 0, 1) := by decide +kernel
theorem dX0_rouse_22 : decode cX0_rouse 22 = .ok (.invokevirtual 122, 3) := by decide +kernel
theorem dX0_rouse_25 : decode cX0_rouse 25 = .ok (.goto 12, 3) := by decide +kernel
theorem dX0_rouse_28 : decode cX0_rouse 28 = .ok (.aload_n 0, 1) := by decide +kernel
theorem dX0_rouse_29 : decode cX0_rouse 29 = .ok (.getfield 27, 3) := by decide +kernel
theorem dX0_rouse_32 : decode cX0_rouse 32 = .ok (.iload_n 1, 1) := by decide +kernel
theorem dX0_rouse_33 : decode cX0_rouse 33 = .ok (.iconst 0, 1) := by decide +kernel
theorem dX0_rouse_34 : decode cX0_rouse 34 = .ok (.invokevirtual 115, 3) := by decide +kernel
theorem dX0_rouse_37 : decode cX0_rouse 37 = .ok (.iconst 1, 1) := by decide +kernel
theorem dX0_rouse_38 : decode cX0_rouse 38 = .ok (.ireturn, 1) := by decide +kernel
theorem dX0_refuseBegun_0 : decode cX0_refuseBegun 0 = .ok (.iconst 0, 1) := by decide +kernel
theorem dX0_refuseBegun_1 : decode cX0_refuseBegun 1 = .ok (.istore_n 1, 1) := by decide +kernel
theorem dX0_refuseBegun_2 : decode cX0_refuseBegun 2 = .ok (.iload_n 1, 1) := by decide +kernel
theorem dX0_refuseBegun_3 : decode cX0_refuseBegun 3 = .ok (.aload_n 0, 1) := by decide +kernel
theorem dX0_refuseBegun_4 : decode cX0_refuseBegun 4 = .ok (.getfield 48, 3) := by decide +kernel
theorem dX0_refuseBegun_7 : decode cX0_refuseBegun 7 = .ok (.getfield 92, 3) := by decide +kernel
theorem dX0_refuseBegun_10 : decode cX0_refuseBegun 10 = .ok (.if_icmp .ge 30, 3) := by decide +kernel
theorem dX0_refuseBegun_13 : decode cX0_refuseBegun 13 = .ok (.aload_n 0, 1) := by decide +kernel
theorem dX0_refuseBegun_14 : decode cX0_refuseBegun 14 = .ok (.getfield 36, 3) := by decide +kernel
theorem dX0_refuseBegun_17 : decode cX0_refuseBegun 17 = .ok (.iload_n 1, 1) := by decide +kernel
theorem dX0_refuseBegun_18 : decode cX0_refuseBegun 18 = .ok (.invokevirtual 78, 3) := by decide +kernel
theorem dX0_refuseBegun_21 : decode cX0_refuseBegun 21 = .ok (.iconst 1, 1) := by decide +kernel
theorem dX0_refuseBegun_22 : decode cX0_refuseBegun 22 = .ok (.if_icmp .ne 12, 3) := by decide +kernel
theorem dX0_refuseBegun_25 : decode cX0_refuseBegun 25 = .ok (.aload_n 0, 1) := by decide +kernel
theorem dX0_refuseBegun_26 : decode cX0_refuseBegun 26 = .ok (.getfield 36, 3) := by decide +kernel
theorem dX0_refuseBegun_29 : decode cX0_refuseBegun 29 = .ok (.iload_n 1, 1) := by decide +kernel
theorem dX0_refuseBegun_30 : decode cX0_refuseBegun 30 = .ok (.iconst 3, 1) := by decide +kernel
theorem dX0_refuseBegun_31 : decode cX0_refuseBegun 31 = .ok (.invokevirtual 115, 3) := by decide +kernel
theorem dX0_refuseBegun_34 : decode cX0_refuseBegun 34 = .ok (.iinc 1 1, 3) := by decide +kernel
theorem dX0_refuseBegun_37 : decode cX0_refuseBegun 37 = .ok (.goto (-35), 3) := by decide +kernel
theorem dX0_refuseBegun_40 : decode cX0_refuseBegun 40 = .ok (.return_, 1) := by decide +kernel
theorem dX0_passOneDay_0 : decode cX0_passOneDay 0 = .ok (.aload_n 0, 1) := by decide +kernel
theorem dX0_passOneDay_1 : decode cX0_passOneDay 1 = .ok (.invokevirtual 125, 3) := by decide +kernel
theorem dX0_passOneDay_4 : decode cX0_passOneDay 4 = .ok (.aload_n 0, 1) := by decide +kernel
theorem dX0_passOneDay_5 : decode cX0_passOneDay 5 = .ok (.getfield 74, 3) := by decide +kernel
theorem dX0_passOneDay_8 : decode cX0_passOneDay 8 = .ok (.ifCond .eq 11, 3) := by decide +kernel
theorem dX0_passOneDay_11 : decode cX0_passOneDay 11 = .ok (.aload_n 0, 1) := by decide +kernel
theorem dX0_passOneDay_12 : decode cX0_passOneDay 12 = .ok (.invokevirtual 128, 3) := by decide +kernel
theorem dX0_passOneDay_15 : decode cX0_passOneDay 15 = .ok (.aload_n 0, 1) := by decide +kernel
theorem dX0_passOneDay_16 : decode cX0_passOneDay 16 = .ok (.invokevirtual 131, 3) := by decide +kernel
theorem dX0_passOneDay_19 : decode cX0_passOneDay 19 = .ok (.aload_n 0, 1) := by decide +kernel
theorem dX0_passOneDay_20 : decode cX0_passOneDay 20 = .ok (.invokevirtual 134, 3) := by decide +kernel
theorem dX0_passOneDay_23 : decode cX0_passOneDay 23 = .ok (.istore_n 1, 1) := by decide +kernel
theorem dX0_passOneDay_24 : decode cX0_passOneDay 24 = .ok (.aload_n 0, 1) := by decide +kernel
theorem dX0_passOneDay_25 : decode cX0_passOneDay 25 = .ok (.dup, 1) := by decide +kernel
theorem dX0_passOneDay_26 : decode cX0_passOneDay 26 = .ok (.getfield 67, 3) := by decide +kernel
theorem dX0_passOneDay_29 : decode cX0_passOneDay 29 = .ok (.iconst 1, 1) := by decide +kernel
theorem dX0_passOneDay_30 : decode cX0_passOneDay 30 = .ok (.iadd, 1) := by decide +kernel
theorem dX0_passOneDay_31 : decode cX0_passOneDay 31 = .ok (.putfield 67, 3) := by decide +kernel
theorem dX0_passOneDay_34 : decode cX0_passOneDay 34 = .ok (.iload_n 1, 1) := by decide +kernel
theorem dX0_passOneDay_35 : decode cX0_passOneDay 35 = .ok (.ireturn, 1) := by decide +kernel
theorem dX0_obeyOrders_0 : decode cX0_obeyOrders 0 = .ok (.iconst 0, 1) := by decide +kernel
theorem dX0_obeyOrders_1 : decode cX0_obeyOrders 1 = .ok (.istore_n 1, 1) := by decide +kernel
theorem dX0_obeyOrders_2 : decode cX0_obeyOrders 2 = .ok (.iload_n 1, 1) := by decide +kernel
theorem dX0_obeyOrders_3 : decode cX0_obeyOrders 3 = .ok (.aload_n 0, 1) := by decide +kernel
theorem dX0_obeyOrders_4 : decode cX0_obeyOrders 4 = .ok (.getfield 48, 3) := by decide +kernel
theorem dX0_obeyOrders_7 : decode cX0_obeyOrders 7 = .ok (.getfield 138, 3) := by decide +kernel
theorem dX0_obeyOrders_10 : decode cX0_obeyOrders 10 = .ok (.if_icmp .ge 64, 3) := by decide +kernel
theorem dX0_obeyOrders_13 : decode cX0_obeyOrders 13 = .ok (.aload_n 0, 1) := by decide +kernel
theorem dX0_obeyOrders_14 : decode cX0_obeyOrders 14 = .ok (.getfield 12, 3) := by decide +kernel
theorem dX0_obeyOrders_17 : decode cX0_obeyOrders 17 = .ok (.aload_n 0, 1) := by decide +kernel
theorem dX0_obeyOrders_18 : decode cX0_obeyOrders 18 = .ok (.getfield 48, 3) := by decide +kernel
theorem dX0_obeyOrders_21 : decode cX0_obeyOrders 21 = .ok (.iload_n 1, 1) := by decide +kernel
theorem dX0_obeyOrders_22 : decode cX0_obeyOrders 22 = .ok (.aload_n 0, 1) := by decide +kernel
theorem dX0_obeyOrders_23 : decode cX0_obeyOrders 23 = .ok (.invokevirtual 141, 3) := by decide +kernel
theorem dX0_obeyOrders_26 : decode cX0_obeyOrders 26 = .ok (.ifCond .eq 42, 3) := by decide +kernel
theorem dX0_obeyOrders_29 : decode cX0_obeyOrders 29 = .ok (.aload_n 0, 1) := by decide +kernel
theorem dX0_obeyOrders_30 : decode cX0_obeyOrders 30 = .ok (.aload_n 0, 1) := by decide +kernel
theorem dX0_obeyOrders_31 : decode cX0_obeyOrders 31 = .ok (.getfield 48, 3) := by decide +kernel
theorem dX0_obeyOrders_34 : decode cX0_obeyOrders 34 = .ok (.getfield 145, 3) := by decide +kernel
theorem dX0_obeyOrders_37 : decode cX0_obeyOrders 37 = .ok (.iload_n 1, 1) := by decide +kernel
theorem dX0_obeyOrders_38 : decode cX0_obeyOrders 38 = .ok (.invokevirtual 78, 3) := by decide +kernel
theorem dX0_obeyOrders_41 : decode cX0_obeyOrders 41 = .ok (.aload_n 0, 1) := by decide +kernel
theorem dX0_obeyOrders_42 : decode cX0_obeyOrders 42 = .ok (.getfield 48, 3) := by decide +kernel
theorem dX0_obeyOrders_45 : decode cX0_obeyOrders 45 = .ok (.getfield 148, 3) := by decide +kernel
theorem dX0_obeyOrders_48 : decode cX0_obeyOrders 48 = .ok (.iload_n 1, 1) := by decide +kernel
theorem dX0_obeyOrders_49 : decode cX0_obeyOrders 49 = .ok (.invokevirtual 78, 3) := by decide +kernel
theorem dX0_obeyOrders_52 : decode cX0_obeyOrders 52 = .ok (.invokevirtual 151, 3) := by decide +kernel
theorem dX0_obeyOrders_55 : decode cX0_obeyOrders 55 = .ok (.ifCond .eq 13, 3) := by decide +kernel
theorem dX0_obeyOrders_58 : decode cX0_obeyOrders 58 = .ok (.aload_n 0, 1) := by decide +kernel
theorem dX0_obeyOrders_59 : decode cX0_obeyOrders 59 = .ok (.dup, 1) := by decide +kernel
theorem dX0_obeyOrders_60 : decode cX0_obeyOrders 60 = .ok (.getfield 71, 3) := by decide +kernel
theorem dX0_obeyOrders_63 : decode cX0_obeyOrders 63 = .ok (.iconst 1, 1) := by decide +kernel
theorem dX0_obeyOrders_64 : decode cX0_obeyOrders 64 = .ok (.iadd, 1) := by decide +kernel
theorem dX0_obeyOrders_65 : decode cX0_obeyOrders 65 = .ok (.putfield 71, 3) := by decide +kernel
theorem dX0_obeyOrders_68 : decode cX0_obeyOrders 68 = .ok (.iinc 1 1, 3) := by decide +kernel
theorem dX0_obeyOrders_71 : decode cX0_obeyOrders 71 = .ok (.goto (-69), 3) := by decide +kernel
theorem dX0_obeyOrders_74 : decode cX0_obeyOrders 74 = .ok (.return_, 1) := by decide +kernel
theorem dX0_obey_0 : decode cX0_obey 0 = .ok (.iload_n 1, 1) := by decide +kernel
theorem dX0_obey_1 : decode cX0_obey 1 = .ok (.sipush 262, 3) := by decide +kernel
theorem dX0_obey_4 : decode cX0_obey 4 = .ok (.if_icmp .ne 9, 3) := by decide +kernel
theorem dX0_obey_7 : decode cX0_obey 7 = .ok (.aload_n 0, 1) := by decide +kernel
theorem dX0_obey_8 : decode cX0_obey 8 = .ok (.iload_n 2, 1) := by decide +kernel
theorem dX0_obey_9 : decode cX0_obey 9 = .ok (.invokevirtual 155, 3) := by decide +kernel
theorem dX0_obey_12 : decode cX0_obey 12 = .ok (.ireturn, 1) := by decide +kernel
theorem dX0_obey_13 : decode cX0_obey 13 = .ok (.iload_n 1, 1) := by decide +kernel
theorem dX0_obey_14 : decode cX0_obey 14 = .ok (.sipush 263, 3) := by decide +kernel
theorem dX0_obey_17 : decode cX0_obey 17 = .ok (.if_icmp .ne 11, 3) := by decide +kernel
theorem dX0_obey_20 : decode cX0_obey 20 = .ok (.aload_n 0, 1) := by decide +kernel
theorem dX0_obey_21 : decode cX0_obey 21 = .ok (.iload_n 2, 1) := by decide +kernel
theorem dX0_obey_22 : decode cX0_obey 22 = .ok (.invokevirtual 158, 3) := by decide +kernel
theorem dX0_obey_25 : decode cX0_obey 25 = .ok (.goto 8, 3) := by decide +kernel
theorem dX0_obey_28 : decode cX0_obey 28 = .ok (.aload_n 0, 1) := by decide +kernel
theorem dX0_obey_29 : decode cX0_obey 29 = .ok (.iload_n 2, 1) := by decide +kernel
theorem dX0_obey_30 : decode cX0_obey 30 = .ok (.invokevirtual 161, 3) := by decide +kernel
theorem dX0_obey_33 : decode cX0_obey 33 = .ok (.ireturn, 1) := by decide +kernel
theorem dX0_collectVotes_0 : decode cX0_collectVotes 0 = .ok (.iconst 0, 1) := by decide +kernel
theorem dX0_collectVotes_1 : decode cX0_collectVotes 1 = .ok (.istore_n 1, 1) := by decide +kernel
theorem dX0_collectVotes_2 : decode cX0_collectVotes 2 = .ok (.iload_n 1, 1) := by decide +kernel
theorem dX0_collectVotes_3 : decode cX0_collectVotes 3 = .ok (.aload_n 0, 1) := by decide +kernel
theorem dX0_collectVotes_4 : decode cX0_collectVotes 4 = .ok (.getfield 48, 3) := by decide +kernel
theorem dX0_collectVotes_7 : decode cX0_collectVotes 7 = .ok (.getfield 92, 3) := by decide +kernel
theorem dX0_collectVotes_10 : decode cX0_collectVotes 10 = .ok (.if_icmp .ge 26, 3) := by decide +kernel
theorem dX0_collectVotes_13 : decode cX0_collectVotes 13 = .ok (.aload_n 0, 1) := by decide +kernel
theorem dX0_collectVotes_14 : decode cX0_collectVotes 14 = .ok (.getfield 36, 3) := by decide +kernel
theorem dX0_collectVotes_17 : decode cX0_collectVotes 17 = .ok (.iload_n 1, 1) := by decide +kernel
theorem dX0_collectVotes_18 : decode cX0_collectVotes 18 = .ok (.invokevirtual 78, 3) := by decide +kernel
theorem dX0_collectVotes_21 : decode cX0_collectVotes 21 = .ok (.iconst 1, 1) := by decide +kernel
theorem dX0_collectVotes_22 : decode cX0_collectVotes 22 = .ok (.if_icmp .ne 8, 3) := by decide +kernel
theorem dX0_collectVotes_25 : decode cX0_collectVotes 25 = .ok (.aload_n 0, 1) := by decide +kernel
theorem dX0_collectVotes_26 : decode cX0_collectVotes 26 = .ok (.iload_n 1, 1) := by decide +kernel
theorem dX0_collectVotes_27 : decode cX0_collectVotes 27 = .ok (.invokevirtual 164, 3) := by decide +kernel
theorem dX0_collectVotes_30 : decode cX0_collectVotes 30 = .ok (.iinc 1 1, 3) := by decide +kernel
theorem dX0_collectVotes_33 : decode cX0_collectVotes 33 = .ok (.goto (-31), 3) := by decide +kernel
theorem dX0_collectVotes_36 : decode cX0_collectVotes 36 = .ok (.return_, 1) := by decide +kernel
theorem dX0_askParts_0 : decode cX0_askParts 0 = .ok (.iconst 0, 1) := by decide +kernel
theorem dX0_askParts_1 : decode cX0_askParts 1 = .ok (.istore_n 2, 1) := by decide +kernel
theorem dX0_askParts_2 : decode cX0_askParts 2 = .ok (.iload_n 2, 1) := by decide +kernel
theorem dX0_askParts_3 : decode cX0_askParts 3 = .ok (.aload_n 0, 1) := by decide +kernel
theorem dX0_askParts_4 : decode cX0_askParts 4 = .ok (.getfield 48, 3) := by decide +kernel
theorem dX0_askParts_7 : decode cX0_askParts 7 = .ok (.getfield 95, 3) := by decide +kernel
theorem dX0_askParts_10 : decode cX0_askParts 10 = .ok (.iload_n 1, 1) := by decide +kernel
theorem dX0_askParts_11 : decode cX0_askParts 11 = .ok (.invokevirtual 78, 3) := by decide +kernel
theorem dX0_askParts_14 : decode cX0_askParts 14 = .ok (.if_icmp .ge 98, 3) := by decide +kernel
theorem dX0_askParts_17 : decode cX0_askParts 17 = .ok (.iload_n 1, 1) := by decide +kernel
theorem dX0_askParts_18 : decode cX0_askParts 18 = .ok (.iload_n 2, 1) := by decide +kernel
theorem dX0_askParts_19 : decode cX0_askParts 19 = .ok (.invokestatic 98, 3) := by decide +kernel
theorem dX0_askParts_22 : decode cX0_askParts 22 = .ok (.istore_n 3, 1) := by decide +kernel
theorem dX0_askParts_23 : decode cX0_askParts 23 = .ok (.aload_n 0, 1) := by decide +kernel
theorem dX0_askParts_24 : decode cX0_askParts 24 = .ok (.getfield 48, 3) := by decide +kernel
theorem dX0_askParts_27 : decode cX0_askParts 27 = .ok (.getfield 106, 3) := by decide +kernel
theorem dX0_askParts_30 : decode cX0_askParts 30 = .ok (.iload_n 3, 1) := by decide +kernel
theorem dX0_askParts_31 : decode cX0_askParts 31 = .ok (.invokevirtual 78, 3) := by decide +kernel
theorem dX0_askParts_34 : decode cX0_askParts 34 = .ok (.istore 4, 2) := by decide +kernel
theorem dX0_askParts_36 : decode cX0_askParts 36 = .ok (.aload_n 0, 1) := by decide +kernel
theorem dX0_askParts_37 : decode cX0_askParts 37 = .ok (.getfield 42, 3) := by decide +kernel
theorem dX0_askParts_40 : decode cX0_askParts 40 = .ok (.iload_n 3, 1) := by decide +kernel
theorem dX0_askParts_41 : decode cX0_askParts 41 = .ok (.invokevirtual 78, 3) := by decide +kernel
theorem dX0_askParts_44 : decode cX0_askParts 44 = .ok (.ifCond .ne 62, 3) := by decide +kernel
theorem dX0_askParts_47 : decode cX0_askParts 47 = .ok (.aload_n 0, 1) := by decide +kernel
theorem dX0_askParts_48 : decode cX0_askParts 48 = .ok (.iload 4, 2) := by decide +kernel
theorem dX0_askParts_50 : decode cX0_askParts 50 = .ok (.invokevirtual 119, 3) := by decide +kernel
theorem dX0_askParts_53 : decode cX0_askParts 53 = .ok (.ifCond .eq 53, 3) := by decide +kernel
theorem dX0_askParts_56 : decode cX0_askParts 56 = .ok (.aload_n 0, 1) := by decide +kernel
theorem dX0_askParts_57 : decode cX0_askParts 57 = .ok (.iload_n 3, 1) := by decide +kernel
theorem dX0_askParts_58 : decode cX0_askParts 58 = .ok (.invokevirtual 102, 3) := by decide +kernel
theorem dX0_askParts_61 : decode cX0_askParts 61 = .ok (.istore 5, 2) := by decide +kernel
theorem dX0_askParts_63 : decode cX0_askParts 63 = .ok (.aload_n 0, 1) := by decide +kernel
theorem dX0_askParts_64 : decode cX0_askParts 64 = .ok (.getfield 42, 3) := by decide +kernel
theorem dX0_askParts_67 : decode cX0_askParts 67 = .ok (.iload_n 3, 1) := by decide +kernel
theorem dX0_askParts_68 : decode cX0_askParts 68 = .ok (.iload 5, 2) := by decide +kernel
theorem dX0_askParts_70 : decode cX0_askParts 70 = .ok (.ifCond .eq 7, 3) := by decide +kernel
theorem dX0_askParts_73 : decode cX0_askParts 73 = .ok (.iconst 1, 1) := by decide +kernel
theorem dX0_askParts_74 : decode cX0_askParts 74 = .ok (.goto 4, 3) := by decide +kernel
theorem dX0_askParts_77 : decode cX0_askParts 77 = .ok (.iconst 2, 1) := by decide +kernel
theorem dX0_askParts_78 : decode cX0_askParts 78 = .ok (.invokevirtual 115, 3) := by decide +kernel
theorem dX0_askParts_81 : decode cX0_askParts 81 = .ok (.iload 5, 2) := by decide +kernel
theorem dX0_askParts_83 : decode cX0_askParts 83 = .ok (.ifCond .eq 23, 3) := by decide +kernel
theorem dX0_askParts_86 : decode cX0_askParts 86 = .ok (.aload_n 0, 1) := by decide +kernel
theorem dX0_askParts_87 : decode cX0_askParts 87 = .ok (.getfield 30, 3) := by decide +kernel
theorem dX0_askParts_90 : decode cX0_askParts 90 = .ok (.iload 4, 2) := by decide +kernel
theorem dX0_askParts_92 : decode cX0_askParts 92 = .ok (.iload_n 1, 1) := by decide +kernel
theorem dX0_askParts_93 : decode cX0_askParts 93 = .ok (.invokevirtual 115, 3) := by decide +kernel
theorem dX0_askParts_96 : decode cX0_askParts 96 = .ok (.aload_n 0, 1) := by decide +kernel
theorem dX0_askParts_97 : decode cX0_askParts 97 = .ok (.getfield 33, 3) := by decide +kernel
theorem dX0_askParts_100 : decode cX0_askParts 100 = .ok (.iload 4, 2) := by decide +kernel
theorem dX0_askParts_102 : decode cX0_askParts 102 = .ok (.iconst 1, 1) := by decide +kernel
theorem dX0_askParts_103 : decode cX0_askParts 103 = .ok (.invokevirtual 167, 3) := by decide +kernel
theorem dX0_askParts_106 : decode cX0_askParts 106 = .ok (.iinc 2 1, 3) := by decide +kernel
theorem dX0_askParts_109 : decode cX0_askParts 109 = .ok (.goto (-107), 3) := by decide +kernel
theorem dX0_askParts_112 : decode cX0_askParts 112 = .ok (.return_, 1) := by decide +kernel
theorem dX0_decideDeals_0 : decode cX0_decideDeals 0 = .ok (.iconst 0, 1) := by decide +kernel
theorem dX0_decideDeals_1 : decode cX0_decideDeals 1 = .ok (.istore_n 1, 1) := by decide +kernel
theorem dX0_decideDeals_2 : decode cX0_decideDeals 2 = .ok (.iload_n 1, 1) := by decide +kernel
theorem dX0_decideDeals_3 : decode cX0_decideDeals 3 = .ok (.aload_n 0, 1) := by decide +kernel
theorem dX0_decideDeals_4 : decode cX0_decideDeals 4 = .ok (.getfield 48, 3) := by decide +kernel
theorem dX0_decideDeals_7 : decode cX0_decideDeals 7 = .ok (.getfield 92, 3) := by decide +kernel
theorem dX0_decideDeals_10 : decode cX0_decideDeals 10 = .ok (.if_icmp .ge 92, 3) := by decide +kernel
theorem dX0_decideDeals_13 : decode cX0_decideDeals 13 = .ok (.aload_n 0, 1) := by decide +kernel
theorem dX0_decideDeals_14 : decode cX0_decideDeals 14 = .ok (.getfield 36, 3) := by decide +kernel
theorem dX0_decideDeals_17 : decode cX0_decideDeals 17 = .ok (.iload_n 1, 1) := by decide +kernel
theorem dX0_decideDeals_18 : decode cX0_decideDeals 18 = .ok (.invokevirtual 78, 3) := by decide +kernel
theorem dX0_decideDeals_21 : decode cX0_decideDeals 21 = .ok (.iconst 1, 1) := by decide +kernel
theorem dX0_decideDeals_22 : decode cX0_decideDeals 22 = .ok (.if_icmp .ne 74, 3) := by decide +kernel
theorem dX0_decideDeals_25 : decode cX0_decideDeals 25 = .ok (.aload_n 0, 1) := by decide +kernel
theorem dX0_decideDeals_26 : decode cX0_decideDeals 26 = .ok (.iload_n 1, 1) := by decide +kernel
theorem dX0_decideDeals_27 : decode cX0_decideDeals 27 = .ok (.iconst 2, 1) := by decide +kernel
theorem dX0_decideDeals_28 : decode cX0_decideDeals 28 = .ok (.invokevirtual 170, 3) := by decide +kernel
theorem dX0_decideDeals_31 : decode cX0_decideDeals 31 = .ok (.ifCond .le 15, 3) := by decide +kernel
theorem dX0_decideDeals_34 : decode cX0_decideDeals 34 = .ok (.aload_n 0, 1) := by decide +kernel
theorem dX0_decideDeals_35 : decode cX0_decideDeals 35 = .ok (.getfield 36, 3) := by decide +kernel
theorem dX0_decideDeals_38 : decode cX0_decideDeals 38 = .ok (.iload_n 1, 1) := by decide +kernel
theorem dX0_decideDeals_39 : decode cX0_decideDeals 39 = .ok (.iconst 3, 1) := by decide +kernel
theorem dX0_decideDeals_40 : decode cX0_decideDeals 40 = .ok (.invokevirtual 115, 3) := by decide +kernel
theorem dX0_decideDeals_43 : decode cX0_decideDeals 43 = .ok (.goto 53, 3) := by decide +kernel
theorem dX0_decideDeals_46 : decode cX0_decideDeals 46 = .ok (.aload_n 0, 1) := by decide +kernel
theorem dX0_decideDeals_47 : decode cX0_decideDeals 47 = .ok (.iload_n 1, 1) := by decide +kernel
theorem dX0_decideDeals_48 : decode cX0_decideDeals 48 = .ok (.iconst 1, 1) := by decide +kernel
theorem dX0_decideDeals_49 : decode cX0_decideDeals 49 = .ok (.invokevirtual 170, 3) := by decide +kernel
theorem dX0_decideDeals_52 : decode cX0_decideDeals 52 = .ok (.aload_n 0, 1) := by decide +kernel
theorem dX0_decideDeals_53 : decode cX0_decideDeals 53 = .ok (.getfield 48, 3) := by decide +kernel
theorem dX0_decideDeals_56 : decode cX0_decideDeals 56 = .ok (.getfield 95, 3) := by decide +kernel
theorem dX0_decideDeals_59 : decode cX0_decideDeals 59 = .ok (.iload_n 1, 1) := by decide +kernel
theorem dX0_decideDeals_60 : decode cX0_decideDeals 60 = .ok (.invokevirtual 78, 3) := by decide +kernel
theorem dX0_decideDeals_63 : decode cX0_decideDeals 63 = .ok (.if_icmp .ne 15, 3) := by decide +kernel
theorem dX0_decideDeals_66 : decode cX0_decideDeals 66 = .ok (.aload_n 0, 1) := by decide +kernel
theorem dX0_decideDeals_67 : decode cX0_decideDeals 67 = .ok (.getfield 36, 3) := by decide +kernel
theorem dX0_decideDeals_70 : decode cX0_decideDeals 70 = .ok (.iload_n 1, 1) := by decide +kernel
theorem dX0_decideDeals_71 : decode cX0_decideDeals 71 = .ok (.iconst 2, 1) := by decide +kernel
theorem dX0_decideDeals_72 : decode cX0_decideDeals 72 = .ok (.invokevirtual 115, 3) := by decide +kernel
theorem dX0_decideDeals_75 : decode cX0_decideDeals 75 = .ok (.goto 21, 3) := by decide +kernel
theorem dX0_decideDeals_78 : decode cX0_decideDeals 78 = .ok (.aload_n 0, 1) := by decide +kernel
theorem dX0_decideDeals_79 : decode cX0_decideDeals 79 = .ok (.iload_n 1, 1) := by decide +kernel
theorem dX0_decideDeals_80 : decode cX0_decideDeals 80 = .ok (.invokevirtual 173, 3) := by decide +kernel
theorem dX0_decideDeals_83 : decode cX0_decideDeals 83 = .ok (.iconst 3, 1) := by decide +kernel
theorem dX0_decideDeals_84 : decode cX0_decideDeals 84 = .ok (.if_icmp .lt 12, 3) := by decide +kernel
theorem dX0_decideDeals_87 : decode cX0_decideDeals 87 = .ok (.aload_n 0, 1) := by decide +kernel
theorem dX0_decideDeals_88 : decode cX0_decideDeals 88 = .ok (.getfield 36, 3) := by decide +kernel
theorem dX0_decideDeals_91 : decode cX0_decideDeals 91 = .ok (.iload_n 1, 1) := by decide +kernel
theorem dX0_decideDeals_92 : decode cX0_decideDeals 92 = .ok (.iconst 3, 1) := by decide +kernel
theorem dX0_decideDeals_93 : decode cX0_decideDeals 93 = .ok (.invokevirtual 115, 3) := by decide +kernel
theorem dX0_decideDeals_96 : decode cX0_decideDeals 96 = .ok (.iinc 1 1, 3) := by decide +kernel
theorem dX0_decideDeals_99 : decode cX0_decideDeals 99 = .ok (.goto (-97), 3) := by decide +kernel
theorem dX0_decideDeals_102 : decode cX0_decideDeals 102 = .ok (.return_, 1) := by decide +kernel
theorem dX0_spreadNews_0 : decode cX0_spreadNews 0 = .ok (.iconst 0, 1) := by decide +kernel
theorem dX0_spreadNews_1 : decode cX0_spreadNews 1 = .ok (.istore_n 1, 1) := by decide +kernel
theorem dX0_spreadNews_2 : decode cX0_spreadNews 2 = .ok (.iconst 0, 1) := by decide +kernel
theorem dX0_spreadNews_3 : decode cX0_spreadNews 3 = .ok (.istore_n 2, 1) := by decide +kernel
theorem dX0_spreadNews_4 : decode cX0_spreadNews 4 = .ok (.iload_n 2, 1) := by decide +kernel
theorem dX0_spreadNews_5 : decode cX0_spreadNews 5 = .ok (.aload_n 0, 1) := by decide +kernel
theorem dX0_spreadNews_6 : decode cX0_spreadNews 6 = .ok (.getfield 48, 3) := by decide +kernel
theorem dX0_spreadNews_9 : decode cX0_spreadNews 9 = .ok (.getfield 92, 3) := by decide +kernel
theorem dX0_spreadNews_12 : decode cX0_spreadNews 12 = .ok (.if_icmp .ge 36, 3) := by decide +kernel
theorem dX0_spreadNews_15 : decode cX0_spreadNews 15 = .ok (.aload_n 0, 1) := by decide +kernel
theorem dX0_spreadNews_16 : decode cX0_spreadNews 16 = .ok (.getfield 36, 3) := by decide +kernel
theorem dX0_spreadNews_19 : decode cX0_spreadNews 19 = .ok (.iload_n 2, 1) := by decide +kernel
theorem dX0_spreadNews_20 : decode cX0_spreadNews 20 = .ok (.invokevirtual 78, 3) := by decide +kernel
theorem dX0_spreadNews_23 : decode cX0_spreadNews 23 = .ok (.istore_n 3, 1) := by decide +kernel
theorem dX0_spreadNews_24 : decode cX0_spreadNews 24 = .ok (.iload_n 3, 1) := by decide +kernel
theorem dX0_spreadNews_25 : decode cX0_spreadNews 25 = .ok (.iconst 2, 1) := by decide +kernel
theorem dX0_spreadNews_26 : decode cX0_spreadNews 26 = .ok (.if_icmp .eq 8, 3) := by decide +kernel
theorem dX0_spreadNews_29 : decode cX0_spreadNews 29 = .ok (.iload_n 3, 1) := by decide +kernel
theorem dX0_spreadNews_30 : decode cX0_spreadNews 30 = .ok (.iconst 3, 1) := by decide +kernel
theorem dX0_spreadNews_31 : decode cX0_spreadNews 31 = .ok (.if_icmp .ne 11, 3) := by decide +kernel
theorem dX0_spreadNews_34 : decode cX0_spreadNews 34 = .ok (.iload_n 1, 1) := by decide +kernel
theorem dX0_spreadNews_35 : decode cX0_spreadNews 35 = .ok (.aload_n 0, 1) := by decide +kernel
theorem dX0_spreadNews_36 : decode cX0_spreadNews 36 = .ok (.iload_n 2, 1) := by decide +kernel
theorem dX0_spreadNews_37 : decode cX0_spreadNews 37 = .ok (.invokevirtual 176, 3) := by decide +kernel
theorem dX0_spreadNews_40 : decode cX0_spreadNews 40 = .ok (.iadd, 1) := by decide +kernel
theorem dX0_spreadNews_41 : decode cX0_spreadNews 41 = .ok (.istore_n 1, 1) := by decide +kernel
theorem dX0_spreadNews_42 : decode cX0_spreadNews 42 = .ok (.iinc 2 1, 3) := by decide +kernel
theorem dX0_spreadNews_45 : decode cX0_spreadNews 45 = .ok (.goto (-41), 3) := by decide +kernel
theorem dX0_spreadNews_48 : decode cX0_spreadNews 48 = .ok (.iload_n 1, 1) := by decide +kernel
theorem dX0_spreadNews_49 : decode cX0_spreadNews 49 = .ok (.ireturn, 1) := by decide +kernel
theorem dX0_tellParts_0 : decode cX0_tellParts 0 = .ok (.iconst 0, 1) := by decide +kernel
theorem dX0_tellParts_1 : decode cX0_tellParts 1 = .ok (.istore_n 2, 1) := by decide +kernel
theorem dX0_tellParts_2 : decode cX0_tellParts 2 = .ok (.iconst 0, 1) := by decide +kernel
theorem dX0_tellParts_3 : decode cX0_tellParts 3 = .ok (.istore_n 3, 1) := by decide +kernel
theorem dX0_tellParts_4 : decode cX0_tellParts 4 = .ok (.iload_n 3, 1) := by decide +kernel
theorem dX0_tellParts_5 : decode cX0_tellParts 5 = .ok (.aload_n 0, 1) := by decide +kernel
theorem dX0_tellParts_6 : decode cX0_tellParts 6 = .ok (.getfield 48, 3) := by decide +kernel
theorem dX0_tellParts_9 : decode cX0_tellParts 9 = .ok (.getfield 95, 3) := by decide +kernel
theorem dX0_tellParts_12 : decode cX0_tellParts 12 = .ok (.iload_n 1, 1) := by decide +kernel
theorem dX0_tellParts_13 : decode cX0_tellParts 13 = .ok (.invokevirtual 78, 3) := by decide +kernel
theorem dX0_tellParts_16 : decode cX0_tellParts 16 = .ok (.if_icmp .ge 84, 3) := by decide +kernel
theorem dX0_tellParts_19 : decode cX0_tellParts 19 = .ok (.iload_n 1, 1) := by decide +kernel
theorem dX0_tellParts_20 : decode cX0_tellParts 20 = .ok (.iload_n 3, 1) := by decide +kernel
theorem dX0_tellParts_21 : decode cX0_tellParts 21 = .ok (.invokestatic 98, 3) := by decide +kernel
theorem dX0_tellParts_24 : decode cX0_tellParts 24 = .ok (.istore 4, 2) := by decide +kernel
theorem dX0_tellParts_26 : decode cX0_tellParts 26 = .ok (.aload_n 0, 1) := by decide +kernel
theorem dX0_tellParts_27 : decode cX0_tellParts 27 = .ok (.aload_n 0, 1) := by decide +kernel
theorem dX0_tellParts_28 : decode cX0_tellParts 28 = .ok (.getfield 48, 3) := by decide +kernel
theorem dX0_tellParts_31 : decode cX0_tellParts 31 = .ok (.getfield 106, 3) := by decide +kernel
theorem dX0_tellParts_34 : decode cX0_tellParts 34 = .ok (.iload 4, 2) := by decide +kernel
theorem dX0_tellParts_36 : decode cX0_tellParts 36 = .ok (.invokevirtual 78, 3) := by decide +kernel
theorem dX0_tellParts_39 : decode cX0_tellParts 39 = .ok (.invokevirtual 119, 3) := by decide +kernel
theorem dX0_tellParts_42 : decode cX0_tellParts 42 = .ok (.ifCond .eq 19, 3) := by decide +kernel
theorem dX0_tellParts_45 : decode cX0_tellParts 45 = .ok (.aload_n 0, 1) := by decide +kernel
theorem dX0_tellParts_46 : decode cX0_tellParts 46 = .ok (.getfield 45, 3) := by decide +kernel
theorem dX0_tellParts_49 : decode cX0_tellParts 49 = .ok (.iload 4, 2) := by decide +kernel
theorem dX0_tellParts_51 : decode cX0_tellParts 51 = .ok (.invokevirtual 78, 3) := by decide +kernel
theorem dX0_tellParts_54 : decode cX0_tellParts 54 = .ok (.ifCond .ne 7, 3) := by decide +kernel
theorem dX0_tellParts_57 : decode cX0_tellParts 57 = .ok (.iconst 1, 1) := by decide +kernel
theorem dX0_tellParts_58 : decode cX0_tellParts 58 = .ok (.goto 4, 3) := by decide +kernel
theorem dX0_tellParts_61 : decode cX0_tellParts 61 = .ok (.iconst 0, 1) := by decide +kernel
theorem dX0_tellParts_62 : decode cX0_tellParts 62 = .ok (.istore 5, 2) := by decide +kernel
theorem dX0_tellParts_64 : decode cX0_tellParts 64 = .ok (.iload 5, 2) := by decide +kernel
theorem dX0_tellParts_66 : decode cX0_tellParts 66 = .ok (.ifCond .eq 28, 3) := by decide +kernel
theorem dX0_tellParts_69 : decode cX0_tellParts 69 = .ok (.aload_n 0, 1) := by decide +kernel
theorem dX0_tellParts_70 : decode cX0_tellParts 70 = .ok (.getfield 74, 3) := by decide +kernel
theorem dX0_tellParts_73 : decode cX0_tellParts 73 = .ok (.ifCond .ne 11, 3) := by decide +kernel
theorem dX0_tellParts_76 : decode cX0_tellParts 76 = .ok (.aload_n 0, 1) := by decide +kernel
theorem dX0_tellParts_77 : decode cX0_tellParts 77 = .ok (.iload_n 1, 1) := by decide +kernel
theorem dX0_tellParts_78 : decode cX0_tellParts 78 = .ok (.invokevirtual 179, 3) := by decide +kernel
theorem dX0_tellParts_81 : decode cX0_tellParts 81 = .ok (.ifCond .eq 13, 3) := by decide +kernel
theorem dX0_tellParts_84 : decode cX0_tellParts 84 = .ok (.aload_n 0, 1) := by decide +kernel
theorem dX0_tellParts_85 : decode cX0_tellParts 85 = .ok (.iload_n 1, 1) := by decide +kernel
theorem dX0_tellParts_86 : decode cX0_tellParts 86 = .ok (.iload 4, 2) := by decide +kernel
theorem dX0_tellParts_88 : decode cX0_tellParts 88 = .ok (.invokevirtual 182, 3) := by decide +kernel
theorem dX0_tellParts_91 : decode cX0_tellParts 91 = .ok (.iinc 2 1, 3) := by decide +kernel
theorem dX0_tellParts_94 : decode cX0_tellParts 94 = .ok (.iinc 3 1, 3) := by decide +kernel
theorem dX0_tellParts_97 : decode cX0_tellParts 97 = .ok (.goto (-93), 3) := by decide +kernel
theorem dX0_tellParts_100 : decode cX0_tellParts 100 = .ok (.iload_n 2, 1) := by decide +kernel
theorem dX0_tellParts_101 : decode cX0_tellParts 101 = .ok (.ireturn, 1) := by decide +kernel
theorem dX0_someoneKnows_0 : decode cX0_someoneKnows 0 = .ok (.iconst 0, 1) := by decide +kernel
theorem dX0_someoneKnows_1 : decode cX0_someoneKnows 1 = .ok (.istore_n 2, 1) := by decide +kernel
theorem dX0_someoneKnows_2 : decode cX0_someoneKnows 2 = .ok (.iload_n 2, 1) := by decide +kernel
theorem dX0_someoneKnows_3 : decode cX0_someoneKnows 3 = .ok (.aload_n 0, 1) := by decide +kernel
theorem dX0_someoneKnows_4 : decode cX0_someoneKnows 4 = .ok (.getfield 48, 3) := by decide +kernel
theorem dX0_someoneKnows_7 : decode cX0_someoneKnows 7 = .ok (.getfield 95, 3) := by decide +kernel
theorem dX0_someoneKnows_10 : decode cX0_someoneKnows 10 = .ok (.iload_n 1, 1) := by decide +kernel
theorem dX0_someoneKnows_11 : decode cX0_someoneKnows 11 = .ok (.invokevirtual 78, 3) := by decide +kernel
theorem dX0_someoneKnows_14 : decode cX0_someoneKnows 14 = .ok (.if_icmp .ge 46, 3) := by decide +kernel
theorem dX0_someoneKnows_17 : decode cX0_someoneKnows 17 = .ok (.iload_n 1, 1) := by decide +kernel
theorem dX0_someoneKnows_18 : decode cX0_someoneKnows 18 = .ok (.iload_n 2, 1) := by decide +kernel
theorem dX0_someoneKnows_19 : decode cX0_someoneKnows 19 = .ok (.invokestatic 98, 3) := by decide +kernel
theorem dX0_someoneKnows_22 : decode cX0_someoneKnows 22 = .ok (.istore_n 3, 1) := by decide +kernel
theorem dX0_someoneKnows_23 : decode cX0_someoneKnows 23 = .ok (.aload_n 0, 1) := by decide +kernel
theorem dX0_someoneKnows_24 : decode cX0_someoneKnows 24 = .ok (.getfield 45, 3) := by decide +kernel
theorem dX0_someoneKnows_27 : decode cX0_someoneKnows 27 = .ok (.iload_n 3, 1) := by decide +kernel
theorem dX0_someoneKnows_28 : decode cX0_someoneKnows 28 = .ok (.invokevirtual 78, 3) := by decide +kernel
theorem dX0_someoneKnows_31 : decode cX0_someoneKnows 31 = .ok (.ifCond .eq 23, 3) := by decide +kernel
theorem dX0_someoneKnows_34 : decode cX0_someoneKnows 34 = .ok (.aload_n 0, 1) := by decide +kernel
theorem dX0_someoneKnows_35 : decode cX0_someoneKnows 35 = .ok (.aload_n 0, 1) := by decide +kernel
theorem dX0_someoneKnows_36 : decode cX0_someoneKnows 36 = .ok (.getfield 48, 3) := by decide +kernel
theorem dX0_someoneKnows_39 : decode cX0_someoneKnows 39 = .ok (.getfield 106, 3) := by decide +kernel
theorem dX0_someoneKnows_42 : decode cX0_someoneKnows 42 = .ok (.iload_n 3, 1) := by decide +kernel
theorem dX0_someoneKnows_43 : decode cX0_someoneKnows 43 = .ok (.invokevirtual 78, 3) := by decide +kernel
theorem dX0_someoneKnows_46 : decode cX0_someoneKnows 46 = .ok (.invokevirtual 119, 3) := by decide +kernel
theorem dX0_someoneKnows_49 : decode cX0_someoneKnows 49 = .ok (.ifCond .eq 5, 3) := by decide +kernel
theorem dX0_someoneKnows_52 : decode cX0_someoneKnows 52 = .ok (.iconst 1, 1) := by decide +kernel
theorem dX0_someoneKnows_53 : decode cX0_someoneKnows 53 = .ok (.ireturn, 1) := by decide +kernel
theorem dX0_someoneKnows_54 : decode cX0_someoneKnows 54 = .ok (.iinc 2 1, 3) := by decide +kernel
theorem dX0_someoneKnows_57 : decode cX0_someoneKnows 57 = .ok (.goto (-55), 3) := by decide +kernel
theorem dX0_someoneKnows_60 : decode cX0_someoneKnows 60 = .ok (.iconst 0, 1) := by decide +kernel
theorem dX0_someoneKnows_61 : decode cX0_someoneKnows 61 = .ok (.ireturn, 1) := by decide +kernel
theorem dX0_hear_0 : decode cX0_hear 0 = .ok (.aload_n 0, 1) := by decide +kernel
theorem dX0_hear_1 : decode cX0_hear 1 = .ok (.getfield 48, 3) := by decide +kernel
theorem dX0_hear_4 : decode cX0_hear 4 = .ok (.getfield 106, 3) := by decide +kernel
theorem dX0_hear_7 : decode cX0_hear 7 = .ok (.iload_n 2, 1) := by decide +kernel
theorem dX0_hear_8 : decode cX0_hear 8 = .ok (.invokevirtual 78, 3) := by decide +kernel
theorem dX0_hear_11 : decode cX0_hear 11 = .ok (.istore_n 3, 1) := by decide +kernel
theorem dX0_hear_12 : decode cX0_hear 12 = .ok (.aload_n 0, 1) := by decide +kernel
theorem dX0_hear_13 : decode cX0_hear 13 = .ok (.getfield 45, 3) := by decide +kernel
theorem dX0_hear_16 : decode cX0_hear 16 = .ok (.iload_n 2, 1) := by decide +kernel
theorem dX0_hear_17 : decode cX0_hear 17 = .ok (.iconst 1, 1) := by decide +kernel
theorem dX0_hear_18 : decode cX0_hear 18 = .ok (.invokevirtual 115, 3) := by decide +kernel
theorem dX0_hear_21 : decode cX0_hear 21 = .ok (.aload_n 0, 1) := by decide +kernel
theorem dX0_hear_22 : decode cX0_hear 22 = .ok (.getfield 33, 3) := by decide +kernel
theorem dX0_hear_25 : decode cX0_hear 25 = .ok (.iload_n 3, 1) := by decide +kernel
theorem dX0_hear_26 : decode cX0_hear 26 = .ok (.iconst 1, 1) := by decide +kernel
theorem dX0_hear_27 : decode cX0_hear 27 = .ok (.invokevirtual 167, 3) := by decide +kernel
theorem dX0_hear_30 : decode cX0_hear 30 = .ok (.aload_n 0, 1) := by decide +kernel
theorem dX0_hear_31 : decode cX0_hear 31 = .ok (.getfield 36, 3) := by decide +kernel
theorem dX0_hear_34 : decode cX0_hear 34 = .ok (.iload_n 1, 1) := by decide +kernel
theorem dX0_hear_35 : decode cX0_hear 35 = .ok (.invokevirtual 78, 3) := by decide +kernel
theorem dX0_hear_38 : decode cX0_hear 38 = .ok (.iconst 2, 1) := by decide +kernel
theorem dX0_hear_39 : decode cX0_hear 39 = .ok (.if_icmp .ne 22, 3) := by decide +kernel
theorem dX0_hear_42 : decode cX0_hear 42 = .ok (.aload_n 0, 1) := by decide +kernel
theorem dX0_hear_43 : decode cX0_hear 43 = .ok (.getfield 23, 3) := by decide +kernel
theorem dX0_hear_46 : decode cX0_hear 46 = .ok (.iload_n 3, 1) := by decide +kernel
theorem dX0_hear_47 : decode cX0_hear 47 = .ok (.aload_n 0, 1) := by decide +kernel
theorem dX0_hear_48 : decode cX0_hear 48 = .ok (.getfield 48, 3) := by decide +kernel
theorem dX0_hear_51 : decode cX0_hear 51 = .ok (.getfield 109, 3) := by decide +kernel
theorem dX0_hear_54 : decode cX0_hear 54 = .ok (.iload_n 2, 1) := by decide +kernel
theorem dX0_hear_55 : decode cX0_hear 55 = .ok (.invokevirtual 78, 3) := by decide +kernel
theorem dX0_hear_58 : decode cX0_hear 58 = .ok (.invokevirtual 167, 3) := by decide +kernel
theorem dX0_hear_61 : decode cX0_hear 61 = .ok (.aload_n 0, 1) := by decide +kernel
theorem dX0_hear_62 : decode cX0_hear 62 = .ok (.getfield 30, 3) := by decide +kernel
theorem dX0_hear_65 : decode cX0_hear 65 = .ok (.iload_n 3, 1) := by decide +kernel
theorem dX0_hear_66 : decode cX0_hear 66 = .ok (.invokevirtual 78, 3) := by decide +kernel
theorem dX0_hear_69 : decode cX0_hear 69 = .ok (.iload_n 1, 1) := by decide +kernel
theorem dX0_hear_70 : decode cX0_hear 70 = .ok (.if_icmp .ne 12, 3) := by decide +kernel
theorem dX0_hear_73 : decode cX0_hear 73 = .ok (.aload_n 0, 1) := by decide +kernel
theorem dX0_hear_74 : decode cX0_hear 74 = .ok (.getfield 30, 3) := by decide +kernel
theorem dX0_hear_77 : decode cX0_hear 77 = .ok (.iload_n 3, 1) := by decide +kernel
theorem dX0_hear_78 : decode cX0_hear 78 = .ok (.iconst (-1), 1) := by decide +kernel
theorem dX0_hear_79 : decode cX0_hear 79 = .ok (.invokevirtual 115, 3) := by decide +kernel
theorem dX0_hear_82 : decode cX0_hear 82 = .ok (.return_, 1) := by decide +kernel
theorem dX1_init_0 : decode cX1_init 0 = .ok (.aload_n 0, 1) := by decide +kernel
theorem dX1_init_1 : decode cX1_init 1 = .ok (.invokespecial 3, 3) := by decide +kernel
theorem dX1_init_4 : decode cX1_init 4 = .ok (.aload_n 0, 1) := by decide +kernel
theorem dX1_init_5 : decode cX1_init 5 = .ok (.iload_n 1, 1) := by decide +kernel
theorem dX1_init_6 : decode cX1_init 6 = .ok (.ifCond .ge 7, 3) := by decide +kernel
theorem dX1_init_9 : decode cX1_init 9 = .ok (.iconst 0, 1) := by decide +kernel
theorem dX1_init_10 : decode cX1_init 10 = .ok (.goto 4, 3) := by decide +kernel
theorem dX1_init_13 : decode cX1_init 13 = .ok (.iload_n 1, 1) := by decide +kernel
theorem dX1_init_14 : decode cX1_init 14 = .ok (.newarray .long, 2) := by decide +kernel
theorem dX1_init_16 : decode cX1_init 16 = .ok (.putfield 9, 3) := by decide +kernel
theorem dX1_init_19 : decode cX1_init 19 = .ok (.return_, 1) := by decide +kernel
theorem dX1_add_0 : decode cX1_add 0 = .ok (.aload_n 0, 1) := by decide +kernel
theorem dX1_add_1 : decode cX1_add 1 = .ok (.getfield 15, 3) := by decide +kernel
theorem dX1_add_4 : decode cX1_add 4 = .ok (.ifCond .lt 35, 3) := by decide +kernel
theorem dX1_add_7 : decode cX1_add 7 = .ok (.aload_n 0, 1) := by decide +kernel
theorem dX1_add_8 : decode cX1_add 8 = .ok (.getfield 15, 3) := by decide +kernel
theorem dX1_add_11 : decode cX1_add 11 = .ok (.aload_n 0, 1) := by decide +kernel
theorem dX1_add_12 : decode cX1_add 12 = .ok (.getfield 9, 3) := by decide +kernel
theorem dX1_add_15 : decode cX1_add 15 = .ok (.arraylength, 1) := by decide +kernel
theorem dX1_add_16 : decode cX1_add 16 = .ok (.if_icmp .ge 23, 3) := by decide +kernel
theorem dX1_add_19 : decode cX1_add 19 = .ok (.aload_n 0, 1) := by decide +kernel
theorem dX1_add_20 : decode cX1_add 20 = .ok (.getfield 9, 3) := by decide +kernel
theorem dX1_add_23 : decode cX1_add 23 = .ok (.aload_n 0, 1) := by decide +kernel
theorem dX1_add_24 : decode cX1_add 24 = .ok (.getfield 15, 3) := by decide +kernel
theorem dX1_add_27 : decode cX1_add 27 = .ok (.lload_n 1, 1) := by decide +kernel
theorem dX1_add_28 : decode cX1_add 28 = .ok (.lastore, 1) := by decide +kernel
theorem dX1_add_29 : decode cX1_add 29 = .ok (.aload_n 0, 1) := by decide +kernel
theorem dX1_add_30 : decode cX1_add 30 = .ok (.dup, 1) := by decide +kernel
theorem dX1_add_31 : decode cX1_add 31 = .ok (.getfield 15, 3) := by decide +kernel
theorem dX1_add_34 : decode cX1_add 34 = .ok (.iconst 1, 1) := by decide +kernel
theorem dX1_add_35 : decode cX1_add 35 = .ok (.iadd, 1) := by decide +kernel
theorem dX1_add_36 : decode cX1_add 36 = .ok (.putfield 15, 3) := by decide +kernel
theorem dX1_add_39 : decode cX1_add 39 = .ok (.return_, 1) := by decide +kernel
theorem dX1_isFull_0 : decode cX1_isFull 0 = .ok (.aload_n 0, 1) := by decide +kernel
theorem dX1_isFull_1 : decode cX1_isFull 1 = .ok (.getfield 15, 3) := by decide +kernel
theorem dX1_isFull_4 : decode cX1_isFull 4 = .ok (.aload_n 0, 1) := by decide +kernel
theorem dX1_isFull_5 : decode cX1_isFull 5 = .ok (.getfield 9, 3) := by decide +kernel
theorem dX1_isFull_8 : decode cX1_isFull 8 = .ok (.arraylength, 1) := by decide +kernel
theorem dX1_isFull_9 : decode cX1_isFull 9 = .ok (.if_icmp .lt 7, 3) := by decide +kernel
theorem dX1_isFull_12 : decode cX1_isFull 12 = .ok (.iconst 1, 1) := by decide +kernel
theorem dX1_isFull_13 : decode cX1_isFull 13 = .ok (.goto 4, 3) := by decide +kernel
theorem dX1_isFull_16 : decode cX1_isFull 16 = .ok (.iconst 0, 1) := by decide +kernel
theorem dX1_isFull_17 : decode cX1_isFull 17 = .ok (.ireturn, 1) := by decide +kernel
theorem dX1_find_0 : decode cX1_find 0 = .ok (.iconst 0, 1) := by decide +kernel
theorem dX1_find_1 : decode cX1_find 1 = .ok (.istore_n 3, 1) := by decide +kernel
theorem dX1_find_2 : decode cX1_find 2 = .ok (.iload_n 3, 1) := by decide +kernel
theorem dX1_find_3 : decode cX1_find 3 = .ok (.aload_n 0, 1) := by decide +kernel
theorem dX1_find_4 : decode cX1_find 4 = .ok (.getfield 15, 3) := by decide +kernel
theorem dX1_find_7 : decode cX1_find 7 = .ok (.if_icmp .ge 31, 3) := by decide +kernel
theorem dX1_find_10 : decode cX1_find 10 = .ok (.iload_n 3, 1) := by decide +kernel
theorem dX1_find_11 : decode cX1_find 11 = .ok (.aload_n 0, 1) := by decide +kernel
theorem dX1_find_12 : decode cX1_find 12 = .ok (.getfield 9, 3) := by decide +kernel
theorem dX1_find_15 : decode cX1_find 15 = .ok (.arraylength, 1) := by decide +kernel
theorem dX1_find_16 : decode cX1_find 16 = .ok (.if_icmp .ge 22, 3) := by decide +kernel
theorem dX1_find_19 : decode cX1_find 19 = .ok (.aload_n 0, 1) := by decide +kernel
theorem dX1_find_20 : decode cX1_find 20 = .ok (.getfield 9, 3) := by decide +kernel
theorem dX1_find_23 : decode cX1_find 23 = .ok (.iload_n 3, 1) := by decide +kernel
theorem dX1_find_24 : decode cX1_find 24 = .ok (.laload, 1) := by decide +kernel
theorem dX1_find_25 : decode cX1_find 25 = .ok (.lload_n 1, 1) := by decide +kernel
theorem dX1_find_26 : decode cX1_find 26 = .ok (.lcmp, 1) := by decide +kernel
theorem dX1_find_27 : decode cX1_find 27 = .ok (.ifCond .ne 5, 3) := by decide +kernel
theorem dX1_find_30 : decode cX1_find 30 = .ok (.iload_n 3, 1) := by decide +kernel
theorem dX1_find_31 : decode cX1_find 31 = .ok (.ireturn, 1) := by decide +kernel
theorem dX1_find_32 : decode cX1_find 32 = .ok (.iinc 3 1, 3) := by decide +kernel
theorem dX1_find_35 : decode cX1_find 35 = .ok (.goto (-33), 3) := by decide +kernel
theorem dX1_find_38 : decode cX1_find 38 = .ok (.iconst (-1), 1) := by decide +kernel
theorem dX1_find_39 : decode cX1_find 39 = .ok (.ireturn, 1) := by decide +kernel
theorem dX2_init_0 : decode cX2_init 0 = .ok (.aload_n 0, 1) := by decide +kernel
theorem dX2_init_1 : decode cX2_init 1 = .ok (.invokespecial 3, 3) := by decide +kernel
theorem dX2_init_4 : decode cX2_init 4 = .ok (.aload_n 0, 1) := by decide +kernel
theorem dX2_init_5 : decode cX2_init 5 = .ok (.new 9, 3) := by decide +kernel
theorem dX2_init_8 : decode cX2_init 8 = .ok (.dup, 1) := by decide +kernel
theorem dX2_init_9 : decode cX2_init 9 = .ok (.bipush 8, 2) := by decide +kernel
theorem dX2_init_11 : decode cX2_init 11 = .ok (.invokespecial 11, 3) := by decide +kernel
theorem dX2_init_14 : decode cX2_init 14 = .ok (.putfield 14, 3) := by decide +kernel
theorem dX2_init_17 : decode cX2_init 17 = .ok (.aload_n 0, 1) := by decide +kernel
theorem dX2_init_18 : decode cX2_init 18 = .ok (.new 9, 3) := by decide +kernel
theorem dX2_init_21 : decode cX2_init 21 = .ok (.dup, 1) := by decide +kernel
theorem dX2_init_22 : decode cX2_init 22 = .ok (.bipush 6, 2) := by decide +kernel
theorem dX2_init_24 : decode cX2_init 24 = .ok (.invokespecial 11, 3) := by decide +kernel
theorem dX2_init_27 : decode cX2_init 27 = .ok (.putfield 20, 3) := by decide +kernel
theorem dX2_init_30 : decode cX2_init 30 = .ok (.aload_n 0, 1) := by decide +kernel
theorem dX2_init_31 : decode cX2_init 31 = .ok (.new 9, 3) := by decide +kernel
theorem dX2_init_34 : decode cX2_init 34 = .ok (.dup, 1) := by decide +kernel
theorem dX2_init_35 : decode cX2_init 35 = .ok (.bipush 36, 2) := by decide +kernel
theorem dX2_init_37 : decode cX2_init 37 = .ok (.invokespecial 11, 3) := by decide +kernel
theorem dX2_init_40 : decode cX2_init 40 = .ok (.putfield 23, 3) := by decide +kernel
theorem dX2_init_43 : decode cX2_init 43 = .ok (.aload_n 0, 1) := by decide +kernel
theorem dX2_init_44 : decode cX2_init 44 = .ok (.new 9, 3) := by decide +kernel
theorem dX2_init_47 : decode cX2_init 47 = .ok (.dup, 1) := by decide +kernel
theorem dX2_init_48 : decode cX2_init 48 = .ok (.bipush 36, 2) := by decide +kernel
theorem dX2_init_50 : decode cX2_init 50 = .ok (.invokespecial 11, 3) := by decide +kernel
theorem dX2_init_53 : decode cX2_init 53 = .ok (.putfield 26, 3) := by decide +kernel
theorem dX2_init_56 : decode cX2_init 56 = .ok (.aload_n 0, 1) := by decide +kernel
theorem dX2_init_57 : decode cX2_init 57 = .ok (.new 9, 3) := by decide +kernel
theorem dX2_init_60 : decode cX2_init 60 = .ok (.dup, 1) := by decide +kernel
theorem dX2_init_61 : decode cX2_init 61 = .ok (.bipush 16, 2) := by decide +kernel
theorem dX2_init_63 : decode cX2_init 63 = .ok (.invokespecial 11, 3) := by decide +kernel
theorem dX2_init_66 : decode cX2_init 66 = .ok (.putfield 29, 3) := by decide +kernel
theorem dX2_init_69 : decode cX2_init 69 = .ok (.aload_n 0, 1) := by decide +kernel
theorem dX2_init_70 : decode cX2_init 70 = .ok (.new 9, 3) := by decide +kernel
theorem dX2_init_73 : decode cX2_init 73 = .ok (.dup, 1) := by decide +kernel
theorem dX2_init_74 : decode cX2_init 74 = .ok (.bipush 16, 2) := by decide +kernel
theorem dX2_init_76 : decode cX2_init 76 = .ok (.invokespecial 11, 3) := by decide +kernel
theorem dX2_init_79 : decode cX2_init 79 = .ok (.putfield 32, 3) := by decide +kernel
theorem dX2_init_82 : decode cX2_init 82 = .ok (.aload_n 0, 1) := by decide +kernel
theorem dX2_init_83 : decode cX2_init 83 = .ok (.new 9, 3) := by decide +kernel
theorem dX2_init_86 : decode cX2_init 86 = .ok (.dup, 1) := by decide +kernel
theorem dX2_init_87 : decode cX2_init 87 = .ok (.bipush 16, 2) := by decide +kernel
theorem dX2_init_89 : decode cX2_init 89 = .ok (.invokespecial 11, 3) := by decide +kernel
theorem dX2_init_92 : decode cX2_init 92 = .ok (.putfield 35, 3) := by decide +kernel
theorem dX2_init_95 : decode cX2_init 95 = .ok (.aload_n 0, 1) := by decide +kernel
theorem dX2_init_96 : decode cX2_init 96 = .ok (.new 9, 3) := by decide +kernel
theorem dX2_init_99 : decode cX2_init 99 = .ok (.dup, 1) := by decide +kernel
theorem dX2_init_100 : decode cX2_init 100 = .ok (.bipush 16, 2) := by decide +kernel
theorem dX2_init_102 : decode cX2_init 102 = .ok (.invokespecial 11, 3) := by decide +kernel
theorem dX2_init_105 : decode cX2_init 105 = .ok (.putfield 38, 3) := by decide +kernel
theorem dX2_init_108 : decode cX2_init 108 = .ok (.aload_n 0, 1) := by decide +kernel
theorem dX2_init_109 : decode cX2_init 109 = .ok (.new 9, 3) := by decide +kernel
theorem dX2_init_112 : decode cX2_init 112 = .ok (.dup, 1) := by decide +kernel
theorem dX2_init_113 : decode cX2_init 113 = .ok (.sipush 400, 3) := by decide +kernel
theorem dX2_init_116 : decode cX2_init 116 = .ok (.invokespecial 11, 3) := by decide +kernel
theorem dX2_init_119 : decode cX2_init 119 = .ok (.putfield 41, 3) := by decide +kernel
theorem dX2_init_122 : decode cX2_init 122 = .ok (.aload_n 0, 1) := by decide +kernel
theorem dX2_init_123 : decode cX2_init 123 = .ok (.new 9, 3) := by decide +kernel
theorem dX2_init_126 : decode cX2_init 126 = .ok (.dup, 1) := by decide +kernel
theorem dX2_init_127 : decode cX2_init 127 = .ok (.sipush 400, 3) := by decide +kernel
theorem dX2_init_130 : decode cX2_init 130 = .ok (.invokespecial 11, 3) := by decide +kernel
theorem dX2_init_133 : decode cX2_init 133 = .ok (.putfield 44, 3) := by decide +kernel
theorem dX2_init_136 : decode cX2_init 136 = .ok (.return_, 1) := by decide +kernel
theorem dX2_clear_0 : decode cX2_clear 0 = .ok (.aload_n 0, 1) := by decide +kernel
theorem dX2_clear_1 : decode cX2_clear 1 = .ok (.iconst 0, 1) := by decide +kernel
theorem dX2_clear_2 : decode cX2_clear 2 = .ok (.putfield 47, 3) := by decide +kernel
theorem dX2_clear_5 : decode cX2_clear 5 = .ok (.aload_n 0, 1) := by decide +kernel
theorem dX2_clear_6 : decode cX2_clear 6 = .ok (.iconst 0, 1) := by decide +kernel
theorem dX2_clear_7 : decode cX2_clear 7 = .ok (.putfield 51, 3) := by decide +kernel
theorem dX2_clear_10 : decode cX2_clear 10 = .ok (.aload_n 0, 1) := by decide +kernel
theorem dX2_clear_11 : decode cX2_clear 11 = .ok (.iconst 0, 1) := by decide +kernel
theorem dX2_clear_12 : decode cX2_clear 12 = .ok (.putfield 54, 3) := by decide +kernel
theorem dX2_clear_15 : decode cX2_clear 15 = .ok (.aload_n 0, 1) := by decide +kernel
theorem dX2_clear_16 : decode cX2_clear 16 = .ok (.iconst 0, 1) := by decide +kernel
theorem dX2_clear_17 : decode cX2_clear 17 = .ok (.putfield 57, 3) := by decide +kernel
theorem dX2_clear_20 : decode cX2_clear 20 = .ok (.return_, 1) := by decide +kernel
theorem dX2_addCode_0 : decode cX2_addCode 0 = .ok (.aload_n 0, 1) := by decide +kernel
theorem dX2_addCode_1 : decode cX2_addCode 1 = .ok (.getfield 41, 3) := by decide +kernel
theorem dX2_addCode_4 : decode cX2_addCode 4 = .ok (.aload_n 0, 1) := by decide +kernel
theorem dX2_addCode_5 : decode cX2_addCode 5 = .ok (.getfield 57, 3) := by decide +kernel
theorem dX2_addCode_8 : decode cX2_addCode 8 = .ok (.iload_n 1, 1) := by decide +kernel
theorem dX2_addCode_9 : decode cX2_addCode 9 = .ok (.invokevirtual 60, 3) := by decide +kernel
theorem dX2_addCode_12 : decode cX2_addCode 12 = .ok (.aload_n 0, 1) := by decide +kernel
theorem dX2_addCode_13 : decode cX2_addCode 13 = .ok (.getfield 44, 3) := by decide +kernel
theorem dX2_addCode_16 : decode cX2_addCode 16 = .ok (.aload_n 0, 1) := by decide +kernel
theorem dX2_addCode_17 : decode cX2_addCode 17 = .ok (.getfield 57, 3) := by decide +kernel
theorem dX2_addCode_20 : decode cX2_addCode 20 = .ok (.iload_n 2, 1) := by decide +kernel
theorem dX2_addCode_21 : decode cX2_addCode 21 = .ok (.invokevirtual 60, 3) := by decide +kernel
theorem dX2_addCode_24 : decode cX2_addCode 24 = .ok (.aload_n 0, 1) := by decide +kernel
theorem dX2_addCode_25 : decode cX2_addCode 25 = .ok (.dup, 1) := by decide +kernel
theorem dX2_addCode_26 : decode cX2_addCode 26 = .ok (.getfield 57, 3) := by decide +kernel
theorem dX2_addCode_29 : decode cX2_addCode 29 = .ok (.iconst 1, 1) := by decide +kernel
theorem dX2_addCode_30 : decode cX2_addCode 30 = .ok (.iadd, 1) := by decide +kernel
theorem dX2_addCode_31 : decode cX2_addCode 31 = .ok (.putfield 57, 3) := by decide +kernel
theorem dX2_addCode_34 : decode cX2_addCode 34 = .ok (.return_, 1) := by decide +kernel
theorem dX2_addOrder_0 : decode cX2_addOrder 0 = .ok (.aload_n 0, 1) := by decide +kernel
theorem dX2_addOrder_1 : decode cX2_addOrder 1 = .ok (.getfield 29, 3) := by decide +kernel
theorem dX2_addOrder_4 : decode cX2_addOrder 4 = .ok (.aload_n 0, 1) := by decide +kernel
theorem dX2_addOrder_5 : decode cX2_addOrder 5 = .ok (.getfield 54, 3) := by decide +kernel
theorem dX2_addOrder_8 : decode cX2_addOrder 8 = .ok (.iload_n 1, 1) := by decide +kernel
theorem dX2_addOrder_9 : decode cX2_addOrder 9 = .ok (.invokevirtual 60, 3) := by decide +kernel
theorem dX2_addOrder_12 : decode cX2_addOrder 12 = .ok (.aload_n 0, 1) := by decide +kernel
theorem dX2_addOrder_13 : decode cX2_addOrder 13 = .ok (.getfield 32, 3) := by decide +kernel
theorem dX2_addOrder_16 : decode cX2_addOrder 16 = .ok (.aload_n 0, 1) := by decide +kernel
theorem dX2_addOrder_17 : decode cX2_addOrder 17 = .ok (.getfield 54, 3) := by decide +kernel
theorem dX2_addOrder_20 : decode cX2_addOrder 20 = .ok (.iload_n 2, 1) := by decide +kernel
theorem dX2_addOrder_21 : decode cX2_addOrder 21 = .ok (.invokevirtual 60, 3) := by decide +kernel
theorem dX2_addOrder_24 : decode cX2_addOrder 24 = .ok (.aload_n 0, 1) := by decide +kernel
theorem dX2_addOrder_25 : decode cX2_addOrder 25 = .ok (.getfield 35, 3) := by decide +kernel
theorem dX2_addOrder_28 : decode cX2_addOrder 28 = .ok (.aload_n 0, 1) := by decide +kernel
theorem dX2_addOrder_29 : decode cX2_addOrder 29 = .ok (.getfield 54, 3) := by decide +kernel
theorem dX2_addOrder_32 : decode cX2_addOrder 32 = .ok (.iload_n 3, 1) := by decide +kernel
theorem dX2_addOrder_33 : decode cX2_addOrder 33 = .ok (.invokevirtual 60, 3) := by decide +kernel
theorem dX2_addOrder_36 : decode cX2_addOrder 36 = .ok (.aload_n 0, 1) := by decide +kernel
theorem dX2_addOrder_37 : decode cX2_addOrder 37 = .ok (.getfield 38, 3) := by decide +kernel
theorem dX2_addOrder_40 : decode cX2_addOrder 40 = .ok (.aload_n 0, 1) := by decide +kernel
theorem dX2_addOrder_41 : decode cX2_addOrder 41 = .ok (.getfield 54, 3) := by decide +kernel
theorem dX2_addOrder_44 : decode cX2_addOrder 44 = .ok (.aload_n 0, 1) := by decide +kernel
theorem dX2_addOrder_45 : decode cX2_addOrder 45 = .ok (.getfield 57, 3) := by decide +kernel
theorem dX2_addOrder_48 : decode cX2_addOrder 48 = .ok (.invokevirtual 60, 3) := by decide +kernel
theorem dX2_addOrder_51 : decode cX2_addOrder 51 = .ok (.aload_n 0, 1) := by decide +kernel
theorem dX2_addOrder_52 : decode cX2_addOrder 52 = .ok (.dup, 1) := by decide +kernel
theorem dX2_addOrder_53 : decode cX2_addOrder 53 = .ok (.getfield 54, 3) := by decide +kernel
theorem dX2_addOrder_56 : decode cX2_addOrder 56 = .ok (.iconst 1, 1) := by decide +kernel
theorem dX2_addOrder_57 : decode cX2_addOrder 57 = .ok (.iadd, 1) := by decide +kernel
theorem dX2_addOrder_58 : decode cX2_addOrder 58 = .ok (.putfield 54, 3) := by decide +kernel
theorem dX2_addOrder_61 : decode cX2_addOrder 61 = .ok (.return_, 1) := by decide +kernel
theorem dX2_copyFrom_0 : decode cX2_copyFrom 0 = .ok (.aload_n 0, 1) := by decide +kernel
theorem dX2_copyFrom_1 : decode cX2_copyFrom 1 = .ok (.aload_n 1, 1) := by decide +kernel
theorem dX2_copyFrom_2 : decode cX2_copyFrom 2 = .ok (.getfield 47, 3) := by decide +kernel
theorem dX2_copyFrom_5 : decode cX2_copyFrom 5 = .ok (.putfield 47, 3) := by decide +kernel
theorem dX2_copyFrom_8 : decode cX2_copyFrom 8 = .ok (.aload_n 0, 1) := by decide +kernel
theorem dX2_copyFrom_9 : decode cX2_copyFrom 9 = .ok (.aload_n 1, 1) := by decide +kernel
theorem dX2_copyFrom_10 : decode cX2_copyFrom 10 = .ok (.getfield 51, 3) := by decide +kernel
theorem dX2_copyFrom_13 : decode cX2_copyFrom 13 = .ok (.putfield 51, 3) := by decide +kernel
theorem dX2_copyFrom_16 : decode cX2_copyFrom 16 = .ok (.aload_n 0, 1) := by decide +kernel
theorem dX2_copyFrom_17 : decode cX2_copyFrom 17 = .ok (.aload_n 1, 1) := by decide +kernel
theorem dX2_copyFrom_18 : decode cX2_copyFrom 18 = .ok (.getfield 54, 3) := by decide +kernel
theorem dX2_copyFrom_21 : decode cX2_copyFrom 21 = .ok (.putfield 54, 3) := by decide +kernel
theorem dX2_copyFrom_24 : decode cX2_copyFrom 24 = .ok (.aload_n 0, 1) := by decide +kernel
theorem dX2_copyFrom_25 : decode cX2_copyFrom 25 = .ok (.aload_n 1, 1) := by decide +kernel
theorem dX2_copyFrom_26 : decode cX2_copyFrom 26 = .ok (.getfield 57, 3) := by decide +kernel
theorem dX2_copyFrom_29 : decode cX2_copyFrom 29 = .ok (.putfield 57, 3) := by decide +kernel
theorem dX2_copyFrom_32 : decode cX2_copyFrom 32 = .ok (.aload_n 0, 1) := by decide +kernel
theorem dX2_copyFrom_33 : decode cX2_copyFrom 33 = .ok (.getfield 14, 3) := by decide +kernel
theorem dX2_copyFrom_36 : decode cX2_copyFrom 36 = .ok (.aload_n 1, 1) := by decide +kernel
theorem dX2_copyFrom_37 : decode cX2_copyFrom 37 = .ok (.getfield 14, 3) := by decide +kernel
theorem dX2_copyFrom_40 : decode cX2_copyFrom 40 = .ok (.invokevirtual 64, 3) := by decide +kernel
theorem dX2_copyFrom_43 : decode cX2_copyFrom 43 = .ok (.aload_n 0, 1) := by decide +kernel
theorem dX2_copyFrom_44 : decode cX2_copyFrom 44 = .ok (.getfield 20, 3) := by decide +kernel
theorem dX2_copyFrom_47 : decode cX2_copyFrom 47 = .ok (.aload_n 1, 1) := by decide +kernel
theorem dX2_copyFrom_48 : decode cX2_copyFrom 48 = .ok (.getfield 20, 3) := by decide +kernel
theorem dX2_copyFrom_51 : decode cX2_copyFrom 51 = .ok (.invokevirtual 64, 3) := by decide +kernel
theorem dX2_copyFrom_54 : decode cX2_copyFrom 54 = .ok (.aload_n 0, 1) := by decide +kernel
theorem dX2_copyFrom_55 : decode cX2_copyFrom 55 = .ok (.getfield 23, 3) := by decide +kernel
theorem dX2_copyFrom_58 : decode cX2_copyFrom 58 = .ok (.aload_n 1, 1) := by decide +kernel
theorem dX2_copyFrom_59 : decode cX2_copyFrom 59 = .ok (.getfield 23, 3) := by decide +kernel
theorem dX2_copyFrom_62 : decode cX2_copyFrom 62 = .ok (.invokevirtual 64, 3) := by decide +kernel
theorem dX2_copyFrom_65 : decode cX2_copyFrom 65 = .ok (.aload_n 0, 1) := by decide +kernel
theorem dX2_copyFrom_66 : decode cX2_copyFrom 66 = .ok (.getfield 26, 3) := by decide +kernel
theorem dX2_copyFrom_69 : decode cX2_copyFrom 69 = .ok (.aload_n 1, 1) := by decide +kernel
theorem dX2_copyFrom_70 : decode cX2_copyFrom 70 = .ok (.getfield 26, 3) := by decide +kernel
theorem dX2_copyFrom_73 : decode cX2_copyFrom 73 = .ok (.invokevirtual 64, 3) := by decide +kernel
theorem dX2_copyFrom_76 : decode cX2_copyFrom 76 = .ok (.aload_n 0, 1) := by decide +kernel
theorem dX2_copyFrom_77 : decode cX2_copyFrom 77 = .ok (.getfield 29, 3) := by decide +kernel
theorem dX2_copyFrom_80 : decode cX2_copyFrom 80 = .ok (.aload_n 1, 1) := by decide +kernel
theorem dX2_copyFrom_81 : decode cX2_copyFrom 81 = .ok (.getfield 29, 3) := by decide +kernel
theorem dX2_copyFrom_84 : decode cX2_copyFrom 84 = .ok (.invokevirtual 64, 3) := by decide +kernel
theorem dX2_copyFrom_87 : decode cX2_copyFrom 87 = .ok (.aload_n 0, 1) := by decide +kernel
theorem dX2_copyFrom_88 : decode cX2_copyFrom 88 = .ok (.getfield 32, 3) := by decide +kernel
theorem dX2_copyFrom_91 : decode cX2_copyFrom 91 = .ok (.aload_n 1, 1) := by decide +kernel
theorem dX2_copyFrom_92 : decode cX2_copyFrom 92 = .ok (.getfield 32, 3) := by decide +kernel
theorem dX2_copyFrom_95 : decode cX2_copyFrom 95 = .ok (.invokevirtual 64, 3) := by decide +kernel
theorem dX2_copyFrom_98 : decode cX2_copyFrom 98 = .ok (.aload_n 0, 1) := by decide +kernel
theorem dX2_copyFrom_99 : decode cX2_copyFrom 99 = .ok (.getfield 35, 3) := by decide +kernel
theorem dX2_copyFrom_102 : decode cX2_copyFrom 102 = .ok (.aload_n 1, 1) := by decide +kernel
theorem dX2_copyFrom_103 : decode cX2_copyFrom 103 = .ok (.getfield 35, 3) := by decide +kernel
theorem dX2_copyFrom_106 : decode cX2_copyFrom 106 = .ok (.invokevirtual 64, 3) := by decide +kernel
theorem dX2_copyFrom_109 : decode cX2_copyFrom 109 = .ok (.aload_n 0, 1) := by decide +kernel
theorem dX2_copyFrom_110 : decode cX2_copyFrom 110 = .ok (.getfield 38, 3) := by decide +kernel
theorem dX2_copyFrom_113 : decode cX2_copyFrom 113 = .ok (.aload_n 1, 1) := by decide +kernel
theorem dX2_copyFrom_114 : decode cX2_copyFrom 114 = .ok (.getfield 38, 3) := by decide +kernel
theorem dX2_copyFrom_117 : decode cX2_copyFrom 117 = .ok (.invokevirtual 64, 3) := by decide +kernel
theorem dX2_copyFrom_120 : decode cX2_copyFrom 120 = .ok (.aload_n 0, 1) := by decide +kernel
theorem dX2_copyFrom_121 : decode cX2_copyFrom 121 = .ok (.getfield 41, 3) := by decide +kernel
theorem dX2_copyFrom_124 : decode cX2_copyFrom 124 = .ok (.aload_n 1, 1) := by decide +kernel
theorem dX2_copyFrom_125 : decode cX2_copyFrom 125 = .ok (.getfield 41, 3) := by decide +kernel
theorem dX2_copyFrom_128 : decode cX2_copyFrom 128 = .ok (.invokevirtual 64, 3) := by decide +kernel
theorem dX2_copyFrom_131 : decode cX2_copyFrom 131 = .ok (.aload_n 0, 1) := by decide +kernel
theorem dX2_copyFrom_132 : decode cX2_copyFrom 132 = .ok (.getfield 44, 3) := by decide +kernel
theorem dX2_copyFrom_135 : decode cX2_copyFrom 135 = .ok (.aload_n 1, 1) := by decide +kernel
theorem dX2_copyFrom_136 : decode cX2_copyFrom 136 = .ok (.getfield 44, 3) := by decide +kernel
theorem dX2_copyFrom_139 : decode cX2_copyFrom 139 = .ok (.invokevirtual 64, 3) := by decide +kernel
theorem dX2_copyFrom_142 : decode cX2_copyFrom 142 = .ok (.return_, 1) := by decide +kernel
theorem dX3_init_0 : decode cX3_init 0 = .ok (.aload_n 0, 1) := by decide +kernel
theorem dX3_init_1 : decode cX3_init 1 = .ok (.invokespecial 3, 3) := by decide +kernel
theorem dX3_init_4 : decode cX3_init 4 = .ok (.aload_n 0, 1) := by decide +kernel
theorem dX3_init_5 : decode cX3_init 5 = .ok (.new 9, 3) := by decide +kernel
theorem dX3_init_8 : decode cX3_init 8 = .ok (.dup, 1) := by decide +kernel
theorem dX3_init_9 : decode cX3_init 9 = .ok (.sipush 400, 3) := by decide +kernel
theorem dX3_init_12 : decode cX3_init 12 = .ok (.invokespecial 11, 3) := by decide +kernel
theorem dX3_init_15 : decode cX3_init 15 = .ok (.putfield 14, 3) := by decide +kernel
theorem dX3_init_18 : decode cX3_init 18 = .ok (.return_, 1) := by decide +kernel
theorem dX3_holds_0 : decode cX3_holds 0 = .ok (.aload_n 1, 1) := by decide +kernel
theorem dX3_holds_1 : decode cX3_holds 1 = .ok (.getfield 20, 3) := by decide +kernel
theorem dX3_holds_4 : decode cX3_holds 4 = .ok (.iload_n 2, 1) := by decide +kernel
theorem dX3_holds_5 : decode cX3_holds 5 = .ok (.invokevirtual 25, 3) := by decide +kernel
theorem dX3_holds_8 : decode cX3_holds 8 = .ok (.istore 4, 2) := by decide +kernel
theorem dX3_holds_10 : decode cX3_holds 10 = .ok (.aload_n 1, 1) := by decide +kernel
theorem dX3_holds_11 : decode cX3_holds 11 = .ok (.getfield 29, 3) := by decide +kernel
theorem dX3_holds_14 : decode cX3_holds 14 = .ok (.iload_n 2, 1) := by decide +kernel
theorem dX3_holds_15 : decode cX3_holds 15 = .ok (.invokevirtual 25, 3) := by decide +kernel
theorem dX3_holds_18 : decode cX3_holds 18 = .ok (.istore 5, 2) := by decide +kernel
theorem dX3_holds_20 : decode cX3_holds 20 = .ok (.aload_n 0, 1) := by decide +kernel
theorem dX3_holds_21 : decode cX3_holds 21 = .ok (.iconst 0, 1) := by decide +kernel
theorem dX3_holds_22 : decode cX3_holds 22 = .ok (.putfield 32, 3) := by decide +kernel
theorem dX3_holds_25 : decode cX3_holds 25 = .ok (.iload 4, 2) := by decide +kernel
theorem dX3_holds_27 : decode cX3_holds 27 = .ok (.istore 6, 2) := by decide +kernel
theorem dX3_holds_29 : decode cX3_holds 29 = .ok (.iload 6, 2) := by decide +kernel
theorem dX3_holds_31 : decode cX3_holds 31 = .ok (.iload 5, 2) := by decide +kernel
theorem dX3_holds_33 : decode cX3_holds 33 = .ok (.if_icmp .ge 123, 3) := by decide +kernel
theorem dX3_holds_36 : decode cX3_holds 36 = .ok (.aload_n 1, 1) := by decide +kernel
theorem dX3_holds_37 : decode cX3_holds 37 = .ok (.getfield 36, 3) := by decide +kernel
theorem dX3_holds_40 : decode cX3_holds 40 = .ok (.iload 6, 2) := by decide +kernel
theorem dX3_holds_42 : decode cX3_holds 42 = .ok (.invokevirtual 25, 3) := by decide +kernel
theorem dX3_holds_45 : decode cX3_holds 45 = .ok (.istore 7, 2) := by decide +kernel
theorem dX3_holds_47 : decode cX3_holds 47 = .ok (.iload 7, 2) := by decide +kernel
theorem dX3_holds_49 : decode cX3_holds 49 = .ok (.sipush 273, 3) := by decide +kernel
theorem dX3_holds_52 : decode cX3_holds 52 = .ok (.if_icmp .ne 25, 3) := by decide +kernel
theorem dX3_holds_55 : decode cX3_holds 55 = .ok (.aload_n 0, 1) := by decide +kernel
theorem dX3_holds_56 : decode cX3_holds 56 = .ok (.aload_n 0, 1) := by decide +kernel
theorem dX3_holds_57 : decode cX3_holds 57 = .ok (.invokevirtual 39, 3) := by decide +kernel
theorem dX3_holds_60 : decode cX3_holds 60 = .ok (.ifCond .ne 7, 3) := by decide +kernel
theorem dX3_holds_63 : decode cX3_holds 63 = .ok (.iconst 1, 1) := by decide +kernel
theorem dX3_holds_64 : decode cX3_holds 64 = .ok (.goto 4, 3) := by decide +kernel
theorem dX3_holds_67 : decode cX3_holds 67 = .ok (.iconst 0, 1) := by decide +kernel
theorem dX3_holds_68 : decode cX3_holds 68 = .ok (.invokestatic 43, 3) := by decide +kernel
theorem dX3_holds_71 : decode cX3_holds 71 = .ok (.invokevirtual 47, 3) := by decide +kernel
theorem dX3_holds_74 : decode cX3_holds 74 = .ok (.goto 76, 3) := by decide +kernel
theorem dX3_holds_77 : decode cX3_holds 77 = .ok (.iload 7, 2) := by decide +kernel
theorem dX3_holds_79 : decode cX3_holds 79 = .ok (.iconst 4, 1) := by decide +kernel
theorem dX3_holds_80 : decode cX3_holds 80 = .ok (.if_icmp .ne 15, 3) := by decide +kernel
theorem dX3_holds_83 : decode cX3_holds 83 = .ok (.aload_n 0, 1) := by decide +kernel
theorem dX3_holds_84 : decode cX3_holds 84 = .ok (.aload_n 0, 1) := by decide +kernel
theorem dX3_holds_85 : decode cX3_holds 85 = .ok (.invokevirtual 39, 3) := by decide +kernel
theorem dX3_holds_88 : decode cX3_holds 88 = .ok (.ineg, 1) := by decide +kernel
theorem dX3_holds_89 : decode cX3_holds 89 = .ok (.invokevirtual 47, 3) := by decide +kernel
theorem dX3_holds_92 : decode cX3_holds 92 = .ok (.goto 58, 3) := by decide +kernel
theorem dX3_holds_95 : decode cX3_holds 95 = .ok (.iload 7, 2) := by decide +kernel
theorem dX3_holds_97 : decode cX3_holds 97 = .ok (.invokestatic 50, 3) := by decide +kernel
theorem dX3_holds_100 : decode cX3_holds 100 = .ok (.ifCond .eq 25, 3) := by decide +kernel
theorem dX3_holds_103 : decode cX3_holds 103 = .ok (.aload_n 0, 1) := by decide +kernel
theorem dX3_holds_104 : decode cX3_holds 104 = .ok (.iload 7, 2) := by decide +kernel
theorem dX3_holds_106 : decode cX3_holds 106 = .ok (.aload_n 1, 1) := by decide +kernel
theorem dX3_holds_107 : decode cX3_holds 107 = .ok (.getfield 54, 3) := by decide +kernel
theorem dX3_holds_110 : decode cX3_holds 110 = .ok (.iload 6, 2) := by decide +kernel
theorem dX3_holds_112 : decode cX3_holds 112 = .ok (.invokevirtual 25, 3) := by decide +kernel
theorem dX3_holds_115 : decode cX3_holds 115 = .ok (.aload_n 3, 1) := by decide +kernel
theorem dX3_holds_116 : decode cX3_holds 116 = .ok (.invokestatic 57, 3) := by decide +kernel
theorem dX3_holds_119 : decode cX3_holds 119 = .ok (.invokevirtual 47, 3) := by decide +kernel
theorem dX3_holds_122 : decode cX3_holds 122 = .ok (.goto 28, 3) := by decide +kernel
theorem dX3_holds_125 : decode cX3_holds 125 = .ok (.aload_n 0, 1) := by decide +kernel
theorem dX3_holds_126 : decode cX3_holds 126 = .ok (.invokevirtual 39, 3) := by decide +kernel
theorem dX3_holds_129 : decode cX3_holds 129 = .ok (.istore 8, 2) := by decide +kernel
theorem dX3_holds_131 : decode cX3_holds 131 = .ok (.aload_n 0, 1) := by decide +kernel
theorem dX3_holds_132 : decode cX3_holds 132 = .ok (.invokevirtual 39, 3) := by decide +kernel
theorem dX3_holds_135 : decode cX3_holds 135 = .ok (.istore 9, 2) := by decide +kernel
theorem dX3_holds_137 : decode cX3_holds 137 = .ok (.aload_n 0, 1) := by decide +kernel
theorem dX3_holds_138 : decode cX3_holds 138 = .ok (.iload 7, 2) := by decide +kernel
theorem dX3_holds_140 : decode cX3_holds 140 = .ok (.iload 9, 2) := by decide +kernel
theorem dX3_holds_142 : decode cX3_holds 142 = .ok (.iload 8, 2) := by decide +kernel
theorem dX3_holds_144 : decode cX3_holds 144 = .ok (.invokestatic 61, 3) := by decide +kernel
theorem dX3_holds_147 : decode cX3_holds 147 = .ok (.invokevirtual 47, 3) := by decide +kernel
theorem dX3_holds_150 : decode cX3_holds 150 = .ok (.iinc 6 1, 3) := by decide +kernel
theorem dX3_holds_153 : decode cX3_holds 153 = .ok (.goto (-124), 3) := by decide +kernel
theorem dX3_holds_156 : decode cX3_holds 156 = .ok (.iload 4, 2) := by decide +kernel
theorem dX3_holds_158 : decode cX3_holds 158 = .ok (.iload 5, 2) := by decide +kernel
theorem dX3_holds_160 : decode cX3_holds 160 = .ok (.if_icmp .eq 10, 3) := by decide +kernel
theorem dX3_holds_163 : decode cX3_holds 163 = .ok (.aload_n 0, 1) := by decide +kernel
theorem dX3_holds_164 : decode cX3_holds 164 = .ok (.invokevirtual 39, 3) := by decide +kernel
theorem dX3_holds_167 : decode cX3_holds 167 = .ok (.ifCond .eq 7, 3) := by decide +kernel
theorem dX3_holds_170 : decode cX3_holds 170 = .ok (.iconst 1, 1) := by decide +kernel
theorem dX3_holds_171 : decode cX3_holds 171 = .ok (.goto 4, 3) := by decide +kernel
theorem dX3_holds_174 : decode cX3_holds 174 = .ok (.iconst 0, 1) := by decide +kernel
theorem dX3_holds_175 : decode cX3_holds 175 = .ok (.ireturn, 1) := by decide +kernel
theorem dX3_push_0 : decode cX3_push 0 = .ok (.aload_n 0, 1) := by decide +kernel
theorem dX3_push_1 : decode cX3_push 1 = .ok (.getfield 14, 3) := by decide +kernel
theorem dX3_push_4 : decode cX3_push 4 = .ok (.aload_n 0, 1) := by decide +kernel
theorem dX3_push_5 : decode cX3_push 5 = .ok (.getfield 32, 3) := by decide +kernel
theorem dX3_push_8 : decode cX3_push 8 = .ok (.iload_n 1, 1) := by decide +kernel
theorem dX3_push_9 : decode cX3_push 9 = .ok (.invokevirtual 65, 3) := by decide +kernel
theorem dX3_push_12 : decode cX3_push 12 = .ok (.aload_n 0, 1) := by decide +kernel
theorem dX3_push_13 : decode cX3_push 13 = .ok (.dup, 1) := by decide +kernel
theorem dX3_push_14 : decode cX3_push 14 = .ok (.getfield 32, 3) := by decide +kernel
theorem dX3_push_17 : decode cX3_push 17 = .ok (.iconst 1, 1) := by decide +kernel
theorem dX3_push_18 : decode cX3_push 18 = .ok (.iadd, 1) := by decide +kernel
theorem dX3_push_19 : decode cX3_push 19 = .ok (.putfield 32, 3) := by decide +kernel
theorem dX3_push_22 : decode cX3_push 22 = .ok (.return_, 1) := by decide +kernel
theorem dX3_pop_0 : decode cX3_pop 0 = .ok (.aload_n 0, 1) := by decide +kernel
theorem dX3_pop_1 : decode cX3_pop 1 = .ok (.dup, 1) := by decide +kernel
theorem dX3_pop_2 : decode cX3_pop 2 = .ok (.getfield 32, 3) := by decide +kernel
theorem dX3_pop_5 : decode cX3_pop 5 = .ok (.iconst 1, 1) := by decide +kernel
theorem dX3_pop_6 : decode cX3_pop 6 = .ok (.isub, 1) := by decide +kernel
theorem dX3_pop_7 : decode cX3_pop 7 = .ok (.putfield 32, 3) := by decide +kernel
theorem dX3_pop_10 : decode cX3_pop 10 = .ok (.aload_n 0, 1) := by decide +kernel
theorem dX3_pop_11 : decode cX3_pop 11 = .ok (.getfield 14, 3) := by decide +kernel
theorem dX3_pop_14 : decode cX3_pop 14 = .ok (.aload_n 0, 1) := by decide +kernel
theorem dX3_pop_15 : decode cX3_pop 15 = .ok (.getfield 32, 3) := by decide +kernel
theorem dX3_pop_18 : decode cX3_pop 18 = .ok (.invokevirtual 25, 3) := by decide +kernel
theorem dX3_pop_21 : decode cX3_pop 21 = .ok (.ireturn, 1) := by decide +kernel
theorem dX3_isValue_0 : decode cX3_isValue 0 = .ok (.iload_n 0, 1) := by decide +kernel
theorem dX3_isValue_1 : decode cX3_isValue 1 = .ok (.iconst 3, 1) := by decide +kernel
theorem dX3_isValue_2 : decode cX3_isValue 2 = .ok (.if_icmp .eq 45, 3) := by decide +kernel
theorem dX3_isValue_5 : decode cX3_isValue 5 = .ok (.iload_n 0, 1) := by decide +kernel
theorem dX3_isValue_6 : decode cX3_isValue 6 = .ok (.sipush 267, 3) := by decide +kernel
theorem dX3_isValue_9 : decode cX3_isValue 9 = .ok (.if_icmp .eq 38, 3) := by decide +kernel
theorem dX3_isValue_12 : decode cX3_isValue 12 = .ok (.iload_n 0, 1) := by decide +kernel
theorem dX3_isValue_13 : decode cX3_isValue 13 = .ok (.sipush 268, 3) := by decide +kernel
theorem dX3_isValue_16 : decode cX3_isValue 16 = .ok (.if_icmp .eq 31, 3) := by decide +kernel
theorem dX3_isValue_19 : decode cX3_isValue 19 = .ok (.iload_n 0, 1) := by decide +kernel
theorem dX3_isValue_20 : decode cX3_isValue 20 = .ok (.sipush 269, 3) := by decide +kernel
theorem dX3_isValue_23 : decode cX3_isValue 23 = .ok (.if_icmp .eq 24, 3) := by decide +kernel
theorem dX3_isValue_26 : decode cX3_isValue 26 = .ok (.iload_n 0, 1) := by decide +kernel
theorem dX3_isValue_27 : decode cX3_isValue 27 = .ok (.sipush 257, 3) := by decide +kernel
theorem dX3_isValue_30 : decode cX3_isValue 30 = .ok (.if_icmp .eq 17, 3) := by decide +kernel
theorem dX3_isValue_33 : decode cX3_isValue 33 = .ok (.iload_n 0, 1) := by decide +kernel
theorem dX3_isValue_34 : decode cX3_isValue 34 = .ok (.sipush 270, 3) := by decide +kernel
theorem dX3_isValue_37 : decode cX3_isValue 37 = .ok (.if_icmp .eq 10, 3) := by decide +kernel
theorem dX3_isValue_40 : decode cX3_isValue 40 = .ok (.iload_n 0, 1) := by decide +kernel
theorem dX3_isValue_41 : decode cX3_isValue 41 = .ok (.sipush 272, 3) := by decide +kernel
theorem dX3_isValue_44 : decode cX3_isValue 44 = .ok (.if_icmp .ne 7, 3) := by decide +kernel
theorem dX3_isValue_47 : decode cX3_isValue 47 = .ok (.iconst 1, 1) := by decide +kernel
theorem dX3_isValue_48 : decode cX3_isValue 48 = .ok (.goto 4, 3) := by decide +kernel
theorem dX3_isValue_51 : decode cX3_isValue 51 = .ok (.iconst 0, 1) := by decide +kernel
theorem dX3_isValue_52 : decode cX3_isValue 52 = .ok (.ireturn, 1) := by decide +kernel
theorem dX3_valueOf_0 : decode cX3_valueOf 0 = .ok (.iload_n 0, 1) := by decide +kernel
theorem dX3_valueOf_1 : decode cX3_valueOf 1 = .ok (.tableswitch 118 257 272 #[94, 118, 118, 118, 118, 118, 118, 118, 118, 118, 79, 84, 89, 103, 118, 109], 79) := by decide +kernel
theorem dX3_valueOf_80 : decode cX3_valueOf 80 = .ok (.aload_n 2, 1) := by decide +kernel
theorem dX3_valueOf_81 : decode cX3_valueOf 81 = .ok (.getfield 69, 3) := by decide +kernel
theorem dX3_valueOf_84 : decode cX3_valueOf 84 = .ok (.ireturn, 1) := by decide +kernel
theorem dX3_valueOf_85 : decode cX3_valueOf 85 = .ok (.aload_n 2, 1) := by decide +kernel
theorem dX3_valueOf_86 : decode cX3_valueOf 86 = .ok (.getfield 74, 3) := by decide +kernel
theorem dX3_valueOf_89 : decode cX3_valueOf 89 = .ok (.ireturn, 1) := by decide +kernel
theorem dX3_valueOf_90 : decode cX3_valueOf 90 = .ok (.aload_n 2, 1) := by decide +kernel
theorem dX3_valueOf_91 : decode cX3_valueOf 91 = .ok (.invokevirtual 77, 3) := by decide +kernel
theorem dX3_valueOf_94 : decode cX3_valueOf 94 = .ok (.ireturn, 1) := by decide +kernel
theorem dX3_valueOf_95 : decode cX3_valueOf 95 = .ok (.aload_n 2, 1) := by decide +kernel
theorem dX3_valueOf_96 : decode cX3_valueOf 96 = .ok (.getfield 80, 3) := by decide +kernel
theorem dX3_valueOf_99 : decode cX3_valueOf 99 = .ok (.iload_n 1, 1) := by decide +kernel
theorem dX3_valueOf_100 : decode cX3_valueOf 100 = .ok (.invokevirtual 25, 3) := by decide +kernel
theorem dX3_valueOf_103 : decode cX3_valueOf 103 = .ok (.ireturn, 1) := by decide +kernel
theorem dX3_valueOf_104 : decode cX3_valueOf 104 = .ok (.aload_n 2, 1) := by decide +kernel
theorem dX3_valueOf_105 : decode cX3_valueOf 105 = .ok (.iload_n 1, 1) := by decide +kernel
theorem dX3_valueOf_106 : decode cX3_valueOf 106 = .ok (.invokevirtual 83, 3) := by decide +kernel
theorem dX3_valueOf_109 : decode cX3_valueOf 109 = .ok (.ireturn, 1) := by decide +kernel
theorem dX3_valueOf_110 : decode cX3_valueOf 110 = .ok (.aload_n 2, 1) := by decide +kernel
theorem dX3_valueOf_111 : decode cX3_valueOf 111 = .ok (.iload_n 1, 1) := by decide +kernel
theorem dX3_valueOf_112 : decode cX3_valueOf 112 = .ok (.invokevirtual 86, 3) := by decide +kernel
theorem dX3_valueOf_115 : decode cX3_valueOf 115 = .ok (.invokestatic 43, 3) := by decide +kernel
theorem dX3_valueOf_118 : decode cX3_valueOf 118 = .ok (.ireturn, 1) := by decide +kernel
theorem dX3_valueOf_119 : decode cX3_valueOf 119 = .ok (.iload_n 1, 1) := by decide +kernel
theorem dX3_valueOf_120 : decode cX3_valueOf 120 = .ok (.ireturn, 1) := by decide +kernel
theorem dX3_joined_0 : decode cX3_joined 0 = .ok (.iload_n 0, 1) := by decide +kernel
theorem dX3_joined_1 : decode cX3_joined 1 = .ok (.lookupswitch 215 #[(42, 193), (43, 185), (45, 189), (47, 197), (60, 115), (61, 143), (62, 129), (188, 157), (190, 171), (274, 111), (275, 107), (276, 209)], 107) := by decide +kernel
theorem dX3_joined_108 : decode cX3_joined 108 = .ok (.iload_n 1, 1) := by decide +kernel
theorem dX3_joined_109 : decode cX3_joined 109 = .ok (.iload_n 2, 1) := by decide +kernel
theorem dX3_joined_110 : decode cX3_joined 110 = .ok (.ior, 1) := by decide +kernel
theorem dX3_joined_111 : decode cX3_joined 111 = .ok (.ireturn, 1) := by decide +kernel
theorem dX3_joined_112 : decode cX3_joined 112 = .ok (.iload_n 1, 1) := by decide +kernel
theorem dX3_joined_113 : decode cX3_joined 113 = .ok (.iload_n 2, 1) := by decide +kernel
theorem dX3_joined_114 : decode cX3_joined 114 = .ok (.iand, 1) := by decide +kernel
theorem dX3_joined_115 : decode cX3_joined 115 = .ok (.ireturn, 1) := by decide +kernel
theorem dX3_joined_116 : decode cX3_joined 116 = .ok (.iload_n 1, 1) := by decide +kernel
theorem dX3_joined_117 : decode cX3_joined 117 = .ok (.iload_n 2, 1) := by decide +kernel
theorem dX3_joined_118 : decode cX3_joined 118 = .ok (.if_icmp .ge 7, 3) := by decide +kernel
theorem dX3_joined_121 : decode cX3_joined 121 = .ok (.iconst 1, 1) := by decide +kernel
theorem dX3_joined_122 : decode cX3_joined 122 = .ok (.goto 4, 3) := by decide +kernel
theorem dX3_joined_125 : decode cX3_joined 125 = .ok (.iconst 0, 1) := by decide +kernel
theorem dX3_joined_126 : decode cX3_joined 126 = .ok (.invokestatic 43, 3) := by decide +kernel
theorem dX3_joined_129 : decode cX3_joined 129 = .ok (.ireturn, 1) := by decide +kernel
theorem dX3_joined_130 : decode cX3_joined 130 = .ok (.iload_n 1, 1) := by decide +kernel
theorem dX3_joined_131 : decode cX3_joined 131 = .ok (.iload_n 2, 1) := by decide +kernel
theorem dX3_joined_132 : decode cX3_joined 132 = .ok (.if_icmp .le 7, 3) := by decide +kernel
theorem dX3_joined_135 : decode cX3_joined 135 = .ok (.iconst 1, 1) := by decide +kernel
theorem dX3_joined_136 : decode cX3_joined 136 = .ok (.goto 4, 3) := by decide +kernel
theorem dX3_joined_139 : decode cX3_joined 139 = .ok (.iconst 0, 1) := by decide +kernel
theorem dX3_joined_140 : decode cX3_joined 140 = .ok (.invokestatic 43, 3) := by decide +kernel
theorem dX3_joined_143 : decode cX3_joined 143 = .ok (.ireturn, 1) := by decide +kernel
theorem dX3_joined_144 : decode cX3_joined 144 = .ok (.iload_n 1, 1) := by decide +kernel
theorem dX3_joined_145 : decode cX3_joined 145 = .ok (.iload_n 2, 1) := by decide +kernel
theorem dX3_joined_146 : decode cX3_joined 146 = .ok (.if_icmp .ne 7, 3) := by decide +kernel
theorem dX3_joined_149 : decode cX3_joined 149 = .ok (.iconst 1, 1) := by decide +kernel
theorem dX3_joined_150 : decode cX3_joined 150 = .ok (.goto 4, 3) := by decide +kernel
theorem dX3_joined_153 : decode cX3_joined 153 = .ok (.iconst 0, 1) := by decide +kernel
theorem dX3_joined_154 : decode cX3_joined 154 = .ok (.invokestatic 43, 3) := by decide +kernel
theorem dX3_joined_157 : decode cX3_joined 157 = .ok (.ireturn, 1) := by decide +kernel
theorem dX3_joined_158 : decode cX3_joined 158 = .ok (.iload_n 1, 1) := by decide +kernel
theorem dX3_joined_159 : decode cX3_joined 159 = .ok (.iload_n 2, 1) := by decide +kernel
theorem dX3_joined_160 : decode cX3_joined 160 = .ok (.if_icmp .gt 7, 3) := by decide +kernel
theorem dX3_joined_163 : decode cX3_joined 163 = .ok (.iconst 1, 1) := by decide +kernel
theorem dX3_joined_164 : decode cX3_joined 164 = .ok (.goto 4, 3) := by decide +kernel
theorem dX3_joined_167 : decode cX3_joined 167 = .ok (.iconst 0, 1) := by decide +kernel
theorem dX3_joined_168 : decode cX3_joined 168 = .ok (.invokestatic 43, 3) := by decide +kernel
theorem dX3_joined_171 : decode cX3_joined 171 = .ok (.ireturn, 1) := by decide +kernel
theorem dX3_joined_172 : decode cX3_joined 172 = .ok (.iload_n 1, 1) := by decide +kernel
theorem dX3_joined_173 : decode cX3_joined 173 = .ok (.iload_n 2, 1) := by decide +kernel
theorem dX3_joined_174 : decode cX3_joined 174 = .ok (.if_icmp .lt 7, 3) := by decide +kernel
theorem dX3_joined_177 : decode cX3_joined 177 = .ok (.iconst 1, 1) := by decide +kernel
theorem dX3_joined_178 : decode cX3_joined 178 = .ok (.goto 4, 3) := by decide +kernel
theorem dX3_joined_181 : decode cX3_joined 181 = .ok (.iconst 0, 1) := by decide +kernel
theorem dX3_joined_182 : decode cX3_joined 182 = .ok (.invokestatic 43, 3) := by decide +kernel
theorem dX3_joined_185 : decode cX3_joined 185 = .ok (.ireturn, 1) := by decide +kernel
theorem dX3_joined_186 : decode cX3_joined 186 = .ok (.iload_n 1, 1) := by decide +kernel
theorem dX3_joined_187 : decode cX3_joined 187 = .ok (.iload_n 2, 1) := by decide +kernel
theorem dX3_joined_188 : decode cX3_joined 188 = .ok (.iadd, 1) := by decide +kernel
theorem dX3_joined_189 : decode cX3_joined 189 = .ok (.ireturn, 1) := by decide +kernel
theorem dX3_joined_190 : decode cX3_joined 190 = .ok (.iload_n 1, 1) := by decide +kernel
theorem dX3_joined_191 : decode cX3_joined 191 = .ok (.iload_n 2, 1) := by decide +kernel
theorem dX3_joined_192 : decode cX3_joined 192 = .ok (.isub, 1) := by decide +kernel
theorem dX3_joined_193 : decode cX3_joined 193 = .ok (.ireturn, 1) := by decide +kernel
theorem dX3_joined_194 : decode cX3_joined 194 = .ok (.iload_n 1, 1) := by decide +kernel
theorem dX3_joined_195 : decode cX3_joined 195 = .ok (.iload_n 2, 1) := by decide +kernel
theorem dX3_joined_196 : decode cX3_joined 196 = .ok (.imul, 1) := by decide +kernel
theorem dX3_joined_197 : decode cX3_joined 197 = .ok (.ireturn, 1) := by decide +kernel
theorem dX3_joined_198 : decode cX3_joined 198 = .ok (.iload_n 2, 1) := by decide +kernel
theorem dX3_joined_199 : decode cX3_joined 199 = .ok (.ifCond .ne 7, 3) := by decide +kernel
theorem dX3_joined_202 : decode cX3_joined 202 = .ok (.iconst 0, 1) := by decide +kernel
theorem dX3_joined_203 : decode cX3_joined 203 = .ok (.goto 6, 3) := by decide +kernel
theorem dX3_joined_206 : decode cX3_joined 206 = .ok (.iload_n 1, 1) := by decide +kernel
theorem dX3_joined_207 : decode cX3_joined 207 = .ok (.iload_n 2, 1) := by decide +kernel
theorem dX3_joined_208 : decode cX3_joined 208 = .ok (.idiv, 1) := by decide +kernel
theorem dX3_joined_209 : decode cX3_joined 209 = .ok (.ireturn, 1) := by decide +kernel
theorem dX3_joined_210 : decode cX3_joined 210 = .ok (.iload_n 1, 1) := by decide +kernel
theorem dX3_joined_211 : decode cX3_joined 211 = .ok (.iload_n 2, 1) := by decide +kernel
theorem dX3_joined_212 : decode cX3_joined 212 = .ok (.invokestatic 89, 3) := by decide +kernel
theorem dX3_joined_215 : decode cX3_joined 215 = .ok (.ireturn, 1) := by decide +kernel
theorem dX3_joined_216 : decode cX3_joined 216 = .ok (.iload_n 1, 1) := by decide +kernel
theorem dX3_joined_217 : decode cX3_joined 217 = .ok (.iload_n 2, 1) := by decide +kernel
theorem dX3_joined_218 : decode cX3_joined 218 = .ok (.invokestatic 95, 3) := by decide +kernel
theorem dX3_joined_221 : decode cX3_joined 221 = .ok (.ireturn, 1) := by decide +kernel
theorem dX4_init_0 : decode cX4_init 0 = .ok (.aload_n 0, 1) := by decide +kernel
theorem dX4_init_1 : decode cX4_init 1 = .ok (.invokespecial 1, 3) := by decide +kernel
theorem dX4_init_4 : decode cX4_init 4 = .ok (.aload_n 0, 1) := by decide +kernel
theorem dX4_init_5 : decode cX4_init 5 = .ok (.iload_n 1, 1) := by decide +kernel
theorem dX4_init_6 : decode cX4_init 6 = .ok (.ifCond .ge 7, 3) := by decide +kernel
theorem dX4_init_9 : decode cX4_init 9 = .ok (.iconst 0, 1) := by decide +kernel
theorem dX4_init_10 : decode cX4_init 10 = .ok (.goto 4, 3) := by decide +kernel
theorem dX4_init_13 : decode cX4_init 13 = .ok (.iload_n 1, 1) := by decide +kernel
theorem dX4_init_14 : decode cX4_init 14 = .ok (.newarray .int, 2) := by decide +kernel
theorem dX4_init_16 : decode cX4_init 16 = .ok (.putfield 7, 3) := by decide +kernel
theorem dX4_init_19 : decode cX4_init 19 = .ok (.return_, 1) := by decide +kernel
theorem dX4_get_0 : decode cX4_get 0 = .ok (.iload_n 1, 1) := by decide +kernel
theorem dX4_get_1 : decode cX4_get 1 = .ok (.ifCond .lt 21, 3) := by decide +kernel
theorem dX4_get_4 : decode cX4_get 4 = .ok (.iload_n 1, 1) := by decide +kernel
theorem dX4_get_5 : decode cX4_get 5 = .ok (.aload_n 0, 1) := by decide +kernel
theorem dX4_get_6 : decode cX4_get 6 = .ok (.getfield 7, 3) := by decide +kernel
theorem dX4_get_9 : decode cX4_get 9 = .ok (.arraylength, 1) := by decide +kernel
theorem dX4_get_10 : decode cX4_get 10 = .ok (.if_icmp .ge 12, 3) := by decide +kernel
theorem dX4_get_13 : decode cX4_get 13 = .ok (.aload_n 0, 1) := by decide +kernel
theorem dX4_get_14 : decode cX4_get 14 = .ok (.getfield 7, 3) := by decide +kernel
theorem dX4_get_17 : decode cX4_get 17 = .ok (.iload_n 1, 1) := by decide +kernel
theorem dX4_get_18 : decode cX4_get 18 = .ok (.iaload, 1) := by decide +kernel
theorem dX4_get_19 : decode cX4_get 19 = .ok (.goto 4, 3) := by decide +kernel
theorem dX4_get_22 : decode cX4_get 22 = .ok (.iconst 0, 1) := by decide +kernel
theorem dX4_get_23 : decode cX4_get 23 = .ok (.ireturn, 1) := by decide +kernel
theorem dX4_set_0 : decode cX4_set 0 = .ok (.iload_n 1, 1) := by decide +kernel
theorem dX4_set_1 : decode cX4_set 1 = .ok (.ifCond .lt 19, 3) := by decide +kernel
theorem dX4_set_4 : decode cX4_set 4 = .ok (.iload_n 1, 1) := by decide +kernel
theorem dX4_set_5 : decode cX4_set 5 = .ok (.aload_n 0, 1) := by decide +kernel
theorem dX4_set_6 : decode cX4_set 6 = .ok (.getfield 7, 3) := by decide +kernel
theorem dX4_set_9 : decode cX4_set 9 = .ok (.arraylength, 1) := by decide +kernel
theorem dX4_set_10 : decode cX4_set 10 = .ok (.if_icmp .ge 10, 3) := by decide +kernel
theorem dX4_set_13 : decode cX4_set 13 = .ok (.aload_n 0, 1) := by decide +kernel
theorem dX4_set_14 : decode cX4_set 14 = .ok (.getfield 7, 3) := by decide +kernel
theorem dX4_set_17 : decode cX4_set 17 = .ok (.iload_n 1, 1) := by decide +kernel
theorem dX4_set_18 : decode cX4_set 18 = .ok (.iload_n 2, 1) := by decide +kernel
theorem dX4_set_19 : decode cX4_set 19 = .ok (.iastore, 1) := by decide +kernel
theorem dX4_set_20 : decode cX4_set 20 = .ok (.return_, 1) := by decide +kernel
theorem dX4_add_0 : decode cX4_add 0 = .ok (.aload_n 0, 1) := by decide +kernel
theorem dX4_add_1 : decode cX4_add 1 = .ok (.iload_n 1, 1) := by decide +kernel
theorem dX4_add_2 : decode cX4_add 2 = .ok (.aload_n 0, 1) := by decide +kernel
theorem dX4_add_3 : decode cX4_add 3 = .ok (.iload_n 1, 1) := by decide +kernel
theorem dX4_add_4 : decode cX4_add 4 = .ok (.invokevirtual 13, 3) := by decide +kernel
theorem dX4_add_7 : decode cX4_add 7 = .ok (.iload_n 2, 1) := by decide +kernel
theorem dX4_add_8 : decode cX4_add 8 = .ok (.iadd, 1) := by decide +kernel
theorem dX4_add_9 : decode cX4_add 9 = .ok (.invokevirtual 17, 3) := by decide +kernel
theorem dX4_add_12 : decode cX4_add 12 = .ok (.return_, 1) := by decide +kernel
theorem dX4_setAll_0 : decode cX4_setAll 0 = .ok (.iconst 0, 1) := by decide +kernel
theorem dX4_setAll_1 : decode cX4_setAll 1 = .ok (.istore_n 2, 1) := by decide +kernel
theorem dX4_setAll_2 : decode cX4_setAll 2 = .ok (.iload_n 2, 1) := by decide +kernel
theorem dX4_setAll_3 : decode cX4_setAll 3 = .ok (.aload_n 0, 1) := by decide +kernel
theorem dX4_setAll_4 : decode cX4_setAll 4 = .ok (.getfield 7, 3) := by decide +kernel
theorem dX4_setAll_7 : decode cX4_setAll 7 = .ok (.arraylength, 1) := by decide +kernel
theorem dX4_setAll_8 : decode cX4_setAll 8 = .ok (.if_icmp .ge 16, 3) := by decide +kernel
theorem dX4_setAll_11 : decode cX4_setAll 11 = .ok (.aload_n 0, 1) := by decide +kernel
theorem dX4_setAll_12 : decode cX4_setAll 12 = .ok (.getfield 7, 3) := by decide +kernel
theorem dX4_setAll_15 : decode cX4_setAll 15 = .ok (.iload_n 2, 1) := by decide +kernel
theorem dX4_setAll_16 : decode cX4_setAll 16 = .ok (.iload_n 1, 1) := by decide +kernel
theorem dX4_setAll_17 : decode cX4_setAll 17 = .ok (.iastore, 1) := by decide +kernel
theorem dX4_setAll_18 : decode cX4_setAll 18 = .ok (.iinc 2 1, 3) := by decide +kernel
theorem dX4_setAll_21 : decode cX4_setAll 21 = .ok (.goto (-19), 3) := by decide +kernel
theorem dX4_setAll_24 : decode cX4_setAll 24 = .ok (.return_, 1) := by decide +kernel
theorem dX4_copyFrom_0 : decode cX4_copyFrom 0 = .ok (.iconst 0, 1) := by decide +kernel
theorem dX4_copyFrom_1 : decode cX4_copyFrom 1 = .ok (.istore_n 2, 1) := by decide +kernel
theorem dX4_copyFrom_2 : decode cX4_copyFrom 2 = .ok (.iload_n 2, 1) := by decide +kernel
theorem dX4_copyFrom_3 : decode cX4_copyFrom 3 = .ok (.aload_n 0, 1) := by decide +kernel
theorem dX4_copyFrom_4 : decode cX4_copyFrom 4 = .ok (.getfield 7, 3) := by decide +kernel
theorem dX4_copyFrom_7 : decode cX4_copyFrom 7 = .ok (.arraylength, 1) := by decide +kernel
theorem dX4_copyFrom_8 : decode cX4_copyFrom 8 = .ok (.if_icmp .ge 20, 3) := by decide +kernel
theorem dX4_copyFrom_11 : decode cX4_copyFrom 11 = .ok (.aload_n 0, 1) := by decide +kernel
theorem dX4_copyFrom_12 : decode cX4_copyFrom 12 = .ok (.getfield 7, 3) := by decide +kernel
theorem dX4_copyFrom_15 : decode cX4_copyFrom 15 = .ok (.iload_n 2, 1) := by decide +kernel
theorem dX4_copyFrom_16 : decode cX4_copyFrom 16 = .ok (.aload_n 1, 1) := by decide +kernel
theorem dX4_copyFrom_17 : decode cX4_copyFrom 17 = .ok (.iload_n 2, 1) := by decide +kernel
theorem dX4_copyFrom_18 : decode cX4_copyFrom 18 = .ok (.invokevirtual 13, 3) := by decide +kernel
theorem dX4_copyFrom_21 : decode cX4_copyFrom 21 = .ok (.iastore, 1) := by decide +kernel
theorem dX4_copyFrom_22 : decode cX4_copyFrom 22 = .ok (.iinc 2 1, 3) := by decide +kernel
theorem dX4_copyFrom_25 : decode cX4_copyFrom 25 = .ok (.goto (-23), 3) := by decide +kernel
theorem dX4_copyFrom_28 : decode cX4_copyFrom 28 = .ok (.return_, 1) := by decide +kernel
theorem dX4_sum_0 : decode cX4_sum 0 = .ok (.iconst 0, 1) := by decide +kernel
theorem dX4_sum_1 : decode cX4_sum 1 = .ok (.istore_n 2, 1) := by decide +kernel
theorem dX4_sum_2 : decode cX4_sum 2 = .ok (.iconst 0, 1) := by decide +kernel
theorem dX4_sum_3 : decode cX4_sum 3 = .ok (.istore_n 3, 1) := by decide +kernel
theorem dX4_sum_4 : decode cX4_sum 4 = .ok (.iload_n 3, 1) := by decide +kernel
theorem dX4_sum_5 : decode cX4_sum 5 = .ok (.iload_n 1, 1) := by decide +kernel
theorem dX4_sum_6 : decode cX4_sum 6 = .ok (.if_icmp .ge 17, 3) := by decide +kernel
theorem dX4_sum_9 : decode cX4_sum 9 = .ok (.iload_n 2, 1) := by decide +kernel
theorem dX4_sum_10 : decode cX4_sum 10 = .ok (.aload_n 0, 1) := by decide +kernel
theorem dX4_sum_11 : decode cX4_sum 11 = .ok (.iload_n 3, 1) := by decide +kernel
theorem dX4_sum_12 : decode cX4_sum 12 = .ok (.invokevirtual 13, 3) := by decide +kernel
theorem dX4_sum_15 : decode cX4_sum 15 = .ok (.iadd, 1) := by decide +kernel
theorem dX4_sum_16 : decode cX4_sum 16 = .ok (.istore_n 2, 1) := by decide +kernel
theorem dX4_sum_17 : decode cX4_sum 17 = .ok (.iinc 3 1, 3) := by decide +kernel
theorem dX4_sum_20 : decode cX4_sum 20 = .ok (.goto (-16), 3) := by decide +kernel
theorem dX4_sum_23 : decode cX4_sum 23 = .ok (.iload_n 2, 1) := by decide +kernel
theorem dX4_sum_24 : decode cX4_sum 24 = .ok (.ireturn, 1) := by decide +kernel
theorem dX5_init_0 : decode cX5_init 0 = .ok (.aload_n 0, 1) := by decide +kernel
theorem dX5_init_1 : decode cX5_init 1 = .ok (.invokespecial 3, 3) := by decide +kernel
theorem dX5_init_4 : decode cX5_init 4 = .ok (.aload_n 0, 1) := by decide +kernel
theorem dX5_init_5 : decode cX5_init 5 = .ok (.new 9, 3) := by decide +kernel
theorem dX5_init_8 : decode cX5_init 8 = .ok (.dup, 1) := by decide +kernel
theorem dX5_init_9 : decode cX5_init 9 = .ok (.sipush 2000, 3) := by decide +kernel
theorem dX5_init_12 : decode cX5_init 12 = .ok (.invokespecial 11, 3) := by decide +kernel
theorem dX5_init_15 : decode cX5_init 15 = .ok (.putfield 14, 3) := by decide +kernel
theorem dX5_init_18 : decode cX5_init 18 = .ok (.return_, 1) := by decide +kernel
theorem dX5_append_0 : decode cX5_append 0 = .ok (.bipush 24, 2) := by decide +kernel
theorem dX5_append_2 : decode cX5_append 2 = .ok (.istore_n 2, 1) := by decide +kernel
theorem dX5_append_3 : decode cX5_append 3 = .ok (.iload_n 2, 1) := by decide +kernel
theorem dX5_append_4 : decode cX5_append 4 = .ok (.ifCond .lt 37, 3) := by decide +kernel
theorem dX5_append_7 : decode cX5_append 7 = .ok (.aload_n 0, 1) := by decide +kernel
theorem dX5_append_8 : decode cX5_append 8 = .ok (.getfield 14, 3) := by decide +kernel
theorem dX5_append_11 : decode cX5_append 11 = .ok (.aload_n 0, 1) := by decide +kernel
theorem dX5_append_12 : decode cX5_append 12 = .ok (.getfield 20, 3) := by decide +kernel
theorem dX5_append_15 : decode cX5_append 15 = .ok (.iload_n 1, 1) := by decide +kernel
theorem dX5_append_16 : decode cX5_append 16 = .ok (.iload_n 2, 1) := by decide +kernel
theorem dX5_append_17 : decode cX5_append 17 = .ok (.iushr, 1) := by decide +kernel
theorem dX5_append_18 : decode cX5_append 18 = .ok (.sipush 255, 3) := by decide +kernel
theorem dX5_append_21 : decode cX5_append 21 = .ok (.iand, 1) := by decide +kernel
theorem dX5_append_22 : decode cX5_append 22 = .ok (.invokevirtual 24, 3) := by decide +kernel
theorem dX5_append_25 : decode cX5_append 25 = .ok (.aload_n 0, 1) := by decide +kernel
theorem dX5_append_26 : decode cX5_append 26 = .ok (.dup, 1) := by decide +kernel
theorem dX5_append_27 : decode cX5_append 27 = .ok (.getfield 20, 3) := by decide +kernel
theorem dX5_append_30 : decode cX5_append 30 = .ok (.iconst 1, 1) := by decide +kernel
theorem dX5_append_31 : decode cX5_append 31 = .ok (.iadd, 1) := by decide +kernel
theorem dX5_append_32 : decode cX5_append 32 = .ok (.putfield 20, 3) := by decide +kernel
theorem dX5_append_35 : decode cX5_append 35 = .ok (.iinc 2 (-8), 3) := by decide +kernel
theorem dX5_append_38 : decode cX5_append 38 = .ok (.goto (-35), 3) := by decide +kernel
theorem dX5_append_41 : decode cX5_append 41 = .ok (.return_, 1) := by decide +kernel
theorem dX5_at_0 : decode cX5_at 0 = .ok (.iload_n 1, 1) := by decide +kernel
theorem dX5_at_1 : decode cX5_at 1 = .ok (.aload_n 0, 1) := by decide +kernel
theorem dX5_at_2 : decode cX5_at 2 = .ok (.getfield 20, 3) := by decide +kernel
theorem dX5_at_5 : decode cX5_at 5 = .ok (.if_icmp .ge 14, 3) := by decide +kernel
theorem dX5_at_8 : decode cX5_at 8 = .ok (.aload_n 0, 1) := by decide +kernel
theorem dX5_at_9 : decode cX5_at 9 = .ok (.getfield 14, 3) := by decide +kernel
theorem dX5_at_12 : decode cX5_at 12 = .ok (.iload_n 1, 1) := by decide +kernel
theorem dX5_at_13 : decode cX5_at 13 = .ok (.invokevirtual 28, 3) := by decide +kernel
theorem dX5_at_16 : decode cX5_at 16 = .ok (.goto 4, 3) := by decide +kernel
theorem dX5_at_19 : decode cX5_at 19 = .ok (.iconst 0, 1) := by decide +kernel
theorem dX5_at_20 : decode cX5_at 20 = .ok (.ireturn, 1) := by decide +kernel
theorem dX6_init_0 : decode cX6_init 0 = .ok (.aload_n 0, 1) := by decide +kernel
theorem dX6_init_1 : decode cX6_init 1 = .ok (.invokespecial 3, 3) := by decide +kernel
theorem dX6_init_4 : decode cX6_init 4 = .ok (.aload_n 0, 1) := by decide +kernel
theorem dX6_init_5 : decode cX6_init 5 = .ok (.new 9, 3) := by decide +kernel
theorem dX6_init_8 : decode cX6_init 8 = .ok (.dup, 1) := by decide +kernel
theorem dX6_init_9 : decode cX6_init 9 = .ok (.bipush 8, 2) := by decide +kernel
theorem dX6_init_11 : decode cX6_init 11 = .ok (.invokespecial 11, 3) := by decide +kernel
theorem dX6_init_14 : decode cX6_init 14 = .ok (.putfield 14, 3) := by decide +kernel
theorem dX6_init_17 : decode cX6_init 17 = .ok (.aload_n 0, 1) := by decide +kernel
theorem dX6_init_18 : decode cX6_init 18 = .ok (.new 9, 3) := by decide +kernel
theorem dX6_init_21 : decode cX6_init 21 = .ok (.dup, 1) := by decide +kernel
theorem dX6_init_22 : decode cX6_init 22 = .ok (.bipush 6, 2) := by decide +kernel
theorem dX6_init_24 : decode cX6_init 24 = .ok (.invokespecial 11, 3) := by decide +kernel
theorem dX6_init_27 : decode cX6_init 27 = .ok (.putfield 20, 3) := by decide +kernel
theorem dX6_init_30 : decode cX6_init 30 = .ok (.aload_n 0, 1) := by decide +kernel
theorem dX6_init_31 : decode cX6_init 31 = .ok (.new 23, 3) := by decide +kernel
theorem dX6_init_34 : decode cX6_init 34 = .ok (.dup, 1) := by decide +kernel
theorem dX6_init_35 : decode cX6_init 35 = .ok (.aload_n 1, 1) := by decide +kernel
theorem dX6_init_36 : decode cX6_init 36 = .ok (.invokespecial 25, 3) := by decide +kernel
theorem dX6_init_39 : decode cX6_init 39 = .ok (.putfield 28, 3) := by decide +kernel
theorem dX6_init_42 : decode cX6_init 42 = .ok (.aload_n 0, 1) := by decide +kernel
theorem dX6_init_43 : decode cX6_init 43 = .ok (.aload_n 2, 1) := by decide +kernel
theorem dX6_init_44 : decode cX6_init 44 = .ok (.putfield 32, 3) := by decide +kernel
theorem dX6_init_47 : decode cX6_init 47 = .ok (.return_, 1) := by decide +kernel
theorem dX6_readHive_0 : decode cX6_readHive 0 = .ok (.aload_n 0, 1) := by decide +kernel
theorem dX6_readHive_1 : decode cX6_readHive 1 = .ok (.iconst (-1), 1) := by decide +kernel
theorem dX6_readHive_2 : decode cX6_readHive 2 = .ok (.putfield 36, 3) := by decide +kernel
theorem dX6_readHive_5 : decode cX6_readHive 5 = .ok (.aload_n 0, 1) := by decide +kernel
theorem dX6_readHive_6 : decode cX6_readHive 6 = .ok (.iconst 0, 1) := by decide +kernel
theorem dX6_readHive_7 : decode cX6_readHive 7 = .ok (.putfield 40, 3) := by decide +kernel
theorem dX6_readHive_10 : decode cX6_readHive 10 = .ok (.aload_n 0, 1) := by decide +kernel
theorem dX6_readHive_11 : decode cX6_readHive 11 = .ok (.iconst (-1), 1) := by decide +kernel
theorem dX6_readHive_12 : decode cX6_readHive 12 = .ok (.putfield 43, 3) := by decide +kernel
theorem dX6_readHive_15 : decode cX6_readHive 15 = .ok (.aload_n 0, 1) := by decide +kernel
theorem dX6_readHive_16 : decode cX6_readHive 16 = .ok (.getfield 32, 3) := by decide +kernel
theorem dX6_readHive_19 : decode cX6_readHive 19 = .ok (.invokevirtual 46, 3) := by decide +kernel
theorem dX6_readHive_22 : decode cX6_readHive 22 = .ok (.aload_n 0, 1) := by decide +kernel
theorem dX6_readHive_23 : decode cX6_readHive 23 = .ok (.getfield 14, 3) := by decide +kernel
theorem dX6_readHive_26 : decode cX6_readHive 26 = .ok (.iconst 0, 1) := by decide +kernel
theorem dX6_readHive_27 : decode cX6_readHive 27 = .ok (.putfield 51, 3) := by decide +kernel
theorem dX6_readHive_30 : decode cX6_readHive 30 = .ok (.aload_n 0, 1) := by decide +kernel
theorem dX6_readHive_31 : decode cX6_readHive 31 = .ok (.getfield 20, 3) := by decide +kernel
theorem dX6_readHive_34 : decode cX6_readHive 34 = .ok (.iconst 0, 1) := by decide +kernel
theorem dX6_readHive_35 : decode cX6_readHive 35 = .ok (.putfield 51, 3) := by decide +kernel
theorem dX6_readHive_38 : decode cX6_readHive 38 = .ok (.aload_n 0, 1) := by decide +kernel
theorem dX6_readHive_39 : decode cX6_readHive 39 = .ok (.getfield 28, 3) := by decide +kernel
theorem dX6_readHive_42 : decode cX6_readHive 42 = .ok (.invokevirtual 54, 3) := by decide +kernel
theorem dX6_readHive_45 : decode cX6_readHive 45 = .ok (.iconst 0, 1) := by decide +kernel
theorem dX6_readHive_46 : decode cX6_readHive 46 = .ok (.istore_n 1, 1) := by decide +kernel
theorem dX6_readHive_47 : decode cX6_readHive 47 = .ok (.iload_n 1, 1) := by decide +kernel
theorem dX6_readHive_48 : decode cX6_readHive 48 = .ok (.sipush 400, 3) := by decide +kernel
theorem dX6_readHive_51 : decode cX6_readHive 51 = .ok (.if_icmp .ge 71, 3) := by decide +kernel
theorem dX6_readHive_54 : decode cX6_readHive 54 = .ok (.aload_n 0, 1) := by decide +kernel
theorem dX6_readHive_55 : decode cX6_readHive 55 = .ok (.getfield 28, 3) := by decide +kernel
theorem dX6_readHive_58 : decode cX6_readHive 58 = .ok (.getfield 57, 3) := by decide +kernel
theorem dX6_readHive_61 : decode cX6_readHive 61 = .ok (.ifCond .eq 61, 3) := by decide +kernel
theorem dX6_readHive_64 : decode cX6_readHive 64 = .ok (.aload_n 0, 1) := by decide +kernel
theorem dX6_readHive_65 : decode cX6_readHive 65 = .ok (.getfield 36, 3) := by decide +kernel
theorem dX6_readHive_68 : decode cX6_readHive 68 = .ok (.iconst (-1), 1) := by decide +kernel
theorem dX6_readHive_69 : decode cX6_readHive 69 = .ok (.if_icmp .ne 53, 3) := by decide +kernel
theorem dX6_readHive_72 : decode cX6_readHive 72 = .ok (.aload_n 0, 1) := by decide +kernel
theorem dX6_readHive_73 : decode cX6_readHive 73 = .ok (.sipush 256, 3) := by decide +kernel
theorem dX6_readHive_76 : decode cX6_readHive 76 = .ok (.invokevirtual 60, 3) := by decide +kernel
theorem dX6_readHive_79 : decode cX6_readHive 79 = .ok (.ifCond .eq 10, 3) := by decide +kernel
theorem dX6_readHive_82 : decode cX6_readHive 82 = .ok (.aload_n 0, 1) := by decide +kernel
theorem dX6_readHive_83 : decode cX6_readHive 83 = .ok (.invokevirtual 64, 3) := by decide +kernel
theorem dX6_readHive_86 : decode cX6_readHive 86 = .ok (.goto 24, 3) := by decide +kernel
theorem dX6_readHive_89 : decode cX6_readHive 89 = .ok (.aload_n 0, 1) := by decide +kernel
theorem dX6_readHive_90 : decode cX6_readHive 90 = .ok (.sipush 258, 3) := by decide +kernel
theorem dX6_readHive_93 : decode cX6_readHive 93 = .ok (.invokevirtual 60, 3) := by decide +kernel
theorem dX6_readHive_96 : decode cX6_readHive 96 = .ok (.ifCond .eq 10, 3) := by decide +kernel
theorem dX6_readHive_99 : decode cX6_readHive 99 = .ok (.aload_n 0, 1) := by decide +kernel
theorem dX6_readHive_100 : decode cX6_readHive 100 = .ok (.invokevirtual 67, 3) := by decide +kernel
theorem dX6_readHive_103 : decode cX6_readHive 103 = .ok (.goto 7, 3) := by decide +kernel
theorem dX6_readHive_106 : decode cX6_readHive 106 = .ok (.aload_n 0, 1) := by decide +kernel
theorem dX6_readHive_107 : decode cX6_readHive 107 = .ok (.invokevirtual 70, 3) := by decide +kernel
theorem dX6_readHive_110 : decode cX6_readHive 110 = .ok (.aload_n 0, 1) := by decide +kernel
theorem dX6_readHive_111 : decode cX6_readHive 111 = .ok (.bipush 59, 2) := by decide +kernel
theorem dX6_readHive_113 : decode cX6_readHive 113 = .ok (.invokevirtual 73, 3) := by decide +kernel
theorem dX6_readHive_116 : decode cX6_readHive 116 = .ok (.iinc 1 1, 3) := by decide +kernel
theorem dX6_readHive_119 : decode cX6_readHive 119 = .ok (.goto (-72), 3) := by decide +kernel
theorem dX6_readHive_122 : decode cX6_readHive 122 = .ok (.aload_n 0, 1) := by decide +kernel
theorem dX6_readHive_123 : decode cX6_readHive 123 = .ok (.getfield 36, 3) := by decide +kernel
theorem dX6_readHive_126 : decode cX6_readHive 126 = .ok (.iconst (-1), 1) := by decide +kernel
theorem dX6_readHive_127 : decode cX6_readHive 127 = .ok (.if_icmp .eq 7, 3) := by decide +kernel
theorem dX6_readHive_130 : decode cX6_readHive 130 = .ok (.iconst 1, 1) := by decide +kernel
theorem dX6_readHive_131 : decode cX6_readHive 131 = .ok (.goto 7, 3) := by decide +kernel
theorem dX6_readHive_134 : decode cX6_readHive 134 = .ok (.aload_n 0, 1) := by decide +kernel
theorem dX6_readHive_135 : decode cX6_readHive 135 = .ok (.getfield 40, 3) := by decide +kernel
theorem dX6_readHive_138 : decode cX6_readHive 138 = .ok (.ireturn, 1) := by decide +kernel
theorem dX6_errorPosition_0 : decode cX6_errorPosition 0 = .ok (.aload_n 0, 1) := by decide +kernel
theorem dX6_errorPosition_1 : decode cX6_errorPosition 1 = .ok (.getfield 36, 3) := by decide +kernel
theorem dX6_errorPosition_4 : decode cX6_errorPosition 4 = .ok (.iconst (-1), 1) := by decide +kernel
theorem dX6_errorPosition_5 : decode cX6_errorPosition 5 = .ok (.if_icmp .eq 10, 3) := by decide +kernel
theorem dX6_errorPosition_8 : decode cX6_errorPosition 8 = .ok (.aload_n 0, 1) := by decide +kernel
theorem dX6_errorPosition_9 : decode cX6_errorPosition 9 = .ok (.getfield 36, 3) := by decide +kernel
theorem dX6_errorPosition_12 : decode cX6_errorPosition 12 = .ok (.goto 7, 3) := by decide +kernel
theorem dX6_errorPosition_15 : decode cX6_errorPosition 15 = .ok (.aload_n 0, 1) := by decide +kernel
theorem dX6_errorPosition_16 : decode cX6_errorPosition 16 = .ok (.getfield 43, 3) := by decide +kernel
theorem dX6_errorPosition_19 : decode cX6_errorPosition 19 = .ok (.ireturn, 1) := by decide +kernel
theorem dX6_breakOff_0 : decode cX6_breakOff 0 = .ok (.aload_n 0, 1) := by decide +kernel
theorem dX6_breakOff_1 : decode cX6_breakOff 1 = .ok (.getfield 36, 3) := by decide +kernel
theorem dX6_breakOff_4 : decode cX6_breakOff 4 = .ok (.iconst (-1), 1) := by decide +kernel
theorem dX6_breakOff_5 : decode cX6_breakOff 5 = .ok (.if_icmp .ne 14, 3) := by decide +kernel
theorem dX6_breakOff_8 : decode cX6_breakOff 8 = .ok (.aload_n 0, 1) := by decide +kernel
theorem dX6_breakOff_9 : decode cX6_breakOff 9 = .ok (.aload_n 0, 1) := by decide +kernel
theorem dX6_breakOff_10 : decode cX6_breakOff 10 = .ok (.getfield 28, 3) := by decide +kernel
theorem dX6_breakOff_13 : decode cX6_breakOff 13 = .ok (.getfield 76, 3) := by decide +kernel
theorem dX6_breakOff_16 : decode cX6_breakOff 16 = .ok (.putfield 36, 3) := by decide +kernel
theorem dX6_breakOff_19 : decode cX6_breakOff 19 = .ok (.aload_n 0, 1) := by decide +kernel
theorem dX6_breakOff_20 : decode cX6_breakOff 20 = .ok (.getfield 28, 3) := by decide +kernel
theorem dX6_breakOff_23 : decode cX6_breakOff 23 = .ok (.iconst 1, 1) := by decide +kernel
theorem dX6_breakOff_24 : decode cX6_breakOff 24 = .ok (.putfield 57, 3) := by decide +kernel
theorem dX6_breakOff_27 : decode cX6_breakOff 27 = .ok (.return_, 1) := by decide +kernel
theorem dX6_blame_0 : decode cX6_blame 0 = .ok (.aload_n 0, 1) := by decide +kernel
theorem dX6_blame_1 : decode cX6_blame 1 = .ok (.getfield 40, 3) := by decide +kernel
theorem dX6_blame_4 : decode cX6_blame 4 = .ok (.ifCond .ne 19, 3) := by decide +kernel
theorem dX6_blame_7 : decode cX6_blame 7 = .ok (.aload_n 0, 1) := by decide +kernel
theorem dX6_blame_8 : decode cX6_blame 8 = .ok (.iload_n 1, 1) := by decide +kernel
theorem dX6_blame_9 : decode cX6_blame 9 = .ok (.putfield 40, 3) := by decide +kernel
theorem dX6_blame_12 : decode cX6_blame 12 = .ok (.aload_n 0, 1) := by decide +kernel
theorem dX6_blame_13 : decode cX6_blame 13 = .ok (.aload_n 0, 1) := by decide +kernel
theorem dX6_blame_14 : decode cX6_blame 14 = .ok (.getfield 28, 3) := by decide +kernel
theorem dX6_blame_17 : decode cX6_blame 17 = .ok (.getfield 76, 3) := by decide +kernel
theorem dX6_blame_20 : decode cX6_blame 20 = .ok (.putfield 43, 3) := by decide +kernel
theorem dX6_blame_23 : decode cX6_blame 23 = .ok (.return_, 1) := by decide +kernel
theorem dX6_accept_0 : decode cX6_accept 0 = .ok (.aload_n 0, 1) := by decide +kernel
theorem dX6_accept_1 : decode cX6_accept 1 = .ok (.getfield 28, 3) := by decide +kernel
theorem dX6_accept_4 : decode cX6_accept 4 = .ok (.getfield 57, 3) := by decide +kernel
theorem dX6_accept_7 : decode cX6_accept 7 = .ok (.iload_n 1, 1) := by decide +kernel
theorem dX6_accept_8 : decode cX6_accept 8 = .ok (.if_icmp .eq 5, 3) := by decide +kernel
theorem dX6_accept_11 : decode cX6_accept 11 = .ok (.iconst 0, 1) := by decide +kernel
theorem dX6_accept_12 : decode cX6_accept 12 = .ok (.ireturn, 1) := by decide +kernel
theorem dX6_accept_13 : decode cX6_accept 13 = .ok (.aload_n 0, 1) := by decide +kernel
theorem dX6_accept_14 : decode cX6_accept 14 = .ok (.getfield 28, 3) := by decide +kernel
theorem dX6_accept_17 : decode cX6_accept 17 = .ok (.invokevirtual 79, 3) := by decide +kernel
theorem dX6_accept_20 : decode cX6_accept 20 = .ok (.iconst 1, 1) := by decide +kernel
theorem dX6_accept_21 : decode cX6_accept 21 = .ok (.ireturn, 1) := by decide +kernel
theorem dX6_expect_0 : decode cX6_expect 0 = .ok (.aload_n 0, 1) := by decide +kernel
theorem dX6_expect_1 : decode cX6_expect 1 = .ok (.getfield 28, 3) := by decide +kernel
theorem dX6_expect_4 : decode cX6_expect 4 = .ok (.getfield 57, 3) := by decide +kernel
theorem dX6_expect_7 : decode cX6_expect 7 = .ok (.iload_n 1, 1) := by decide +kernel
theorem dX6_expect_8 : decode cX6_expect 8 = .ok (.if_icmp .ne 13, 3) := by decide +kernel
theorem dX6_expect_11 : decode cX6_expect 11 = .ok (.aload_n 0, 1) := by decide +kernel
theorem dX6_expect_12 : decode cX6_expect 12 = .ok (.getfield 28, 3) := by decide +kernel
theorem dX6_expect_15 : decode cX6_expect 15 = .ok (.invokevirtual 79, 3) := by decide +kernel
theorem dX6_expect_18 : decode cX6_expect 18 = .ok (.goto 7, 3) := by decide +kernel
theorem dX6_expect_21 : decode cX6_expect 21 = .ok (.aload_n 0, 1) := by decide +kernel
theorem dX6_expect_22 : decode cX6_expect 22 = .ok (.invokevirtual 82, 3) := by decide +kernel
theorem dX6_expect_25 : decode cX6_expect 25 = .ok (.return_, 1) := by decide +kernel
theorem dX6_readDrone_0 : decode cX6_readDrone 0 = .ok (.aload_n 0, 1) := by decide +kernel
theorem dX6_readDrone_1 : decode cX6_readDrone 1 = .ok (.aload_n 0, 1) := by decide +kernel
theorem dX6_readDrone_2 : decode cX6_readDrone 2 = .ok (.getfield 14, 3) := by decide +kernel
theorem dX6_readDrone_5 : decode cX6_readDrone 5 = .ok (.invokevirtual 85, 3) := by decide +kernel
theorem dX6_readDrone_8 : decode cX6_readDrone 8 = .ok (.aload_n 0, 1) := by decide +kernel
theorem dX6_readDrone_9 : decode cX6_readDrone 9 = .ok (.sipush 257, 3) := by decide +kernel
theorem dX6_readDrone_12 : decode cX6_readDrone 12 = .ok (.invokevirtual 73, 3) := by decide +kernel
theorem dX6_readDrone_15 : decode cX6_readDrone 15 = .ok (.aload_n 0, 1) := by decide +kernel
theorem dX6_readDrone_16 : decode cX6_readDrone 16 = .ok (.getfield 28, 3) := by decide +kernel
theorem dX6_readDrone_19 : decode cX6_readDrone 19 = .ok (.getfield 89, 3) := by decide +kernel
theorem dX6_readDrone_22 : decode cX6_readDrone 22 = .ok (.l2i, 1) := by decide +kernel
theorem dX6_readDrone_23 : decode cX6_readDrone 23 = .ok (.istore_n 1, 1) := by decide +kernel
theorem dX6_readDrone_24 : decode cX6_readDrone 24 = .ok (.iload_n 1, 1) := by decide +kernel
theorem dX6_readDrone_25 : decode cX6_readDrone 25 = .ok (.bipush 60, 2) := by decide +kernel
theorem dX6_readDrone_27 : decode cX6_readDrone 27 = .ok (.if_icmp .le 8, 3) := by decide +kernel
theorem dX6_readDrone_30 : decode cX6_readDrone 30 = .ok (.aload_n 0, 1) := by decide +kernel
theorem dX6_readDrone_31 : decode cX6_readDrone 31 = .ok (.iconst 5, 1) := by decide +kernel
theorem dX6_readDrone_32 : decode cX6_readDrone 32 = .ok (.invokevirtual 93, 3) := by decide +kernel
theorem dX6_readDrone_35 : decode cX6_readDrone 35 = .ok (.aload_n 0, 1) := by decide +kernel
theorem dX6_readDrone_36 : decode cX6_readDrone 36 = .ok (.iconst 3, 1) := by decide +kernel
theorem dX6_readDrone_37 : decode cX6_readDrone 37 = .ok (.invokevirtual 73, 3) := by decide +kernel
theorem dX6_readDrone_40 : decode cX6_readDrone 40 = .ok (.aload_n 0, 1) := by decide +kernel
theorem dX6_readDrone_41 : decode cX6_readDrone 41 = .ok (.getfield 32, 3) := by decide +kernel
theorem dX6_readDrone_44 : decode cX6_readDrone 44 = .ok (.getfield 96, 3) := by decide +kernel
theorem dX6_readDrone_47 : decode cX6_readDrone 47 = .ok (.aload_n 0, 1) := by decide +kernel
theorem dX6_readDrone_48 : decode cX6_readDrone 48 = .ok (.getfield 14, 3) := by decide +kernel
theorem dX6_readDrone_51 : decode cX6_readDrone 51 = .ok (.getfield 51, 3) := by decide +kernel
theorem dX6_readDrone_54 : decode cX6_readDrone 54 = .ok (.iconst 1, 1) := by decide +kernel
theorem dX6_readDrone_55 : decode cX6_readDrone 55 = .ok (.isub, 1) := by decide +kernel
theorem dX6_readDrone_56 : decode cX6_readDrone 56 = .ok (.iload_n 1, 1) := by decide +kernel
theorem dX6_readDrone_57 : decode cX6_readDrone 57 = .ok (.invokevirtual 100, 3) := by decide +kernel
theorem dX6_readDrone_60 : decode cX6_readDrone 60 = .ok (.aload_n 0, 1) := by decide +kernel
theorem dX6_readDrone_61 : decode cX6_readDrone 61 = .ok (.getfield 32, 3) := by decide +kernel
theorem dX6_readDrone_64 : decode cX6_readDrone 64 = .ok (.aload_n 0, 1) := by decide +kernel
theorem dX6_readDrone_65 : decode cX6_readDrone 65 = .ok (.getfield 14, 3) := by decide +kernel
theorem dX6_readDrone_68 : decode cX6_readDrone 68 = .ok (.getfield 51, 3) := by decide +kernel
theorem dX6_readDrone_71 : decode cX6_readDrone 71 = .ok (.putfield 106, 3) := by decide +kernel
theorem dX6_readDrone_74 : decode cX6_readDrone 74 = .ok (.return_, 1) := by decide +kernel
theorem dX6_readDeal_0 : decode cX6_readDeal 0 = .ok (.aload_n 0, 1) := by decide +kernel
theorem dX6_readDeal_1 : decode cX6_readDeal 1 = .ok (.aload_n 0, 1) := by decide +kernel
theorem dX6_readDeal_2 : decode cX6_readDeal 2 = .ok (.getfield 20, 3) := by decide +kernel
theorem dX6_readDeal_5 : decode cX6_readDeal 5 = .ok (.invokevirtual 85, 3) := by decide +kernel
theorem dX6_readDeal_8 : decode cX6_readDeal 8 = .ok (.aload_n 0, 1) := by decide +kernel
theorem dX6_readDeal_9 : decode cX6_readDeal 9 = .ok (.sipush 259, 3) := by decide +kernel
theorem dX6_readDeal_12 : decode cX6_readDeal 12 = .ok (.invokevirtual 73, 3) := by decide +kernel
theorem dX6_readDeal_15 : decode cX6_readDeal 15 = .ok (.aload_n 0, 1) := by decide +kernel
theorem dX6_readDeal_16 : decode cX6_readDeal 16 = .ok (.getfield 20, 3) := by decide +kernel
theorem dX6_readDeal_19 : decode cX6_readDeal 19 = .ok (.getfield 51, 3) := by decide +kernel
theorem dX6_readDeal_22 : decode cX6_readDeal 22 = .ok (.iconst 1, 1) := by decide +kernel
theorem dX6_readDeal_23 : decode cX6_readDeal 23 = .ok (.isub, 1) := by decide +kernel
theorem dX6_readDeal_24 : decode cX6_readDeal 24 = .ok (.istore_n 1, 1) := by decide +kernel
theorem dX6_readDeal_25 : decode cX6_readDeal 25 = .ok (.aload_n 0, 1) := by decide +kernel
theorem dX6_readDeal_26 : decode cX6_readDeal 26 = .ok (.iload_n 1, 1) := by decide +kernel
theorem dX6_readDeal_27 : decode cX6_readDeal 27 = .ok (.iconst 0, 1) := by decide +kernel
theorem dX6_readDeal_28 : decode cX6_readDeal 28 = .ok (.invokevirtual 109, 3) := by decide +kernel
theorem dX6_readDeal_31 : decode cX6_readDeal 31 = .ok (.iconst 1, 1) := by decide +kernel
theorem dX6_readDeal_32 : decode cX6_readDeal 32 = .ok (.istore_n 2, 1) := by decide +kernel
theorem dX6_readDeal_33 : decode cX6_readDeal 33 = .ok (.iconst 0, 1) := by decide +kernel
theorem dX6_readDeal_34 : decode cX6_readDeal 34 = .ok (.istore_n 3, 1) := by decide +kernel
theorem dX6_readDeal_35 : decode cX6_readDeal 35 = .ok (.iload_n 3, 1) := by decide +kernel
theorem dX6_readDeal_36 : decode cX6_readDeal 36 = .ok (.sipush 400, 3) := by decide +kernel
theorem dX6_readDeal_39 : decode cX6_readDeal 39 = .ok (.if_icmp .ge 27, 3) := by decide +kernel
theorem dX6_readDeal_42 : decode cX6_readDeal 42 = .ok (.aload_n 0, 1) := by decide +kernel
theorem dX6_readDeal_43 : decode cX6_readDeal 43 = .ok (.bipush 44, 2) := by decide +kernel
theorem dX6_readDeal_45 : decode cX6_readDeal 45 = .ok (.invokevirtual 60, 3) := by decide +kernel
theorem dX6_readDeal_48 : decode cX6_readDeal 48 = .ok (.ifCond .eq 18, 3) := by decide +kernel
theorem dX6_readDeal_51 : decode cX6_readDeal 51 = .ok (.aload_n 0, 1) := by decide +kernel
theorem dX6_readDeal_52 : decode cX6_readDeal 52 = .ok (.iload_n 1, 1) := by decide +kernel
theorem dX6_readDeal_53 : decode cX6_readDeal 53 = .ok (.iload_n 2, 1) := by decide +kernel
theorem dX6_readDeal_54 : decode cX6_readDeal 54 = .ok (.invokevirtual 109, 3) := by decide +kernel
theorem dX6_readDeal_57 : decode cX6_readDeal 57 = .ok (.iinc 2 1, 3) := by decide +kernel
theorem dX6_readDeal_60 : decode cX6_readDeal 60 = .ok (.iinc 3 1, 3) := by decide +kernel
theorem dX6_readDeal_63 : decode cX6_readDeal 63 = .ok (.goto (-28), 3) := by decide +kernel
theorem dX6_readDeal_66 : decode cX6_readDeal 66 = .ok (.aload_n 0, 1) := by decide +kernel
theorem dX6_readDeal_67 : decode cX6_readDeal 67 = .ok (.getfield 32, 3) := by decide +kernel
theorem dX6_readDeal_70 : decode cX6_readDeal 70 = .ok (.getfield 112, 3) := by decide +kernel
theorem dX6_readDeal_73 : decode cX6_readDeal 73 = .ok (.iload_n 1, 1) := by decide +kernel
theorem dX6_readDeal_74 : decode cX6_readDeal 74 = .ok (.iload_n 2, 1) := by decide +kernel
theorem dX6_readDeal_75 : decode cX6_readDeal 75 = .ok (.invokevirtual 100, 3) := by decide +kernel
theorem dX6_readDeal_78 : decode cX6_readDeal 78 = .ok (.aload_n 0, 1) := by decide +kernel
theorem dX6_readDeal_79 : decode cX6_readDeal 79 = .ok (.getfield 32, 3) := by decide +kernel
theorem dX6_readDeal_82 : decode cX6_readDeal 82 = .ok (.aload_n 0, 1) := by decide +kernel
theorem dX6_readDeal_83 : decode cX6_readDeal 83 = .ok (.getfield 20, 3) := by decide +kernel
theorem dX6_readDeal_86 : decode cX6_readDeal 86 = .ok (.getfield 51, 3) := by decide +kernel
theorem dX6_readDeal_89 : decode cX6_readDeal 89 = .ok (.putfield 115, 3) := by decide +kernel
theorem dX6_readDeal_92 : decode cX6_readDeal 92 = .ok (.return_, 1) := by decide +kernel
theorem dX6_readNewName_0 : decode cX6_readNewName 0 = .ok (.aload_n 0, 1) := by decide +kernel
theorem dX6_readNewName_1 : decode cX6_readNewName 1 = .ok (.getfield 14, 3) := by decide +kernel
theorem dX6_readNewName_4 : decode cX6_readNewName 4 = .ok (.aload_n 0, 1) := by decide +kernel
theorem dX6_readNewName_5 : decode cX6_readNewName 5 = .ok (.getfield 28, 3) := by decide +kernel
theorem dX6_readNewName_8 : decode cX6_readNewName 8 = .ok (.getfield 89, 3) := by decide +kernel
theorem dX6_readNewName_11 : decode cX6_readNewName 11 = .ok (.invokevirtual 118, 3) := by decide +kernel
theorem dX6_readNewName_14 : decode cX6_readNewName 14 = .ok (.iconst (-1), 1) := by decide +kernel
theorem dX6_readNewName_15 : decode cX6_readNewName 15 = .ok (.if_icmp .ne 21, 3) := by decide +kernel
theorem dX6_readNewName_18 : decode cX6_readNewName 18 = .ok (.aload_n 0, 1) := by decide +kernel
theorem dX6_readNewName_19 : decode cX6_readNewName 19 = .ok (.getfield 20, 3) := by decide +kernel
theorem dX6_readNewName_22 : decode cX6_readNewName 22 = .ok (.aload_n 0, 1) := by decide +kernel
theorem dX6_readNewName_23 : decode cX6_readNewName 23 = .ok (.getfield 28, 3) := by decide +kernel
theorem dX6_readNewName_26 : decode cX6_readNewName 26 = .ok (.getfield 89, 3) := by decide +kernel
theorem dX6_readNewName_29 : decode cX6_readNewName 29 = .ok (.invokevirtual 118, 3) := by decide +kernel
theorem dX6_readNewName_32 : decode cX6_readNewName 32 = .ok (.iconst (-1), 1) := by decide +kernel
theorem dX6_readNewName_33 : decode cX6_readNewName 33 = .ok (.if_icmp .eq 8, 3) := by decide +kernel
theorem dX6_readNewName_36 : decode cX6_readNewName 36 = .ok (.aload_n 0, 1) := by decide +kernel
theorem dX6_readNewName_37 : decode cX6_readNewName 37 = .ok (.iconst 2, 1) := by decide +kernel
theorem dX6_readNewName_38 : decode cX6_readNewName 38 = .ok (.invokevirtual 93, 3) := by decide +kernel
theorem dX6_readNewName_41 : decode cX6_readNewName 41 = .ok (.aload_n 1, 1) := by decide +kernel
theorem dX6_readNewName_42 : decode cX6_readNewName 42 = .ok (.invokevirtual 122, 3) := by decide +kernel
theorem dX6_readNewName_45 : decode cX6_readNewName 45 = .ok (.ifCond .eq 8, 3) := by decide +kernel
theorem dX6_readNewName_48 : decode cX6_readNewName 48 = .ok (.aload_n 0, 1) := by decide +kernel
theorem dX6_readNewName_49 : decode cX6_readNewName 49 = .ok (.iconst 4, 1) := by decide +kernel
theorem dX6_readNewName_50 : decode cX6_readNewName 50 = .ok (.invokevirtual 93, 3) := by decide +kernel
theorem dX6_readNewName_53 : decode cX6_readNewName 53 = .ok (.aload_n 1, 1) := by decide +kernel
theorem dX6_readNewName_54 : decode cX6_readNewName 54 = .ok (.aload_n 0, 1) := by decide +kernel
theorem dX6_readNewName_55 : decode cX6_readNewName 55 = .ok (.getfield 28, 3) := by decide +kernel
theorem dX6_readNewName_58 : decode cX6_readNewName 58 = .ok (.getfield 89, 3) := by decide +kernel
theorem dX6_readNewName_61 : decode cX6_readNewName 61 = .ok (.invokevirtual 126, 3) := by decide +kernel
theorem dX6_readNewName_64 : decode cX6_readNewName 64 = .ok (.aload_n 0, 1) := by decide +kernel
theorem dX6_readNewName_65 : decode cX6_readNewName 65 = .ok (.iconst 2, 1) := by decide +kernel
theorem dX6_readNewName_66 : decode cX6_readNewName 66 = .ok (.invokevirtual 73, 3) := by decide +kernel
theorem dX6_readNewName_69 : decode cX6_readNewName 69 = .ok (.return_, 1) := by decide +kernel
theorem dX6_readPart_0 : decode cX6_readPart 0 = .ok (.aload_n 0, 1) := by decide +kernel
theorem dX6_readPart_1 : decode cX6_readPart 1 = .ok (.aload_n 0, 1) := by decide +kernel
theorem dX6_readPart_2 : decode cX6_readPart 2 = .ok (.getfield 14, 3) := by decide +kernel
theorem dX6_readPart_5 : decode cX6_readPart 5 = .ok (.invokevirtual 130, 3) := by decide +kernel
theorem dX6_readPart_8 : decode cX6_readPart 8 = .ok (.istore_n 3, 1) := by decide +kernel
theorem dX6_readPart_9 : decode cX6_readPart 9 = .ok (.iload_n 2, 1) := by decide +kernel
theorem dX6_readPart_10 : decode cX6_readPart 10 = .ok (.bipush 6, 2) := by decide +kernel
theorem dX6_readPart_12 : decode cX6_readPart 12 = .ok (.if_icmp .lt 8, 3) := by decide +kernel
theorem dX6_readPart_15 : decode cX6_readPart 15 = .ok (.aload_n 0, 1) := by decide +kernel
theorem dX6_readPart_16 : decode cX6_readPart 16 = .ok (.iconst 4, 1) := by decide +kernel
theorem dX6_readPart_17 : decode cX6_readPart 17 = .ok (.invokevirtual 93, 3) := by decide +kernel
theorem dX6_readPart_20 : decode cX6_readPart 20 = .ok (.aload_n 0, 1) := by decide +kernel
theorem dX6_readPart_21 : decode cX6_readPart 21 = .ok (.iload_n 1, 1) := by decide +kernel
theorem dX6_readPart_22 : decode cX6_readPart 22 = .ok (.iload_n 2, 1) := by decide +kernel
theorem dX6_readPart_23 : decode cX6_readPart 23 = .ok (.iload_n 3, 1) := by decide +kernel
theorem dX6_readPart_24 : decode cX6_readPart 24 = .ok (.invokevirtual 134, 3) := by decide +kernel
theorem dX6_readPart_27 : decode cX6_readPart 27 = .ok (.ifCond .eq 8, 3) := by decide +kernel
theorem dX6_readPart_30 : decode cX6_readPart 30 = .ok (.aload_n 0, 1) := by decide +kernel
theorem dX6_readPart_31 : decode cX6_readPart 31 = .ok (.iconst 5, 1) := by decide +kernel
theorem dX6_readPart_32 : decode cX6_readPart 32 = .ok (.invokevirtual 93, 3) := by decide +kernel
theorem dX6_readPart_35 : decode cX6_readPart 35 = .ok (.aload_n 0, 1) := by decide +kernel
theorem dX6_readPart_36 : decode cX6_readPart 36 = .ok (.iconst 2, 1) := by decide +kernel
theorem dX6_readPart_37 : decode cX6_readPart 37 = .ok (.invokevirtual 73, 3) := by decide +kernel
theorem dX6_readPart_40 : decode cX6_readPart 40 = .ok (.aload_n 0, 1) := by decide +kernel
theorem dX6_readPart_41 : decode cX6_readPart 41 = .ok (.getfield 28, 3) := by decide +kernel
theorem dX6_readPart_44 : decode cX6_readPart 44 = .ok (.getfield 57, 3) := by decide +kernel
theorem dX6_readPart_47 : decode cX6_readPart 47 = .ok (.sipush 260, 3) := by decide +kernel
theorem dX6_readPart_50 : decode cX6_readPart 50 = .ok (.if_icmp .ne 7, 3) := by decide +kernel
theorem dX6_readPart_53 : decode cX6_readPart 53 = .ok (.iconst 1, 1) := by decide +kernel
theorem dX6_readPart_54 : decode cX6_readPart 54 = .ok (.goto 4, 3) := by decide +kernel
theorem dX6_readPart_57 : decode cX6_readPart 57 = .ok (.iconst 0, 1) := by decide +kernel
theorem dX6_readPart_58 : decode cX6_readPart 58 = .ok (.istore 4, 2) := by decide +kernel
theorem dX6_readPart_60 : decode cX6_readPart 60 = .ok (.aload_n 0, 1) := by decide +kernel
theorem dX6_readPart_61 : decode cX6_readPart 61 = .ok (.sipush 260, 3) := by decide +kernel
theorem dX6_readPart_64 : decode cX6_readPart 64 = .ok (.invokevirtual 60, 3) := by decide +kernel
theorem dX6_readPart_67 : decode cX6_readPart 67 = .ok (.ifCond .ne 10, 3) := by decide +kernel
theorem dX6_readPart_70 : decode cX6_readPart 70 = .ok (.aload_n 0, 1) := by decide +kernel
theorem dX6_readPart_71 : decode cX6_readPart 71 = .ok (.sipush 261, 3) := by decide +kernel
theorem dX6_readPart_74 : decode cX6_readPart 74 = .ok (.invokevirtual 73, 3) := by decide +kernel
theorem dX6_readPart_77 : decode cX6_readPart 77 = .ok (.aload_n 0, 1) := by decide +kernel
theorem dX6_readPart_78 : decode cX6_readPart 78 = .ok (.getfield 28, 3) := by decide +kernel
theorem dX6_readPart_81 : decode cX6_readPart 81 = .ok (.getfield 89, 3) := by decide +kernel
theorem dX6_readPart_84 : decode cX6_readPart 84 = .ok (.l2i, 1) := by decide +kernel
theorem dX6_readPart_85 : decode cX6_readPart 85 = .ok (.istore 5, 2) := by decide +kernel
theorem dX6_readPart_87 : decode cX6_readPart 87 = .ok (.iload 5, 2) := by decide +kernel
theorem dX6_readPart_89 : decode cX6_readPart 89 = .ok (.iconst 1, 1) := by decide +kernel
theorem dX6_readPart_90 : decode cX6_readPart 90 = .ok (.if_icmp .lt 10, 3) := by decide +kernel
theorem dX6_readPart_93 : decode cX6_readPart 93 = .ok (.iload 5, 2) := by decide +kernel
theorem dX6_readPart_95 : decode cX6_readPart 95 = .ok (.bipush 20, 2) := by decide +kernel
theorem dX6_readPart_97 : decode cX6_readPart 97 = .ok (.if_icmp .le 8, 3) := by decide +kernel
theorem dX6_readPart_100 : decode cX6_readPart 100 = .ok (.aload_n 0, 1) := by decide +kernel
theorem dX6_readPart_101 : decode cX6_readPart 101 = .ok (.iconst 5, 1) := by decide +kernel
theorem dX6_readPart_102 : decode cX6_readPart 102 = .ok (.invokevirtual 93, 3) := by decide +kernel
theorem dX6_readPart_105 : decode cX6_readPart 105 = .ok (.aload_n 0, 1) := by decide +kernel
theorem dX6_readPart_106 : decode cX6_readPart 106 = .ok (.iconst 3, 1) := by decide +kernel
theorem dX6_readPart_107 : decode cX6_readPart 107 = .ok (.invokevirtual 73, 3) := by decide +kernel
theorem dX6_readPart_110 : decode cX6_readPart 110 = .ok (.iload_n 2, 1) := by decide +kernel
theorem dX6_readPart_111 : decode cX6_readPart 111 = .ok (.bipush 6, 2) := by decide +kernel
theorem dX6_readPart_113 : decode cX6_readPart 113 = .ok (.if_icmp .ge 47, 3) := by decide +kernel
theorem dX6_readPart_116 : decode cX6_readPart 116 = .ok (.aload_n 0, 1) := by decide +kernel
theorem dX6_readPart_117 : decode cX6_readPart 117 = .ok (.getfield 32, 3) := by decide +kernel
theorem dX6_readPart_120 : decode cX6_readPart 120 = .ok (.getfield 138, 3) := by decide +kernel
theorem dX6_readPart_123 : decode cX6_readPart 123 = .ok (.iload_n 1, 1) := by decide +kernel
theorem dX6_readPart_124 : decode cX6_readPart 124 = .ok (.iload_n 2, 1) := by decide +kernel
theorem dX6_readPart_125 : decode cX6_readPart 125 = .ok (.invokestatic 141, 3) := by decide +kernel
theorem dX6_readPart_128 : decode cX6_readPart 128 = .ok (.iload_n 3, 1) := by decide +kernel
theorem dX6_readPart_129 : decode cX6_readPart 129 = .ok (.invokevirtual 100, 3) := by decide +kernel
theorem dX6_readPart_132 : decode cX6_readPart 132 = .ok (.aload_n 0, 1) := by decide +kernel
theorem dX6_readPart_133 : decode cX6_readPart 133 = .ok (.getfield 32, 3) := by decide +kernel
theorem dX6_readPart_136 : decode cX6_readPart 136 = .ok (.getfield 145, 3) := by decide +kernel
theorem dX6_readPart_139 : decode cX6_readPart 139 = .ok (.iload_n 1, 1) := by decide +kernel
theorem dX6_readPart_140 : decode cX6_readPart 140 = .ok (.iload_n 2, 1) := by decide +kernel
theorem dX6_readPart_141 : decode cX6_readPart 141 = .ok (.invokestatic 141, 3) := by decide +kernel
theorem dX6_readPart_144 : decode cX6_readPart 144 = .ok (.iload 4, 2) := by decide +kernel
theorem dX6_readPart_146 : decode cX6_readPart 146 = .ok (.ifCond .eq 9, 3) := by decide +kernel
theorem dX6_readPart_149 : decode cX6_readPart 149 = .ok (.iload 5, 2) := by decide +kernel
theorem dX6_readPart_151 : decode cX6_readPart 151 = .ok (.ineg, 1) := by decide +kernel
theorem dX6_readPart_152 : decode cX6_readPart 152 = .ok (.goto 5, 3) := by decide +kernel
theorem dX6_readPart_155 : decode cX6_readPart 155 = .ok (.iload 5, 2) := by decide +kernel
theorem dX6_readPart_157 : decode cX6_readPart 157 = .ok (.invokevirtual 100, 3) := by decide +kernel
theorem dX6_readPart_160 : decode cX6_readPart 160 = .ok (.return_, 1) := by decide +kernel
theorem dX6_hasPartOf_0 : decode cX6_hasPartOf 0 = .ok (.iconst 0, 1) := by decide +kernel
theorem dX6_hasPartOf_1 : decode cX6_hasPartOf 1 = .ok (.istore 4, 2) := by decide +kernel
theorem dX6_hasPartOf_3 : decode cX6_hasPartOf 3 = .ok (.iload 4, 2) := by decide +kernel
theorem dX6_hasPartOf_5 : decode cX6_hasPartOf 5 = .ok (.iload_n 2, 1) := by decide +kernel
theorem dX6_hasPartOf_6 : decode cX6_hasPartOf 6 = .ok (.if_icmp .ge 38, 3) := by decide +kernel
theorem dX6_hasPartOf_9 : decode cX6_hasPartOf 9 = .ok (.iload 4, 2) := by decide +kernel
theorem dX6_hasPartOf_11 : decode cX6_hasPartOf 11 = .ok (.bipush 6, 2) := by decide +kernel
theorem dX6_hasPartOf_13 : decode cX6_hasPartOf 13 = .ok (.if_icmp .ge 31, 3) := by decide +kernel
theorem dX6_hasPartOf_16 : decode cX6_hasPartOf 16 = .ok (.aload_n 0, 1) := by decide +kernel
theorem dX6_hasPartOf_17 : decode cX6_hasPartOf 17 = .ok (.getfield 32, 3) := by decide +kernel
theorem dX6_hasPartOf_20 : decode cX6_hasPartOf 20 = .ok (.getfield 138, 3) := by decide +kernel
theorem dX6_hasPartOf_23 : decode cX6_hasPartOf 23 = .ok (.iload_n 1, 1) := by decide +kernel
theorem dX6_hasPartOf_24 : decode cX6_hasPartOf 24 = .ok (.iload 4, 2) := by decide +kernel
theorem dX6_hasPartOf_26 : decode cX6_hasPartOf 26 = .ok (.invokestatic 141, 3) := by decide +kernel
theorem dX6_hasPartOf_29 : decode cX6_hasPartOf 29 = .ok (.invokevirtual 148, 3) := by decide +kernel
theorem dX6_hasPartOf_32 : decode cX6_hasPartOf 32 = .ok (.iload_n 3, 1) := by decide +kernel
theorem dX6_hasPartOf_33 : decode cX6_hasPartOf 33 = .ok (.if_icmp .ne 5, 3) := by decide +kernel
theorem dX6_hasPartOf_36 : decode cX6_hasPartOf 36 = .ok (.iconst 1, 1) := by decide +kernel
theorem dX6_hasPartOf_37 : decode cX6_hasPartOf 37 = .ok (.ireturn, 1) := by decide +kernel
theorem dX6_hasPartOf_38 : decode cX6_hasPartOf 38 = .ok (.iinc 4 1, 3) := by decide +kernel
theorem dX6_hasPartOf_41 : decode cX6_hasPartOf 41 = .ok (.goto (-38), 3) := by decide +kernel
theorem dX6_hasPartOf_44 : decode cX6_hasPartOf 44 = .ok (.iconst 0, 1) := by decide +kernel
theorem dX6_hasPartOf_45 : decode cX6_hasPartOf 45 = .ok (.ireturn, 1) := by decide +kernel
theorem dX6_lookUp_0 : decode cX6_lookUp 0 = .ok (.aload_n 1, 1) := by decide +kernel
theorem dX6_lookUp_1 : decode cX6_lookUp 1 = .ok (.aload_n 0, 1) := by decide +kernel
theorem dX6_lookUp_2 : decode cX6_lookUp 2 = .ok (.getfield 28, 3) := by decide +kernel
theorem dX6_lookUp_5 : decode cX6_lookUp 5 = .ok (.getfield 89, 3) := by decide +kernel
theorem dX6_lookUp_8 : decode cX6_lookUp 8 = .ok (.invokevirtual 118, 3) := by decide +kernel
theorem dX6_lookUp_11 : decode cX6_lookUp 11 = .ok (.istore_n 2, 1) := by decide +kernel
theorem dX6_lookUp_12 : decode cX6_lookUp 12 = .ok (.iload_n 2, 1) := by decide +kernel
theorem dX6_lookUp_13 : decode cX6_lookUp 13 = .ok (.iconst (-1), 1) := by decide +kernel
theorem dX6_lookUp_14 : decode cX6_lookUp 14 = .ok (.if_icmp .ne 8, 3) := by decide +kernel
theorem dX6_lookUp_17 : decode cX6_lookUp 17 = .ok (.aload_n 0, 1) := by decide +kernel
theorem dX6_lookUp_18 : decode cX6_lookUp 18 = .ok (.iconst 3, 1) := by decide +kernel
theorem dX6_lookUp_19 : decode cX6_lookUp 19 = .ok (.invokevirtual 93, 3) := by decide +kernel
theorem dX6_lookUp_22 : decode cX6_lookUp 22 = .ok (.iload_n 2, 1) := by decide +kernel
theorem dX6_lookUp_23 : decode cX6_lookUp 23 = .ok (.ireturn, 1) := by decide +kernel
theorem dX6_readKnownName_0 : decode cX6_readKnownName 0 = .ok (.aload_n 0, 1) := by decide +kernel
theorem dX6_readKnownName_1 : decode cX6_readKnownName 1 = .ok (.aload_n 1, 1) := by decide +kernel
theorem dX6_readKnownName_2 : decode cX6_readKnownName 2 = .ok (.invokevirtual 130, 3) := by decide +kernel
theorem dX6_readKnownName_5 : decode cX6_readKnownName 5 = .ok (.istore_n 2, 1) := by decide +kernel
theorem dX6_readKnownName_6 : decode cX6_readKnownName 6 = .ok (.aload_n 0, 1) := by decide +kernel
theorem dX6_readKnownName_7 : decode cX6_readKnownName 7 = .ok (.iconst 2, 1) := by decide +kernel
theorem dX6_readKnownName_8 : decode cX6_readKnownName 8 = .ok (.invokevirtual 73, 3) := by decide +kernel
theorem dX6_readKnownName_11 : decode cX6_readKnownName 11 = .ok (.iload_n 2, 1) := by decide +kernel
theorem dX6_readKnownName_12 : decode cX6_readKnownName 12 = .ok (.ireturn, 1) := by decide +kernel
theorem dX6_readDroneOrQueen_0 : decode cX6_readDroneOrQueen 0 = .ok (.aload_n 0, 1) := by decide +kernel
theorem dX6_readDroneOrQueen_1 : decode cX6_readDroneOrQueen 1 = .ok (.sipush 265, 3) := by decide +kernel
theorem dX6_readDroneOrQueen_4 : decode cX6_readDroneOrQueen 4 = .ok (.invokevirtual 60, 3) := by decide +kernel
theorem dX6_readDroneOrQueen_7 : decode cX6_readDroneOrQueen 7 = .ok (.ifCond .eq 8, 3) := by decide +kernel
theorem dX6_readDroneOrQueen_10 : decode cX6_readDroneOrQueen 10 = .ok (.bipush 8, 2) := by decide +kernel
theorem dX6_readDroneOrQueen_12 : decode cX6_readDroneOrQueen 12 = .ok (.goto 11, 3) := by decide +kernel
theorem dX6_readDroneOrQueen_15 : decode cX6_readDroneOrQueen 15 = .ok (.aload_n 0, 1) := by decide +kernel
theorem dX6_readDroneOrQueen_16 : decode cX6_readDroneOrQueen 16 = .ok (.aload_n 0, 1) := by decide +kernel
theorem dX6_readDroneOrQueen_17 : decode cX6_readDroneOrQueen 17 = .ok (.getfield 14, 3) := by decide +kernel
theorem dX6_readDroneOrQueen_20 : decode cX6_readDroneOrQueen 20 = .ok (.invokevirtual 152, 3) := by decide +kernel
theorem dX6_readDroneOrQueen_23 : decode cX6_readDroneOrQueen 23 = .ok (.ireturn, 1) := by decide +kernel
theorem dX6_readOrder_0 : decode cX6_readOrder 0 = .ok (.aload_n 0, 1) := by decide +kernel
theorem dX6_readOrder_1 : decode cX6_readOrder 1 = .ok (.getfield 32, 3) := by decide +kernel
theorem dX6_readOrder_4 : decode cX6_readOrder 4 = .ok (.getfield 155, 3) := by decide +kernel
theorem dX6_readOrder_7 : decode cX6_readOrder 7 = .ok (.bipush 16, 2) := by decide +kernel
theorem dX6_readOrder_9 : decode cX6_readOrder 9 = .ok (.if_icmp .lt 8, 3) := by decide +kernel
theorem dX6_readOrder_12 : decode cX6_readOrder 12 = .ok (.aload_n 0, 1) := by decide +kernel
theorem dX6_readOrder_13 : decode cX6_readOrder 13 = .ok (.iconst 4, 1) := by decide +kernel
theorem dX6_readOrder_14 : decode cX6_readOrder 14 = .ok (.invokevirtual 93, 3) := by decide +kernel
theorem dX6_readOrder_17 : decode cX6_readOrder 17 = .ok (.aload_n 0, 1) := by decide +kernel
theorem dX6_readOrder_18 : decode cX6_readOrder 18 = .ok (.getfield 28, 3) := by decide +kernel
theorem dX6_readOrder_21 : decode cX6_readOrder 21 = .ok (.getfield 57, 3) := by decide +kernel
theorem dX6_readOrder_24 : decode cX6_readOrder 24 = .ok (.istore_n 1, 1) := by decide +kernel
theorem dX6_readOrder_25 : decode cX6_readOrder 25 = .ok (.aload_n 0, 1) := by decide +kernel
theorem dX6_readOrder_26 : decode cX6_readOrder 26 = .ok (.sipush 262, 3) := by decide +kernel
theorem dX6_readOrder_29 : decode cX6_readOrder 29 = .ok (.invokevirtual 60, 3) := by decide +kernel
theorem dX6_readOrder_32 : decode cX6_readOrder 32 = .ok (.ifCond .eq 15, 3) := by decide +kernel
theorem dX6_readOrder_35 : decode cX6_readOrder 35 = .ok (.aload_n 0, 1) := by decide +kernel
theorem dX6_readOrder_36 : decode cX6_readOrder 36 = .ok (.aload_n 0, 1) := by decide +kernel
theorem dX6_readOrder_37 : decode cX6_readOrder 37 = .ok (.getfield 20, 3) := by decide +kernel
theorem dX6_readOrder_40 : decode cX6_readOrder 40 = .ok (.invokevirtual 152, 3) := by decide +kernel
theorem dX6_readOrder_43 : decode cX6_readOrder 43 = .ok (.istore_n 2, 1) := by decide +kernel
theorem dX6_readOrder_44 : decode cX6_readOrder 44 = .ok (.goto 25, 3) := by decide +kernel
theorem dX6_readOrder_47 : decode cX6_readOrder 47 = .ok (.aload_n 0, 1) := by decide +kernel
theorem dX6_readOrder_48 : decode cX6_readOrder 48 = .ok (.sipush 263, 3) := by decide +kernel
theorem dX6_readOrder_51 : decode cX6_readOrder 51 = .ok (.invokevirtual 60, 3) := by decide +kernel
theorem dX6_readOrder_54 : decode cX6_readOrder 54 = .ok (.ifCond .ne 10, 3) := by decide +kernel
theorem dX6_readOrder_57 : decode cX6_readOrder 57 = .ok (.aload_n 0, 1) := by decide +kernel
theorem dX6_readOrder_58 : decode cX6_readOrder 58 = .ok (.sipush 264, 3) := by decide +kernel
theorem dX6_readOrder_61 : decode cX6_readOrder 61 = .ok (.invokevirtual 73, 3) := by decide +kernel
theorem dX6_readOrder_64 : decode cX6_readOrder 64 = .ok (.aload_n 0, 1) := by decide +kernel
theorem dX6_readOrder_65 : decode cX6_readOrder 65 = .ok (.invokevirtual 158, 3) := by decide +kernel
theorem dX6_readOrder_68 : decode cX6_readOrder 68 = .ok (.istore_n 2, 1) := by decide +kernel
theorem dX6_readOrder_69 : decode cX6_readOrder 69 = .ok (.aload_n 0, 1) := by decide +kernel
theorem dX6_readOrder_70 : decode cX6_readOrder 70 = .ok (.getfield 32, 3) := by decide +kernel
theorem dX6_readOrder_73 : decode cX6_readOrder 73 = .ok (.getfield 162, 3) := by decide +kernel
theorem dX6_readOrder_76 : decode cX6_readOrder 76 = .ok (.istore_n 3, 1) := by decide +kernel
theorem dX6_readOrder_77 : decode cX6_readOrder 77 = .ok (.aload_n 0, 1) := by decide +kernel
theorem dX6_readOrder_78 : decode cX6_readOrder 78 = .ok (.sipush 266, 3) := by decide +kernel
theorem dX6_readOrder_81 : decode cX6_readOrder 81 = .ok (.invokevirtual 60, 3) := by decide +kernel
theorem dX6_readOrder_84 : decode cX6_readOrder 84 = .ok (.ifCond .eq 8, 3) := by decide +kernel
theorem dX6_readOrder_87 : decode cX6_readOrder 87 = .ok (.aload_n 0, 1) := by decide +kernel
theorem dX6_readOrder_88 : decode cX6_readOrder 88 = .ok (.iconst 0, 1) := by decide +kernel
theorem dX6_readOrder_89 : decode cX6_readOrder 89 = .ok (.invokevirtual 165, 3) := by decide +kernel
theorem dX6_readOrder_92 : decode cX6_readOrder 92 = .ok (.aload_n 0, 1) := by decide +kernel
theorem dX6_readOrder_93 : decode cX6_readOrder 93 = .ok (.getfield 32, 3) := by decide +kernel
theorem dX6_readOrder_96 : decode cX6_readOrder 96 = .ok (.iload_n 1, 1) := by decide +kernel
theorem dX6_readOrder_97 : decode cX6_readOrder 97 = .ok (.iload_n 2, 1) := by decide +kernel
theorem dX6_readOrder_98 : decode cX6_readOrder 98 = .ok (.iload_n 3, 1) := by decide +kernel
theorem dX6_readOrder_99 : decode cX6_readOrder 99 = .ok (.invokevirtual 168, 3) := by decide +kernel
theorem dX6_readOrder_102 : decode cX6_readOrder 102 = .ok (.return_, 1) := by decide +kernel
theorem dX6_readTest_0 : decode cX6_readTest 0 = .ok (.aload_n 0, 1) := by decide +kernel
theorem dX6_readTest_1 : decode cX6_readTest 1 = .ok (.iload_n 1, 1) := by decide +kernel
theorem dX6_readTest_2 : decode cX6_readTest 2 = .ok (.invokevirtual 172, 3) := by decide +kernel
theorem dX6_readTest_5 : decode cX6_readTest 5 = .ok (.iconst 0, 1) := by decide +kernel
theorem dX6_readTest_6 : decode cX6_readTest 6 = .ok (.istore_n 2, 1) := by decide +kernel
theorem dX6_readTest_7 : decode cX6_readTest 7 = .ok (.iload_n 2, 1) := by decide +kernel
theorem dX6_readTest_8 : decode cX6_readTest 8 = .ok (.sipush 400, 3) := by decide +kernel
theorem dX6_readTest_11 : decode cX6_readTest 11 = .ok (.if_icmp .ge 35, 3) := by decide +kernel
theorem dX6_readTest_14 : decode cX6_readTest 14 = .ok (.aload_n 0, 1) := by decide +kernel
theorem dX6_readTest_15 : decode cX6_readTest 15 = .ok (.sipush 275, 3) := by decide +kernel
theorem dX6_readTest_18 : decode cX6_readTest 18 = .ok (.invokevirtual 60, 3) := by decide +kernel
theorem dX6_readTest_21 : decode cX6_readTest 21 = .ok (.ifCond .eq 25, 3) := by decide +kernel
theorem dX6_readTest_24 : decode cX6_readTest 24 = .ok (.aload_n 0, 1) := by decide +kernel
theorem dX6_readTest_25 : decode cX6_readTest 25 = .ok (.iload_n 1, 1) := by decide +kernel
theorem dX6_readTest_26 : decode cX6_readTest 26 = .ok (.invokevirtual 172, 3) := by decide +kernel
theorem dX6_readTest_29 : decode cX6_readTest 29 = .ok (.aload_n 0, 1) := by decide +kernel
theorem dX6_readTest_30 : decode cX6_readTest 30 = .ok (.getfield 32, 3) := by decide +kernel
theorem dX6_readTest_33 : decode cX6_readTest 33 = .ok (.sipush 275, 3) := by decide +kernel
theorem dX6_readTest_36 : decode cX6_readTest 36 = .ok (.iconst 0, 1) := by decide +kernel
theorem dX6_readTest_37 : decode cX6_readTest 37 = .ok (.invokevirtual 175, 3) := by decide +kernel
theorem dX6_readTest_40 : decode cX6_readTest 40 = .ok (.iinc 2 1, 3) := by decide +kernel
theorem dX6_readTest_43 : decode cX6_readTest 43 = .ok (.goto (-36), 3) := by decide +kernel
theorem dX6_readTest_46 : decode cX6_readTest 46 = .ok (.return_, 1) := by decide +kernel
theorem dX6_readBoth_0 : decode cX6_readBoth 0 = .ok (.aload_n 0, 1) := by decide +kernel
theorem dX6_readBoth_1 : decode cX6_readBoth 1 = .ok (.iload_n 1, 1) := by decide +kernel
theorem dX6_readBoth_2 : decode cX6_readBoth 2 = .ok (.invokevirtual 178, 3) := by decide +kernel
theorem dX6_readBoth_5 : decode cX6_readBoth 5 = .ok (.iconst 0, 1) := by decide +kernel
theorem dX6_readBoth_6 : decode cX6_readBoth 6 = .ok (.istore_n 2, 1) := by decide +kernel
theorem dX6_readBoth_7 : decode cX6_readBoth 7 = .ok (.iload_n 2, 1) := by decide +kernel
theorem dX6_readBoth_8 : decode cX6_readBoth 8 = .ok (.sipush 400, 3) := by decide +kernel
theorem dX6_readBoth_11 : decode cX6_readBoth 11 = .ok (.if_icmp .ge 35, 3) := by decide +kernel
theorem dX6_readBoth_14 : decode cX6_readBoth 14 = .ok (.aload_n 0, 1) := by decide +kernel
theorem dX6_readBoth_15 : decode cX6_readBoth 15 = .ok (.sipush 274, 3) := by decide +kernel
theorem dX6_readBoth_18 : decode cX6_readBoth 18 = .ok (.invokevirtual 60, 3) := by decide +kernel
theorem dX6_readBoth_21 : decode cX6_readBoth 21 = .ok (.ifCond .eq 25, 3) := by decide +kernel
theorem dX6_readBoth_24 : decode cX6_readBoth 24 = .ok (.aload_n 0, 1) := by decide +kernel
theorem dX6_readBoth_25 : decode cX6_readBoth 25 = .ok (.iload_n 1, 1) := by decide +kernel
theorem dX6_readBoth_26 : decode cX6_readBoth 26 = .ok (.invokevirtual 178, 3) := by decide +kernel
theorem dX6_readBoth_29 : decode cX6_readBoth 29 = .ok (.aload_n 0, 1) := by decide +kernel
theorem dX6_readBoth_30 : decode cX6_readBoth 30 = .ok (.getfield 32, 3) := by decide +kernel
theorem dX6_readBoth_33 : decode cX6_readBoth 33 = .ok (.sipush 274, 3) := by decide +kernel
theorem dX6_readBoth_36 : decode cX6_readBoth 36 = .ok (.iconst 0, 1) := by decide +kernel
theorem dX6_readBoth_37 : decode cX6_readBoth 37 = .ok (.invokevirtual 175, 3) := by decide +kernel
theorem dX6_readBoth_40 : decode cX6_readBoth 40 = .ok (.iinc 2 1, 3) := by decide +kernel
theorem dX6_readBoth_43 : decode cX6_readBoth 43 = .ok (.goto (-36), 3) := by decide +kernel
theorem dX6_readBoth_46 : decode cX6_readBoth 46 = .ok (.return_, 1) := by decide +kernel
theorem dX6_readSingle_0 : decode cX6_readSingle 0 = .ok (.aload_n 0, 1) := by decide +kernel
theorem dX6_readSingle_1 : decode cX6_readSingle 1 = .ok (.getfield 28, 3) := by decide +kernel
theorem dX6_readSingle_4 : decode cX6_readSingle 4 = .ok (.getfield 57, 3) := by decide +kernel
theorem dX6_readSingle_7 : decode cX6_readSingle 7 = .ok (.sipush 273, 3) := by decide +kernel
theorem dX6_readSingle_10 : decode cX6_readSingle 10 = .ok (.if_icmp .ne 35, 3) := by decide +kernel
theorem dX6_readSingle_13 : decode cX6_readSingle 13 = .ok (.aload_n 0, 1) := by decide +kernel
theorem dX6_readSingle_14 : decode cX6_readSingle 14 = .ok (.sipush 273, 3) := by decide +kernel
theorem dX6_readSingle_17 : decode cX6_readSingle 17 = .ok (.iload_n 1, 1) := by decide +kernel
theorem dX6_readSingle_18 : decode cX6_readSingle 18 = .ok (.invokevirtual 181, 3) := by decide +kernel
theorem dX6_readSingle_21 : decode cX6_readSingle 21 = .ok (.ifCond .eq 113, 3) := by decide +kernel
theorem dX6_readSingle_24 : decode cX6_readSingle 24 = .ok (.aload_n 0, 1) := by decide +kernel
theorem dX6_readSingle_25 : decode cX6_readSingle 25 = .ok (.iload_n 1, 1) := by decide +kernel
theorem dX6_readSingle_26 : decode cX6_readSingle 26 = .ok (.iconst 1, 1) := by decide +kernel
theorem dX6_readSingle_27 : decode cX6_readSingle 27 = .ok (.iadd, 1) := by decide +kernel
theorem dX6_readSingle_28 : decode cX6_readSingle 28 = .ok (.invokevirtual 178, 3) := by decide +kernel
theorem dX6_readSingle_31 : decode cX6_readSingle 31 = .ok (.aload_n 0, 1) := by decide +kernel
theorem dX6_readSingle_32 : decode cX6_readSingle 32 = .ok (.getfield 32, 3) := by decide +kernel
theorem dX6_readSingle_35 : decode cX6_readSingle 35 = .ok (.sipush 273, 3) := by decide +kernel
theorem dX6_readSingle_38 : decode cX6_readSingle 38 = .ok (.iconst 0, 1) := by decide +kernel
theorem dX6_readSingle_39 : decode cX6_readSingle 39 = .ok (.invokevirtual 175, 3) := by decide +kernel
theorem dX6_readSingle_42 : decode cX6_readSingle 42 = .ok (.goto 92, 3) := by decide +kernel
theorem dX6_readSingle_45 : decode cX6_readSingle 45 = .ok (.aload_n 0, 1) := by decide +kernel
theorem dX6_readSingle_46 : decode cX6_readSingle 46 = .ok (.getfield 28, 3) := by decide +kernel
theorem dX6_readSingle_49 : decode cX6_readSingle 49 = .ok (.getfield 57, 3) := by decide +kernel
theorem dX6_readSingle_52 : decode cX6_readSingle 52 = .ok (.bipush 91, 2) := by decide +kernel
theorem dX6_readSingle_54 : decode cX6_readSingle 54 = .ok (.if_icmp .ne 29, 3) := by decide +kernel
theorem dX6_readSingle_57 : decode cX6_readSingle 57 = .ok (.aload_n 0, 1) := by decide +kernel
theorem dX6_readSingle_58 : decode cX6_readSingle 58 = .ok (.bipush 91, 2) := by decide +kernel
theorem dX6_readSingle_60 : decode cX6_readSingle 60 = .ok (.iload_n 1, 1) := by decide +kernel
theorem dX6_readSingle_61 : decode cX6_readSingle 61 = .ok (.invokevirtual 181, 3) := by decide +kernel
theorem dX6_readSingle_64 : decode cX6_readSingle 64 = .ok (.ifCond .eq 70, 3) := by decide +kernel
theorem dX6_readSingle_67 : decode cX6_readSingle 67 = .ok (.aload_n 0, 1) := by decide +kernel
theorem dX6_readSingle_68 : decode cX6_readSingle 68 = .ok (.iload_n 1, 1) := by decide +kernel
theorem dX6_readSingle_69 : decode cX6_readSingle 69 = .ok (.iconst 1, 1) := by decide +kernel
theorem dX6_readSingle_70 : decode cX6_readSingle 70 = .ok (.iadd, 1) := by decide +kernel
theorem dX6_readSingle_71 : decode cX6_readSingle 71 = .ok (.invokevirtual 165, 3) := by decide +kernel
theorem dX6_readSingle_74 : decode cX6_readSingle 74 = .ok (.aload_n 0, 1) := by decide +kernel
theorem dX6_readSingle_75 : decode cX6_readSingle 75 = .ok (.bipush 93, 2) := by decide +kernel
theorem dX6_readSingle_77 : decode cX6_readSingle 77 = .ok (.invokevirtual 73, 3) := by decide +kernel
theorem dX6_readSingle_80 : decode cX6_readSingle 80 = .ok (.goto 54, 3) := by decide +kernel
theorem dX6_readSingle_83 : decode cX6_readSingle 83 = .ok (.aload_n 0, 1) := by decide +kernel
theorem dX6_readSingle_84 : decode cX6_readSingle 84 = .ok (.sipush 272, 3) := by decide +kernel
theorem dX6_readSingle_87 : decode cX6_readSingle 87 = .ok (.invokevirtual 60, 3) := by decide +kernel
theorem dX6_readSingle_90 : decode cX6_readSingle 90 = .ok (.ifCond .eq 20, 3) := by decide +kernel
theorem dX6_readSingle_93 : decode cX6_readSingle 93 = .ok (.aload_n 0, 1) := by decide +kernel
theorem dX6_readSingle_94 : decode cX6_readSingle 94 = .ok (.getfield 32, 3) := by decide +kernel
theorem dX6_readSingle_97 : decode cX6_readSingle 97 = .ok (.sipush 272, 3) := by decide +kernel
theorem dX6_readSingle_100 : decode cX6_readSingle 100 = .ok (.aload_n 0, 1) := by decide +kernel
theorem dX6_readSingle_101 : decode cX6_readSingle 101 = .ok (.invokevirtual 158, 3) := by decide +kernel
theorem dX6_readSingle_104 : decode cX6_readSingle 104 = .ok (.invokevirtual 175, 3) := by decide +kernel
theorem dX6_readSingle_107 : decode cX6_readSingle 107 = .ok (.goto 27, 3) := by decide +kernel
theorem dX6_readSingle_110 : decode cX6_readSingle 110 = .ok (.aload_n 0, 1) := by decide +kernel
theorem dX6_readSingle_111 : decode cX6_readSingle 111 = .ok (.iload_n 1, 1) := by decide +kernel
theorem dX6_readSingle_112 : decode cX6_readSingle 112 = .ok (.invokevirtual 185, 3) := by decide +kernel
theorem dX6_readSingle_115 : decode cX6_readSingle 115 = .ok (.aload_n 0, 1) := by decide +kernel
theorem dX6_readSingle_116 : decode cX6_readSingle 116 = .ok (.invokevirtual 188, 3) := by decide +kernel
theorem dX6_readSingle_119 : decode cX6_readSingle 119 = .ok (.istore_n 2, 1) := by decide +kernel
theorem dX6_readSingle_120 : decode cX6_readSingle 120 = .ok (.aload_n 0, 1) := by decide +kernel
theorem dX6_readSingle_121 : decode cX6_readSingle 121 = .ok (.iload_n 1, 1) := by decide +kernel
theorem dX6_readSingle_122 : decode cX6_readSingle 122 = .ok (.invokevirtual 185, 3) := by decide +kernel
theorem dX6_readSingle_125 : decode cX6_readSingle 125 = .ok (.aload_n 0, 1) := by decide +kernel
theorem dX6_readSingle_126 : decode cX6_readSingle 126 = .ok (.getfield 32, 3) := by decide +kernel
theorem dX6_readSingle_129 : decode cX6_readSingle 129 = .ok (.iload_n 2, 1) := by decide +kernel
theorem dX6_readSingle_130 : decode cX6_readSingle 130 = .ok (.iconst 0, 1) := by decide +kernel
theorem dX6_readSingle_131 : decode cX6_readSingle 131 = .ok (.invokevirtual 175, 3) := by decide +kernel
theorem dX6_readSingle_134 : decode cX6_readSingle 134 = .ok (.return_, 1) := by decide +kernel
theorem dX6_readComparingSign_0 : decode cX6_readComparingSign 0 = .ok (.aload_n 0, 1) := by decide +kernel
theorem dX6_readComparingSign_1 : decode cX6_readComparingSign 1 = .ok (.getfield 28, 3) := by decide +kernel
theorem dX6_readComparingSign_4 : decode cX6_readComparingSign 4 = .ok (.getfield 57, 3) := by decide +kernel
theorem dX6_readComparingSign_7 : decode cX6_readComparingSign 7 = .ok (.istore_n 1, 1) := by decide +kernel
theorem dX6_readComparingSign_8 : decode cX6_readComparingSign 8 = .ok (.iload_n 1, 1) := by decide +kernel
theorem dX6_readComparingSign_9 : decode cX6_readComparingSign 9 = .ok (.bipush 60, 2) := by decide +kernel
theorem dX6_readComparingSign_11 : decode cX6_readComparingSign 11 = .ok (.if_icmp .eq 29, 3) := by decide +kernel
theorem dX6_readComparingSign_14 : decode cX6_readComparingSign 14 = .ok (.iload_n 1, 1) := by decide +kernel
theorem dX6_readComparingSign_15 : decode cX6_readComparingSign 15 = .ok (.bipush 62, 2) := by decide +kernel
theorem dX6_readComparingSign_17 : decode cX6_readComparingSign 17 = .ok (.if_icmp .eq 23, 3) := by decide +kernel
theorem dX6_readComparingSign_20 : decode cX6_readComparingSign 20 = .ok (.iload_n 1, 1) := by decide +kernel
theorem dX6_readComparingSign_21 : decode cX6_readComparingSign 21 = .ok (.bipush 61, 2) := by decide +kernel
theorem dX6_readComparingSign_23 : decode cX6_readComparingSign 23 = .ok (.if_icmp .eq 17, 3) := by decide +kernel
theorem dX6_readComparingSign_26 : decode cX6_readComparingSign 26 = .ok (.iload_n 1, 1) := by decide +kernel
theorem dX6_readComparingSign_27 : decode cX6_readComparingSign 27 = .ok (.sipush 188, 3) := by decide +kernel
theorem dX6_readComparingSign_30 : decode cX6_readComparingSign 30 = .ok (.if_icmp .eq 10, 3) := by decide +kernel
theorem dX6_readComparingSign_33 : decode cX6_readComparingSign 33 = .ok (.iload_n 1, 1) := by decide +kernel
theorem dX6_readComparingSign_34 : decode cX6_readComparingSign 34 = .ok (.sipush 190, 3) := by decide +kernel
theorem dX6_readComparingSign_37 : decode cX6_readComparingSign 37 = .ok (.if_icmp .ne 13, 3) := by decide +kernel
theorem dX6_readComparingSign_40 : decode cX6_readComparingSign 40 = .ok (.aload_n 0, 1) := by decide +kernel
theorem dX6_readComparingSign_41 : decode cX6_readComparingSign 41 = .ok (.getfield 28, 3) := by decide +kernel
theorem dX6_readComparingSign_44 : decode cX6_readComparingSign 44 = .ok (.invokevirtual 79, 3) := by decide +kernel
theorem dX6_readComparingSign_47 : decode cX6_readComparingSign 47 = .ok (.goto 7, 3) := by decide +kernel
theorem dX6_readComparingSign_50 : decode cX6_readComparingSign 50 = .ok (.aload_n 0, 1) := by decide +kernel
theorem dX6_readComparingSign_51 : decode cX6_readComparingSign 51 = .ok (.invokevirtual 82, 3) := by decide +kernel
theorem dX6_readComparingSign_54 : decode cX6_readComparingSign 54 = .ok (.iload_n 1, 1) := by decide +kernel
theorem dX6_readComparingSign_55 : decode cX6_readComparingSign 55 = .ok (.ireturn, 1) := by decide +kernel
theorem dX6_readSum_0 : decode cX6_readSum 0 = .ok (.aload_n 0, 1) := by decide +kernel
theorem dX6_readSum_1 : decode cX6_readSum 1 = .ok (.iload_n 1, 1) := by decide +kernel
theorem dX6_readSum_2 : decode cX6_readSum 2 = .ok (.invokevirtual 191, 3) := by decide +kernel
theorem dX6_readSum_5 : decode cX6_readSum 5 = .ok (.iconst 0, 1) := by decide +kernel
theorem dX6_readSum_6 : decode cX6_readSum 6 = .ok (.istore_n 2, 1) := by decide +kernel
theorem dX6_readSum_7 : decode cX6_readSum 7 = .ok (.iload_n 2, 1) := by decide +kernel
theorem dX6_readSum_8 : decode cX6_readSum 8 = .ok (.sipush 400, 3) := by decide +kernel
theorem dX6_readSum_11 : decode cX6_readSum 11 = .ok (.if_icmp .ge 62, 3) := by decide +kernel
theorem dX6_readSum_14 : decode cX6_readSum 14 = .ok (.aload_n 0, 1) := by decide +kernel
theorem dX6_readSum_15 : decode cX6_readSum 15 = .ok (.getfield 28, 3) := by decide +kernel
theorem dX6_readSum_18 : decode cX6_readSum 18 = .ok (.getfield 57, 3) := by decide +kernel
theorem dX6_readSum_21 : decode cX6_readSum 21 = .ok (.bipush 43, 2) := by decide +kernel
theorem dX6_readSum_23 : decode cX6_readSum 23 = .ok (.if_icmp .eq 15, 3) := by decide +kernel
theorem dX6_readSum_26 : decode cX6_readSum 26 = .ok (.aload_n 0, 1) := by decide +kernel
theorem dX6_readSum_27 : decode cX6_readSum 27 = .ok (.getfield 28, 3) := by decide +kernel
theorem dX6_readSum_30 : decode cX6_readSum 30 = .ok (.getfield 57, 3) := by decide +kernel
theorem dX6_readSum_33 : decode cX6_readSum 33 = .ok (.bipush 45, 2) := by decide +kernel
theorem dX6_readSum_35 : decode cX6_readSum 35 = .ok (.if_icmp .ne 38, 3) := by decide +kernel
theorem dX6_readSum_38 : decode cX6_readSum 38 = .ok (.aload_n 0, 1) := by decide +kernel
theorem dX6_readSum_39 : decode cX6_readSum 39 = .ok (.getfield 28, 3) := by decide +kernel
theorem dX6_readSum_42 : decode cX6_readSum 42 = .ok (.getfield 57, 3) := by decide +kernel
theorem dX6_readSum_45 : decode cX6_readSum 45 = .ok (.istore_n 3, 1) := by decide +kernel
theorem dX6_readSum_46 : decode cX6_readSum 46 = .ok (.aload_n 0, 1) := by decide +kernel
theorem dX6_readSum_47 : decode cX6_readSum 47 = .ok (.getfield 28, 3) := by decide +kernel
theorem dX6_readSum_50 : decode cX6_readSum 50 = .ok (.invokevirtual 79, 3) := by decide +kernel
theorem dX6_readSum_53 : decode cX6_readSum 53 = .ok (.aload_n 0, 1) := by decide +kernel
theorem dX6_readSum_54 : decode cX6_readSum 54 = .ok (.iload_n 1, 1) := by decide +kernel
theorem dX6_readSum_55 : decode cX6_readSum 55 = .ok (.invokevirtual 191, 3) := by decide +kernel
theorem dX6_readSum_58 : decode cX6_readSum 58 = .ok (.aload_n 0, 1) := by decide +kernel
theorem dX6_readSum_59 : decode cX6_readSum 59 = .ok (.getfield 32, 3) := by decide +kernel
theorem dX6_readSum_62 : decode cX6_readSum 62 = .ok (.iload_n 3, 1) := by decide +kernel
theorem dX6_readSum_63 : decode cX6_readSum 63 = .ok (.iconst 0, 1) := by decide +kernel
theorem dX6_readSum_64 : decode cX6_readSum 64 = .ok (.invokevirtual 175, 3) := by decide +kernel
theorem dX6_readSum_67 : decode cX6_readSum 67 = .ok (.iinc 2 1, 3) := by decide +kernel
theorem dX6_readSum_70 : decode cX6_readSum 70 = .ok (.goto (-63), 3) := by decide +kernel
theorem dX6_readSum_73 : decode cX6_readSum 73 = .ok (.return_, 1) := by decide +kernel
theorem dX6_readProduct_0 : decode cX6_readProduct 0 = .ok (.aload_n 0, 1) := by decide +kernel
theorem dX6_readProduct_1 : decode cX6_readProduct 1 = .ok (.iload_n 1, 1) := by decide +kernel
theorem dX6_readProduct_2 : decode cX6_readProduct 2 = .ok (.invokevirtual 194, 3) := by decide +kernel
theorem dX6_readProduct_5 : decode cX6_readProduct 5 = .ok (.iconst 0, 1) := by decide +kernel
theorem dX6_readProduct_6 : decode cX6_readProduct 6 = .ok (.istore_n 2, 1) := by decide +kernel
theorem dX6_readProduct_7 : decode cX6_readProduct 7 = .ok (.iload_n 2, 1) := by decide +kernel
theorem dX6_readProduct_8 : decode cX6_readProduct 8 = .ok (.sipush 400, 3) := by decide +kernel
theorem dX6_readProduct_11 : decode cX6_readProduct 11 = .ok (.if_icmp .ge 62, 3) := by decide +kernel
theorem dX6_readProduct_14 : decode cX6_readProduct 14 = .ok (.aload_n 0, 1) := by decide +kernel
theorem dX6_readProduct_15 : decode cX6_readProduct 15 = .ok (.getfield 28, 3) := by decide +kernel
theorem dX6_readProduct_18 : decode cX6_readProduct 18 = .ok (.getfield 57, 3) := by decide +kernel
theorem dX6_readProduct_21 : decode cX6_readProduct 21 = .ok (.bipush 42, 2) := by decide +kernel
theorem dX6_readProduct_23 : decode cX6_readProduct 23 = .ok (.if_icmp .eq 15, 3) := by decide +kernel
theorem dX6_readProduct_26 : decode cX6_readProduct 26 = .ok (.aload_n 0, 1) := by decide +kernel
theorem dX6_readProduct_27 : decode cX6_readProduct 27 = .ok (.getfield 28, 3) := by decide +kernel
theorem dX6_readProduct_30 : decode cX6_readProduct 30 = .ok (.getfield 57, 3) := by decide +kernel
theorem dX6_readProduct_33 : decode cX6_readProduct 33 = .ok (.bipush 47, 2) := by decide +kernel
theorem dX6_readProduct_35 : decode cX6_readProduct 35 = .ok (.if_icmp .ne 38, 3) := by decide +kernel
theorem dX6_readProduct_38 : decode cX6_readProduct 38 = .ok (.aload_n 0, 1) := by decide +kernel
theorem dX6_readProduct_39 : decode cX6_readProduct 39 = .ok (.getfield 28, 3) := by decide +kernel
theorem dX6_readProduct_42 : decode cX6_readProduct 42 = .ok (.getfield 57, 3) := by decide +kernel
theorem dX6_readProduct_45 : decode cX6_readProduct 45 = .ok (.istore_n 3, 1) := by decide +kernel
theorem dX6_readProduct_46 : decode cX6_readProduct 46 = .ok (.aload_n 0, 1) := by decide +kernel
theorem dX6_readProduct_47 : decode cX6_readProduct 47 = .ok (.getfield 28, 3) := by decide +kernel
theorem dX6_readProduct_50 : decode cX6_readProduct 50 = .ok (.invokevirtual 79, 3) := by decide +kernel
theorem dX6_readProduct_53 : decode cX6_readProduct 53 = .ok (.aload_n 0, 1) := by decide +kernel
theorem dX6_readProduct_54 : decode cX6_readProduct 54 = .ok (.iload_n 1, 1) := by decide +kernel
theorem dX6_readProduct_55 : decode cX6_readProduct 55 = .ok (.invokevirtual 194, 3) := by decide +kernel
theorem dX6_readProduct_58 : decode cX6_readProduct 58 = .ok (.aload_n 0, 1) := by decide +kernel
theorem dX6_readProduct_59 : decode cX6_readProduct 59 = .ok (.getfield 32, 3) := by decide +kernel
theorem dX6_readProduct_62 : decode cX6_readProduct 62 = .ok (.iload_n 3, 1) := by decide +kernel
theorem dX6_readProduct_63 : decode cX6_readProduct 63 = .ok (.iconst 0, 1) := by decide +kernel
theorem dX6_readProduct_64 : decode cX6_readProduct 64 = .ok (.invokevirtual 175, 3) := by decide +kernel
theorem dX6_readProduct_67 : decode cX6_readProduct 67 = .ok (.iinc 2 1, 3) := by decide +kernel
theorem dX6_readProduct_70 : decode cX6_readProduct 70 = .ok (.goto (-63), 3) := by decide +kernel
theorem dX6_readProduct_73 : decode cX6_readProduct 73 = .ok (.return_, 1) := by decide +kernel
theorem dX6_readValue_0 : decode cX6_readValue 0 = .ok (.aload_n 0, 1) := by decide +kernel
theorem dX6_readValue_1 : decode cX6_readValue 1 = .ok (.getfield 28, 3) := by decide +kernel
theorem dX6_readValue_4 : decode cX6_readValue 4 = .ok (.getfield 57, 3) := by decide +kernel
theorem dX6_readValue_7 : decode cX6_readValue 7 = .ok (.istore_n 2, 1) := by decide +kernel
theorem dX6_readValue_8 : decode cX6_readValue 8 = .ok (.iload_n 2, 1) := by decide +kernel
theorem dX6_readValue_9 : decode cX6_readValue 9 = .ok (.iconst 3, 1) := by decide +kernel
theorem dX6_readValue_10 : decode cX6_readValue 10 = .ok (.if_icmp .ne 29, 3) := by decide +kernel
theorem dX6_readValue_13 : decode cX6_readValue 13 = .ok (.aload_n 0, 1) := by decide +kernel
theorem dX6_readValue_14 : decode cX6_readValue 14 = .ok (.getfield 32, 3) := by decide +kernel
theorem dX6_readValue_17 : decode cX6_readValue 17 = .ok (.iconst 3, 1) := by decide +kernel
theorem dX6_readValue_18 : decode cX6_readValue 18 = .ok (.aload_n 0, 1) := by decide +kernel
theorem dX6_readValue_19 : decode cX6_readValue 19 = .ok (.getfield 28, 3) := by decide +kernel
theorem dX6_readValue_22 : decode cX6_readValue 22 = .ok (.getfield 89, 3) := by decide +kernel
theorem dX6_readValue_25 : decode cX6_readValue 25 = .ok (.l2i, 1) := by decide +kernel
theorem dX6_readValue_26 : decode cX6_readValue 26 = .ok (.invokevirtual 175, 3) := by decide +kernel
theorem dX6_readValue_29 : decode cX6_readValue 29 = .ok (.aload_n 0, 1) := by decide +kernel
theorem dX6_readValue_30 : decode cX6_readValue 30 = .ok (.getfield 28, 3) := by decide +kernel
theorem dX6_readValue_33 : decode cX6_readValue 33 = .ok (.invokevirtual 79, 3) := by decide +kernel
theorem dX6_readValue_36 : decode cX6_readValue 36 = .ok (.goto 192, 3) := by decide +kernel
theorem dX6_readValue_39 : decode cX6_readValue 39 = .ok (.iload_n 2, 1) := by decide +kernel
theorem dX6_readValue_40 : decode cX6_readValue 40 = .ok (.sipush 267, 3) := by decide +kernel
theorem dX6_readValue_43 : decode cX6_readValue 43 = .ok (.if_icmp .eq 17, 3) := by decide +kernel
theorem dX6_readValue_46 : decode cX6_readValue 46 = .ok (.iload_n 2, 1) := by decide +kernel
theorem dX6_readValue_47 : decode cX6_readValue 47 = .ok (.sipush 268, 3) := by decide +kernel
theorem dX6_readValue_50 : decode cX6_readValue 50 = .ok (.if_icmp .eq 10, 3) := by decide +kernel
theorem dX6_readValue_53 : decode cX6_readValue 53 = .ok (.iload_n 2, 1) := by decide +kernel
theorem dX6_readValue_54 : decode cX6_readValue 54 = .ok (.sipush 269, 3) := by decide +kernel
theorem dX6_readValue_57 : decode cX6_readValue 57 = .ok (.if_icmp .ne 22, 3) := by decide +kernel
theorem dX6_readValue_60 : decode cX6_readValue 60 = .ok (.aload_n 0, 1) := by decide +kernel
theorem dX6_readValue_61 : decode cX6_readValue 61 = .ok (.getfield 32, 3) := by decide +kernel
theorem dX6_readValue_64 : decode cX6_readValue 64 = .ok (.iload_n 2, 1) := by decide +kernel
theorem dX6_readValue_65 : decode cX6_readValue 65 = .ok (.iconst 0, 1) := by decide +kernel
theorem dX6_readValue_66 : decode cX6_readValue 66 = .ok (.invokevirtual 175, 3) := by decide +kernel
theorem dX6_readValue_69 : decode cX6_readValue 69 = .ok (.aload_n 0, 1) := by decide +kernel
theorem dX6_readValue_70 : decode cX6_readValue 70 = .ok (.getfield 28, 3) := by decide +kernel
theorem dX6_readValue_73 : decode cX6_readValue 73 = .ok (.invokevirtual 79, 3) := by decide +kernel
theorem dX6_readValue_76 : decode cX6_readValue 76 = .ok (.goto 152, 3) := by decide +kernel
theorem dX6_readValue_79 : decode cX6_readValue 79 = .ok (.iload_n 2, 1) := by decide +kernel
theorem dX6_readValue_80 : decode cX6_readValue 80 = .ok (.sipush 257, 3) := by decide +kernel
theorem dX6_readValue_83 : decode cX6_readValue 83 = .ok (.if_icmp .eq 10, 3) := by decide +kernel
theorem dX6_readValue_86 : decode cX6_readValue 86 = .ok (.iload_n 2, 1) := by decide +kernel
theorem dX6_readValue_87 : decode cX6_readValue 87 = .ok (.sipush 270, 3) := by decide +kernel
theorem dX6_readValue_90 : decode cX6_readValue 90 = .ok (.if_icmp .ne 50, 3) := by decide +kernel
theorem dX6_readValue_93 : decode cX6_readValue 93 = .ok (.aload_n 0, 1) := by decide +kernel
theorem dX6_readValue_94 : decode cX6_readValue 94 = .ok (.getfield 28, 3) := by decide +kernel
theorem dX6_readValue_97 : decode cX6_readValue 97 = .ok (.invokevirtual 79, 3) := by decide +kernel
theorem dX6_readValue_100 : decode cX6_readValue 100 = .ok (.aload_n 0, 1) := by decide +kernel
theorem dX6_readValue_101 : decode cX6_readValue 101 = .ok (.sipush 271, 3) := by decide +kernel
theorem dX6_readValue_104 : decode cX6_readValue 104 = .ok (.invokevirtual 73, 3) := by decide +kernel
theorem dX6_readValue_107 : decode cX6_readValue 107 = .ok (.aload_n 0, 1) := by decide +kernel
theorem dX6_readValue_108 : decode cX6_readValue 108 = .ok (.getfield 32, 3) := by decide +kernel
theorem dX6_readValue_111 : decode cX6_readValue 111 = .ok (.iload_n 2, 1) := by decide +kernel
theorem dX6_readValue_112 : decode cX6_readValue 112 = .ok (.aload_n 0, 1) := by decide +kernel
theorem dX6_readValue_113 : decode cX6_readValue 113 = .ok (.iload_n 2, 1) := by decide +kernel
theorem dX6_readValue_114 : decode cX6_readValue 114 = .ok (.sipush 257, 3) := by decide +kernel
theorem dX6_readValue_117 : decode cX6_readValue 117 = .ok (.if_icmp .ne 10, 3) := by decide +kernel
theorem dX6_readValue_120 : decode cX6_readValue 120 = .ok (.aload_n 0, 1) := by decide +kernel
theorem dX6_readValue_121 : decode cX6_readValue 121 = .ok (.getfield 14, 3) := by decide +kernel
theorem dX6_readValue_124 : decode cX6_readValue 124 = .ok (.goto 7, 3) := by decide +kernel
theorem dX6_readValue_127 : decode cX6_readValue 127 = .ok (.aload_n 0, 1) := by decide +kernel
theorem dX6_readValue_128 : decode cX6_readValue 128 = .ok (.getfield 20, 3) := by decide +kernel
theorem dX6_readValue_131 : decode cX6_readValue 131 = .ok (.invokevirtual 152, 3) := by decide +kernel
theorem dX6_readValue_134 : decode cX6_readValue 134 = .ok (.invokevirtual 175, 3) := by decide +kernel
theorem dX6_readValue_137 : decode cX6_readValue 137 = .ok (.goto 91, 3) := by decide +kernel
theorem dX6_readValue_140 : decode cX6_readValue 140 = .ok (.iload_n 2, 1) := by decide +kernel
theorem dX6_readValue_141 : decode cX6_readValue 141 = .ok (.bipush 45, 2) := by decide +kernel
theorem dX6_readValue_143 : decode cX6_readValue 143 = .ok (.if_icmp .ne 32, 3) := by decide +kernel
theorem dX6_readValue_146 : decode cX6_readValue 146 = .ok (.aload_n 0, 1) := by decide +kernel
theorem dX6_readValue_147 : decode cX6_readValue 147 = .ok (.bipush 45, 2) := by decide +kernel
theorem dX6_readValue_149 : decode cX6_readValue 149 = .ok (.iload_n 1, 1) := by decide +kernel
theorem dX6_readValue_150 : decode cX6_readValue 150 = .ok (.invokevirtual 181, 3) := by decide +kernel
theorem dX6_readValue_153 : decode cX6_readValue 153 = .ok (.ifCond .eq 75, 3) := by decide +kernel
theorem dX6_readValue_156 : decode cX6_readValue 156 = .ok (.aload_n 0, 1) := by decide +kernel
theorem dX6_readValue_157 : decode cX6_readValue 157 = .ok (.iload_n 1, 1) := by decide +kernel
theorem dX6_readValue_158 : decode cX6_readValue 158 = .ok (.iconst 1, 1) := by decide +kernel
theorem dX6_readValue_159 : decode cX6_readValue 159 = .ok (.iadd, 1) := by decide +kernel
theorem dX6_readValue_160 : decode cX6_readValue 160 = .ok (.invokevirtual 194, 3) := by decide +kernel
theorem dX6_readValue_163 : decode cX6_readValue 163 = .ok (.aload_n 0, 1) := by decide +kernel
theorem dX6_readValue_164 : decode cX6_readValue 164 = .ok (.getfield 32, 3) := by decide +kernel
theorem dX6_readValue_167 : decode cX6_readValue 167 = .ok (.iconst 4, 1) := by decide +kernel
theorem dX6_readValue_168 : decode cX6_readValue 168 = .ok (.iconst 0, 1) := by decide +kernel
theorem dX6_readValue_169 : decode cX6_readValue 169 = .ok (.invokevirtual 175, 3) := by decide +kernel
theorem dX6_readValue_172 : decode cX6_readValue 172 = .ok (.goto 56, 3) := by decide +kernel
theorem dX6_readValue_175 : decode cX6_readValue 175 = .ok (.iload_n 2, 1) := by decide +kernel
theorem dX6_readValue_176 : decode cX6_readValue 176 = .ok (.sipush 276, 3) := by decide +kernel
theorem dX6_readValue_179 : decode cX6_readValue 179 = .ok (.if_icmp .eq 10, 3) := by decide +kernel
theorem dX6_readValue_182 : decode cX6_readValue 182 = .ok (.iload_n 2, 1) := by decide +kernel
theorem dX6_readValue_183 : decode cX6_readValue 183 = .ok (.sipush 277, 3) := by decide +kernel
theorem dX6_readValue_186 : decode cX6_readValue 186 = .ok (.if_icmp .ne 19, 3) := by decide +kernel
theorem dX6_readValue_189 : decode cX6_readValue 189 = .ok (.aload_n 0, 1) := by decide +kernel
theorem dX6_readValue_190 : decode cX6_readValue 190 = .ok (.getfield 28, 3) := by decide +kernel
theorem dX6_readValue_193 : decode cX6_readValue 193 = .ok (.invokevirtual 79, 3) := by decide +kernel
theorem dX6_readValue_196 : decode cX6_readValue 196 = .ok (.aload_n 0, 1) := by decide +kernel
theorem dX6_readValue_197 : decode cX6_readValue 197 = .ok (.iload_n 2, 1) := by decide +kernel
theorem dX6_readValue_198 : decode cX6_readValue 198 = .ok (.iload_n 1, 1) := by decide +kernel
theorem dX6_readValue_199 : decode cX6_readValue 199 = .ok (.invokevirtual 197, 3) := by decide +kernel
theorem dX6_readValue_202 : decode cX6_readValue 202 = .ok (.goto 26, 3) := by decide +kernel
theorem dX6_readValue_205 : decode cX6_readValue 205 = .ok (.aload_n 0, 1) := by decide +kernel
theorem dX6_readValue_206 : decode cX6_readValue 206 = .ok (.bipush 40, 2) := by decide +kernel
theorem dX6_readValue_208 : decode cX6_readValue 208 = .ok (.iload_n 1, 1) := by decide +kernel
theorem dX6_readValue_209 : decode cX6_readValue 209 = .ok (.invokevirtual 181, 3) := by decide +kernel
theorem dX6_readValue_212 : decode cX6_readValue 212 = .ok (.ifCond .eq 16, 3) := by decide +kernel
theorem dX6_readValue_215 : decode cX6_readValue 215 = .ok (.aload_n 0, 1) := by decide +kernel
theorem dX6_readValue_216 : decode cX6_readValue 216 = .ok (.iload_n 1, 1) := by decide +kernel
theorem dX6_readValue_217 : decode cX6_readValue 217 = .ok (.iconst 1, 1) := by decide +kernel
theorem dX6_readValue_218 : decode cX6_readValue 218 = .ok (.iadd, 1) := by decide +kernel
theorem dX6_readValue_219 : decode cX6_readValue 219 = .ok (.invokevirtual 185, 3) := by decide +kernel
theorem dX6_readValue_222 : decode cX6_readValue 222 = .ok (.aload_n 0, 1) := by decide +kernel
theorem dX6_readValue_223 : decode cX6_readValue 223 = .ok (.bipush 41, 2) := by decide +kernel
theorem dX6_readValue_225 : decode cX6_readValue 225 = .ok (.invokevirtual 73, 3) := by decide +kernel
theorem dX6_readValue_228 : decode cX6_readValue 228 = .ok (.return_, 1) := by decide +kernel
theorem dX6_readPair_0 : decode cX6_readPair 0 = .ok (.aload_n 0, 1) := by decide +kernel
theorem dX6_readPair_1 : decode cX6_readPair 1 = .ok (.bipush 40, 2) := by decide +kernel
theorem dX6_readPair_3 : decode cX6_readPair 3 = .ok (.iload_n 2, 1) := by decide +kernel
theorem dX6_readPair_4 : decode cX6_readPair 4 = .ok (.invokevirtual 181, 3) := by decide +kernel
theorem dX6_readPair_7 : decode cX6_readPair 7 = .ok (.ifCond .eq 38, 3) := by decide +kernel
theorem dX6_readPair_10 : decode cX6_readPair 10 = .ok (.aload_n 0, 1) := by decide +kernel
theorem dX6_readPair_11 : decode cX6_readPair 11 = .ok (.iload_n 2, 1) := by decide +kernel
theorem dX6_readPair_12 : decode cX6_readPair 12 = .ok (.iconst 1, 1) := by decide +kernel
theorem dX6_readPair_13 : decode cX6_readPair 13 = .ok (.iadd, 1) := by decide +kernel
theorem dX6_readPair_14 : decode cX6_readPair 14 = .ok (.invokevirtual 185, 3) := by decide +kernel
theorem dX6_readPair_17 : decode cX6_readPair 17 = .ok (.aload_n 0, 1) := by decide +kernel
theorem dX6_readPair_18 : decode cX6_readPair 18 = .ok (.bipush 44, 2) := by decide +kernel
theorem dX6_readPair_20 : decode cX6_readPair 20 = .ok (.invokevirtual 73, 3) := by decide +kernel
theorem dX6_readPair_23 : decode cX6_readPair 23 = .ok (.aload_n 0, 1) := by decide +kernel
theorem dX6_readPair_24 : decode cX6_readPair 24 = .ok (.iload_n 2, 1) := by decide +kernel
theorem dX6_readPair_25 : decode cX6_readPair 25 = .ok (.iconst 1, 1) := by decide +kernel
theorem dX6_readPair_26 : decode cX6_readPair 26 = .ok (.iadd, 1) := by decide +kernel
theorem dX6_readPair_27 : decode cX6_readPair 27 = .ok (.invokevirtual 185, 3) := by decide +kernel
theorem dX6_readPair_30 : decode cX6_readPair 30 = .ok (.aload_n 0, 1) := by decide +kernel
theorem dX6_readPair_31 : decode cX6_readPair 31 = .ok (.bipush 41, 2) := by decide +kernel
theorem dX6_readPair_33 : decode cX6_readPair 33 = .ok (.invokevirtual 73, 3) := by decide +kernel
theorem dX6_readPair_36 : decode cX6_readPair 36 = .ok (.aload_n 0, 1) := by decide +kernel
theorem dX6_readPair_37 : decode cX6_readPair 37 = .ok (.getfield 32, 3) := by decide +kernel
theorem dX6_readPair_40 : decode cX6_readPair 40 = .ok (.iload_n 1, 1) := by decide +kernel
theorem dX6_readPair_41 : decode cX6_readPair 41 = .ok (.iconst 0, 1) := by decide +kernel
theorem dX6_readPair_42 : decode cX6_readPair 42 = .ok (.invokevirtual 175, 3) := by decide +kernel
theorem dX6_readPair_45 : decode cX6_readPair 45 = .ok (.return_, 1) := by decide +kernel
theorem dX6_goDeeper_0 : decode cX6_goDeeper 0 = .ok (.iload_n 2, 1) := by decide +kernel
theorem dX6_goDeeper_1 : decode cX6_goDeeper 1 = .ok (.bipush 8, 2) := by decide +kernel
theorem dX6_goDeeper_3 : decode cX6_goDeeper 3 = .ok (.if_icmp .lt 10, 3) := by decide +kernel
theorem dX6_goDeeper_6 : decode cX6_goDeeper 6 = .ok (.aload_n 0, 1) := by decide +kernel
theorem dX6_goDeeper_7 : decode cX6_goDeeper 7 = .ok (.invokevirtual 82, 3) := by decide +kernel
theorem dX6_goDeeper_10 : decode cX6_goDeeper 10 = .ok (.goto 8, 3) := by decide +kernel
theorem dX6_goDeeper_13 : decode cX6_goDeeper 13 = .ok (.aload_n 0, 1) := by decide +kernel
theorem dX6_goDeeper_14 : decode cX6_goDeeper 14 = .ok (.iload_n 1, 1) := by decide +kernel
theorem dX6_goDeeper_15 : decode cX6_goDeeper 15 = .ok (.invokevirtual 73, 3) := by decide +kernel
theorem dX6_goDeeper_18 : decode cX6_goDeeper 18 = .ok (.aload_n 0, 1) := by decide +kernel
theorem dX6_goDeeper_19 : decode cX6_goDeeper 19 = .ok (.getfield 36, 3) := by decide +kernel
theorem dX6_goDeeper_22 : decode cX6_goDeeper 22 = .ok (.iconst (-1), 1) := by decide +kernel
theorem dX6_goDeeper_23 : decode cX6_goDeeper 23 = .ok (.if_icmp .ne 7, 3) := by decide +kernel
theorem dX6_goDeeper_26 : decode cX6_goDeeper 26 = .ok (.iconst 1, 1) := by decide +kernel
theorem dX6_goDeeper_27 : decode cX6_goDeeper 27 = .ok (.goto 4, 3) := by decide +kernel
theorem dX6_goDeeper_30 : decode cX6_goDeeper 30 = .ok (.iconst 0, 1) := by decide +kernel
theorem dX6_goDeeper_31 : decode cX6_goDeeper 31 = .ok (.ireturn, 1) := by decide +kernel
theorem dX7_init_0 : decode cX7_init 0 = .ok (.aload_n 0, 1) := by decide +kernel
theorem dX7_init_1 : decode cX7_init 1 = .ok (.invokespecial 3, 3) := by decide +kernel
theorem dX7_init_4 : decode cX7_init 4 = .ok (.aload_n 0, 1) := by decide +kernel
theorem dX7_init_5 : decode cX7_init 5 = .ok (.bipush 22, 2) := by decide +kernel
theorem dX7_init_7 : decode cX7_init 7 = .ok (.newarray .long, 2) := by decide +kernel
theorem dX7_init_9 : decode cX7_init 9 = .ok (.putfield 9, 3) := by decide +kernel
theorem dX7_init_12 : decode cX7_init 12 = .ok (.aload_n 0, 1) := by decide +kernel
theorem dX7_init_13 : decode cX7_init 13 = .ok (.sipush 401, 3) := by decide +kernel
theorem dX7_init_16 : decode cX7_init 16 = .ok (.newarray .int, 2) := by decide +kernel
theorem dX7_init_18 : decode cX7_init 18 = .ok (.putfield 15, 3) := by decide +kernel
theorem dX7_init_21 : decode cX7_init 21 = .ok (.aload_n 0, 1) := by decide +kernel
theorem dX7_init_22 : decode cX7_init 22 = .ok (.sipush 401, 3) := by decide +kernel
theorem dX7_init_25 : decode cX7_init 25 = .ok (.newarray .int, 2) := by decide +kernel
theorem dX7_init_27 : decode cX7_init 27 = .ok (.putfield 19, 3) := by decide +kernel
theorem dX7_init_30 : decode cX7_init 30 = .ok (.aload_n 0, 1) := by decide +kernel
theorem dX7_init_31 : decode cX7_init 31 = .ok (.sipush 401, 3) := by decide +kernel
theorem dX7_init_34 : decode cX7_init 34 = .ok (.newarray .long, 2) := by decide +kernel
theorem dX7_init_36 : decode cX7_init 36 = .ok (.putfield 22, 3) := by decide +kernel
theorem dX7_init_39 : decode cX7_init 39 = .ok (.aload_n 0, 1) := by decide +kernel
theorem dX7_init_40 : decode cX7_init 40 = .ok (.aload_n 1, 1) := by decide +kernel
theorem dX7_init_41 : decode cX7_init 41 = .ok (.putfield 25, 3) := by decide +kernel
theorem dX7_init_44 : decode cX7_init 44 = .ok (.iconst 0, 1) := by decide +kernel
theorem dX7_init_45 : decode cX7_init 45 = .ok (.istore_n 2, 1) := by decide +kernel
theorem dX7_init_46 : decode cX7_init 46 = .ok (.iconst 0, 1) := by decide +kernel
theorem dX7_init_47 : decode cX7_init 47 = .ok (.istore_n 3, 1) := by decide +kernel
theorem dX7_init_48 : decode cX7_init 48 = .ok (.iload_n 3, 1) := by decide +kernel
theorem dX7_init_49 : decode cX7_init 49 = .ok (.ldc 29, 2) := by decide +kernel
theorem dX7_init_51 : decode cX7_init 51 = .ok (.invokevirtual 31, 3) := by decide +kernel
theorem dX7_init_54 : decode cX7_init 54 = .ok (.if_icmp .ge 56, 3) := by decide +kernel
theorem dX7_init_57 : decode cX7_init 57 = .ok (.ldc 29, 2) := by decide +kernel
theorem dX7_init_59 : decode cX7_init 59 = .ok (.iload_n 3, 1) := by decide +kernel
theorem dX7_init_60 : decode cX7_init 60 = .ok (.invokevirtual 37, 3) := by decide +kernel
theorem dX7_init_63 : decode cX7_init 63 = .ok (.istore 4, 2) := by decide +kernel
theorem dX7_init_65 : decode cX7_init 65 = .ok (.iload 4, 2) := by decide +kernel
theorem dX7_init_67 : decode cX7_init 67 = .ok (.bipush 32, 2) := by decide +kernel
theorem dX7_init_69 : decode cX7_init 69 = .ok (.if_icmp .ne 9, 3) := by decide +kernel
theorem dX7_init_72 : decode cX7_init 72 = .ok (.iinc 2 1, 3) := by decide +kernel
theorem dX7_init_75 : decode cX7_init 75 = .ok (.goto 29, 3) := by decide +kernel
theorem dX7_init_78 : decode cX7_init 78 = .ok (.iload_n 2, 1) := by decide +kernel
theorem dX7_init_79 : decode cX7_init 79 = .ok (.aload_n 0, 1) := by decide +kernel
theorem dX7_init_80 : decode cX7_init 80 = .ok (.getfield 9, 3) := by decide +kernel
theorem dX7_init_83 : decode cX7_init 83 = .ok (.arraylength, 1) := by decide +kernel
theorem dX7_init_84 : decode cX7_init 84 = .ok (.if_icmp .ge 20, 3) := by decide +kernel
theorem dX7_init_87 : decode cX7_init 87 = .ok (.aload_n 0, 1) := by decide +kernel
theorem dX7_init_88 : decode cX7_init 88 = .ok (.getfield 9, 3) := by decide +kernel
theorem dX7_init_91 : decode cX7_init 91 = .ok (.iload_n 2, 1) := by decide +kernel
theorem dX7_init_92 : decode cX7_init 92 = .ok (.aload_n 0, 1) := by decide +kernel
theorem dX7_init_93 : decode cX7_init 93 = .ok (.getfield 9, 3) := by decide +kernel
theorem dX7_init_96 : decode cX7_init 96 = .ok (.iload_n 2, 1) := by decide +kernel
theorem dX7_init_97 : decode cX7_init 97 = .ok (.laload, 1) := by decide +kernel
theorem dX7_init_98 : decode cX7_init 98 = .ok (.iload 4, 2) := by decide +kernel
theorem dX7_init_100 : decode cX7_init 100 = .ok (.invokestatic 41, 3) := by decide +kernel
theorem dX7_init_103 : decode cX7_init 103 = .ok (.lastore, 1) := by decide +kernel
theorem dX7_init_104 : decode cX7_init 104 = .ok (.iinc 3 1, 3) := by decide +kernel
theorem dX7_init_107 : decode cX7_init 107 = .ok (.goto (-59), 3) := by decide +kernel
theorem dX7_init_110 : decode cX7_init 110 = .ok (.return_, 1) := by decide +kernel
theorem dX7_longer_0 : decode cX7_longer 0 = .ok (.lload_n 0, 1) := by decide +kernel
theorem dX7_longer_1 : decode cX7_longer 1 = .ok (.ldc2_w 45, 3) := by decide +kernel
theorem dX7_longer_4 : decode cX7_longer 4 = .ok (.lmul, 1) := by decide +kernel
theorem dX7_longer_5 : decode cX7_longer 5 = .ok (.iload_n 2, 1) := by decide +kernel
theorem dX7_longer_6 : decode cX7_longer 6 = .ok (.invokestatic 47, 3) := by decide +kernel
theorem dX7_longer_9 : decode cX7_longer 9 = .ok (.ifCond .eq 12, 3) := by decide +kernel
theorem dX7_longer_12 : decode cX7_longer 12 = .ok (.iload_n 2, 1) := by decide +kernel
theorem dX7_longer_13 : decode cX7_longer 13 = .ok (.bipush 97, 2) := by decide +kernel
theorem dX7_longer_15 : decode cX7_longer 15 = .ok (.isub, 1) := by decide +kernel
theorem dX7_longer_16 : decode cX7_longer 16 = .ok (.iconst 1, 1) := by decide +kernel
theorem dX7_longer_17 : decode cX7_longer 17 = .ok (.iadd, 1) := by decide +kernel
theorem dX7_longer_18 : decode cX7_longer 18 = .ok (.goto 10, 3) := by decide +kernel
theorem dX7_longer_21 : decode cX7_longer 21 = .ok (.iload_n 2, 1) := by decide +kernel
theorem dX7_longer_22 : decode cX7_longer 22 = .ok (.bipush 48, 2) := by decide +kernel
theorem dX7_longer_24 : decode cX7_longer 24 = .ok (.isub, 1) := by decide +kernel
theorem dX7_longer_25 : decode cX7_longer 25 = .ok (.bipush 27, 2) := by decide +kernel
theorem dX7_longer_27 : decode cX7_longer 27 = .ok (.iadd, 1) := by decide +kernel
theorem dX7_longer_28 : decode cX7_longer 28 = .ok (.i2l, 1) := by decide +kernel
theorem dX7_longer_29 : decode cX7_longer 29 = .ok (.ladd, 1) := by decide +kernel
theorem dX7_longer_30 : decode cX7_longer 30 = .ok (.lreturn, 1) := by decide +kernel
theorem dX7_readTape_0 : decode cX7_readTape 0 = .ok (.aload_n 0, 1) := by decide +kernel
theorem dX7_readTape_1 : decode cX7_readTape 1 = .ok (.iconst 0, 1) := by decide +kernel
theorem dX7_readTape_2 : decode cX7_readTape 2 = .ok (.putfield 51, 3) := by decide +kernel
theorem dX7_readTape_5 : decode cX7_readTape 5 = .ok (.iconst 2, 1) := by decide +kernel
theorem dX7_readTape_6 : decode cX7_readTape 6 = .ok (.istore_n 1, 1) := by decide +kernel
theorem dX7_readTape_7 : decode cX7_readTape 7 = .ok (.aload_n 0, 1) := by decide +kernel
theorem dX7_readTape_8 : decode cX7_readTape 8 = .ok (.getfield 15, 3) := by decide +kernel
theorem dX7_readTape_11 : decode cX7_readTape 11 = .ok (.arraylength, 1) := by decide +kernel
theorem dX7_readTape_12 : decode cX7_readTape 12 = .ok (.aload_n 0, 1) := by decide +kernel
theorem dX7_readTape_13 : decode cX7_readTape 13 = .ok (.getfield 19, 3) := by decide +kernel
theorem dX7_readTape_16 : decode cX7_readTape 16 = .ok (.arraylength, 1) := by decide +kernel
theorem dX7_readTape_17 : decode cX7_readTape 17 = .ok (.aload_n 0, 1) := by decide +kernel
theorem dX7_readTape_18 : decode cX7_readTape 18 = .ok (.getfield 22, 3) := by decide +kernel
theorem dX7_readTape_21 : decode cX7_readTape 21 = .ok (.arraylength, 1) := by decide +kernel
theorem dX7_readTape_22 : decode cX7_readTape 22 = .ok (.invokestatic 55, 3) := by decide +kernel
theorem dX7_readTape_25 : decode cX7_readTape 25 = .ok (.invokestatic 55, 3) := by decide +kernel
theorem dX7_readTape_28 : decode cX7_readTape 28 = .ok (.istore_n 2, 1) := by decide +kernel
theorem dX7_readTape_29 : decode cX7_readTape 29 = .ok (.iconst 0, 1) := by decide +kernel
theorem dX7_readTape_30 : decode cX7_readTape 30 = .ok (.istore_n 3, 1) := by decide +kernel
theorem dX7_readTape_31 : decode cX7_readTape 31 = .ok (.iload_n 3, 1) := by decide +kernel
theorem dX7_readTape_32 : decode cX7_readTape 32 = .ok (.iload_n 2, 1) := by decide +kernel
theorem dX7_readTape_33 : decode cX7_readTape 33 = .ok (.if_icmp .ge 79, 3) := by decide +kernel
theorem dX7_readTape_36 : decode cX7_readTape 36 = .ok (.iload_n 1, 1) := by decide +kernel
theorem dX7_readTape_37 : decode cX7_readTape 37 = .ok (.ifCond .eq 75, 3) := by decide +kernel
theorem dX7_readTape_40 : decode cX7_readTape 40 = .ok (.iload_n 1, 1) := by decide +kernel
theorem dX7_readTape_41 : decode cX7_readTape 41 = .ok (.iconst 1, 1) := by decide +kernel
theorem dX7_readTape_42 : decode cX7_readTape 42 = .ok (.if_icmp .eq 70, 3) := by decide +kernel
theorem dX7_readTape_45 : decode cX7_readTape 45 = .ok (.aload_n 0, 1) := by decide +kernel
theorem dX7_readTape_46 : decode cX7_readTape 46 = .ok (.invokevirtual 61, 3) := by decide +kernel
theorem dX7_readTape_49 : decode cX7_readTape 49 = .ok (.aload_n 0, 1) := by decide +kernel
theorem dX7_readTape_50 : decode cX7_readTape 50 = .ok (.getfield 19, 3) := by decide +kernel
theorem dX7_readTape_53 : decode cX7_readTape 53 = .ok (.iload_n 3, 1) := by decide +kernel
theorem dX7_readTape_54 : decode cX7_readTape 54 = .ok (.aload_n 0, 1) := by decide +kernel
theorem dX7_readTape_55 : decode cX7_readTape 55 = .ok (.getfield 51, 3) := by decide +kernel
theorem dX7_readTape_58 : decode cX7_readTape 58 = .ok (.iastore, 1) := by decide +kernel
theorem dX7_readTape_59 : decode cX7_readTape 59 = .ok (.iload_n 3, 1) := by decide +kernel
theorem dX7_readTape_60 : decode cX7_readTape 60 = .ok (.sipush 400, 3) := by decide +kernel
theorem dX7_readTape_63 : decode cX7_readTape 63 = .ok (.if_icmp .lt 17, 3) := by decide +kernel
theorem dX7_readTape_66 : decode cX7_readTape 66 = .ok (.aload_n 0, 1) := by decide +kernel
theorem dX7_readTape_67 : decode cX7_readTape 67 = .ok (.getfield 51, 3) := by decide +kernel
theorem dX7_readTape_70 : decode cX7_readTape 70 = .ok (.aload_n 0, 1) := by decide +kernel
theorem dX7_readTape_71 : decode cX7_readTape 71 = .ok (.getfield 25, 3) := by decide +kernel
theorem dX7_readTape_74 : decode cX7_readTape 74 = .ok (.getfield 64, 3) := by decide +kernel
theorem dX7_readTape_77 : decode cX7_readTape 77 = .ok (.if_icmp .lt 10, 3) := by decide +kernel
theorem dX7_readTape_80 : decode cX7_readTape 80 = .ok (.aload_n 0, 1) := by decide +kernel
theorem dX7_readTape_81 : decode cX7_readTape 81 = .ok (.invokevirtual 68, 3) := by decide +kernel
theorem dX7_readTape_84 : decode cX7_readTape 84 = .ok (.goto 4, 3) := by decide +kernel
theorem dX7_readTape_87 : decode cX7_readTape 87 = .ok (.iconst 1, 1) := by decide +kernel
theorem dX7_readTape_88 : decode cX7_readTape 88 = .ok (.istore_n 1, 1) := by decide +kernel
theorem dX7_readTape_89 : decode cX7_readTape 89 = .ok (.aload_n 0, 1) := by decide +kernel
theorem dX7_readTape_90 : decode cX7_readTape 90 = .ok (.getfield 15, 3) := by decide +kernel
theorem dX7_readTape_93 : decode cX7_readTape 93 = .ok (.iload_n 3, 1) := by decide +kernel
theorem dX7_readTape_94 : decode cX7_readTape 94 = .ok (.iload_n 1, 1) := by decide +kernel
theorem dX7_readTape_95 : decode cX7_readTape 95 = .ok (.iastore, 1) := by decide +kernel
theorem dX7_readTape_96 : decode cX7_readTape 96 = .ok (.aload_n 0, 1) := by decide +kernel
theorem dX7_readTape_97 : decode cX7_readTape 97 = .ok (.getfield 22, 3) := by decide +kernel
theorem dX7_readTape_100 : decode cX7_readTape 100 = .ok (.iload_n 3, 1) := by decide +kernel
theorem dX7_readTape_101 : decode cX7_readTape 101 = .ok (.aload_n 0, 1) := by decide +kernel
theorem dX7_readTape_102 : decode cX7_readTape 102 = .ok (.getfield 71, 3) := by decide +kernel
theorem dX7_readTape_105 : decode cX7_readTape 105 = .ok (.lastore, 1) := by decide +kernel
theorem dX7_readTape_106 : decode cX7_readTape 106 = .ok (.iinc 3 1, 3) := by decide +kernel
theorem dX7_readTape_109 : decode cX7_readTape 109 = .ok (.goto (-78), 3) := by decide +kernel
theorem dX7_readTape_112 : decode cX7_readTape 112 = .ok (.aload_n 0, 1) := by decide +kernel
theorem dX7_readTape_113 : decode cX7_readTape 113 = .ok (.iconst (-1), 1) := by decide +kernel
theorem dX7_readTape_114 : decode cX7_readTape 114 = .ok (.putfield 75, 3) := by decide +kernel
theorem dX7_readTape_117 : decode cX7_readTape 117 = .ok (.aload_n 0, 1) := by decide +kernel
theorem dX7_readTape_118 : decode cX7_readTape 118 = .ok (.invokevirtual 78, 3) := by decide +kernel
theorem dX7_readTape_121 : decode cX7_readTape 121 = .ok (.return_, 1) := by decide +kernel
theorem dX7_advance_0 : decode cX7_advance 0 = .ok (.aload_n 0, 1) := by decide +kernel
theorem dX7_advance_1 : decode cX7_advance 1 = .ok (.dup, 1) := by decide +kernel
theorem dX7_advance_2 : decode cX7_advance 2 = .ok (.getfield 75, 3) := by decide +kernel
theorem dX7_advance_5 : decode cX7_advance 5 = .ok (.iconst 1, 1) := by decide +kernel
theorem dX7_advance_6 : decode cX7_advance 6 = .ok (.iadd, 1) := by decide +kernel
theorem dX7_advance_7 : decode cX7_advance 7 = .ok (.putfield 75, 3) := by decide +kernel
theorem dX7_advance_10 : decode cX7_advance 10 = .ok (.aload_n 0, 1) := by decide +kernel
theorem dX7_advance_11 : decode cX7_advance 11 = .ok (.getfield 75, 3) := by decide +kernel
theorem dX7_advance_14 : decode cX7_advance 14 = .ok (.ifCond .lt 78, 3) := by decide +kernel
theorem dX7_advance_17 : decode cX7_advance 17 = .ok (.aload_n 0, 1) := by decide +kernel
theorem dX7_advance_18 : decode cX7_advance 18 = .ok (.getfield 75, 3) := by decide +kernel
theorem dX7_advance_21 : decode cX7_advance 21 = .ok (.aload_n 0, 1) := by decide +kernel
theorem dX7_advance_22 : decode cX7_advance 22 = .ok (.getfield 15, 3) := by decide +kernel
theorem dX7_advance_25 : decode cX7_advance 25 = .ok (.arraylength, 1) := by decide +kernel
theorem dX7_advance_26 : decode cX7_advance 26 = .ok (.if_icmp .ge 66, 3) := by decide +kernel
theorem dX7_advance_29 : decode cX7_advance 29 = .ok (.aload_n 0, 1) := by decide +kernel
theorem dX7_advance_30 : decode cX7_advance 30 = .ok (.getfield 75, 3) := by decide +kernel
theorem dX7_advance_33 : decode cX7_advance 33 = .ok (.aload_n 0, 1) := by decide +kernel
theorem dX7_advance_34 : decode cX7_advance 34 = .ok (.getfield 19, 3) := by decide +kernel
theorem dX7_advance_37 : decode cX7_advance 37 = .ok (.arraylength, 1) := by decide +kernel
theorem dX7_advance_38 : decode cX7_advance 38 = .ok (.if_icmp .ge 54, 3) := by decide +kernel
theorem dX7_advance_41 : decode cX7_advance 41 = .ok (.aload_n 0, 1) := by decide +kernel
theorem dX7_advance_42 : decode cX7_advance 42 = .ok (.getfield 75, 3) := by decide +kernel
theorem dX7_advance_45 : decode cX7_advance 45 = .ok (.aload_n 0, 1) := by decide +kernel
theorem dX7_advance_46 : decode cX7_advance 46 = .ok (.getfield 22, 3) := by decide +kernel
theorem dX7_advance_49 : decode cX7_advance 49 = .ok (.arraylength, 1) := by decide +kernel
theorem dX7_advance_50 : decode cX7_advance 50 = .ok (.if_icmp .ge 42, 3) := by decide +kernel
theorem dX7_advance_53 : decode cX7_advance 53 = .ok (.aload_n 0, 1) := by decide +kernel
theorem dX7_advance_54 : decode cX7_advance 54 = .ok (.aload_n 0, 1) := by decide +kernel
theorem dX7_advance_55 : decode cX7_advance 55 = .ok (.getfield 15, 3) := by decide +kernel
theorem dX7_advance_58 : decode cX7_advance 58 = .ok (.aload_n 0, 1) := by decide +kernel
theorem dX7_advance_59 : decode cX7_advance 59 = .ok (.getfield 75, 3) := by decide +kernel
theorem dX7_advance_62 : decode cX7_advance 62 = .ok (.iaload, 1) := by decide +kernel
theorem dX7_advance_63 : decode cX7_advance 63 = .ok (.putfield 81, 3) := by decide +kernel
theorem dX7_advance_66 : decode cX7_advance 66 = .ok (.aload_n 0, 1) := by decide +kernel
theorem dX7_advance_67 : decode cX7_advance 67 = .ok (.aload_n 0, 1) := by decide +kernel
theorem dX7_advance_68 : decode cX7_advance 68 = .ok (.getfield 19, 3) := by decide +kernel
theorem dX7_advance_71 : decode cX7_advance 71 = .ok (.aload_n 0, 1) := by decide +kernel
theorem dX7_advance_72 : decode cX7_advance 72 = .ok (.getfield 75, 3) := by decide +kernel
theorem dX7_advance_75 : decode cX7_advance 75 = .ok (.iaload, 1) := by decide +kernel
theorem dX7_advance_76 : decode cX7_advance 76 = .ok (.putfield 84, 3) := by decide +kernel
theorem dX7_advance_79 : decode cX7_advance 79 = .ok (.aload_n 0, 1) := by decide +kernel
theorem dX7_advance_80 : decode cX7_advance 80 = .ok (.aload_n 0, 1) := by decide +kernel
theorem dX7_advance_81 : decode cX7_advance 81 = .ok (.getfield 22, 3) := by decide +kernel
theorem dX7_advance_84 : decode cX7_advance 84 = .ok (.aload_n 0, 1) := by decide +kernel
theorem dX7_advance_85 : decode cX7_advance 85 = .ok (.getfield 75, 3) := by decide +kernel
theorem dX7_advance_88 : decode cX7_advance 88 = .ok (.laload, 1) := by decide +kernel
theorem dX7_advance_89 : decode cX7_advance 89 = .ok (.putfield 87, 3) := by decide +kernel
theorem dX7_advance_92 : decode cX7_advance 92 = .ok (.return_, 1) := by decide +kernel
theorem dX7_skipGaps_0 : decode cX7_skipGaps 0 = .ok (.aload_n 0, 1) := by decide +kernel
theorem dX7_skipGaps_1 : decode cX7_skipGaps 1 = .ok (.getfield 51, 3) := by decide +kernel
theorem dX7_skipGaps_4 : decode cX7_skipGaps 4 = .ok (.aload_n 0, 1) := by decide +kernel
theorem dX7_skipGaps_5 : decode cX7_skipGaps 5 = .ok (.getfield 25, 3) := by decide +kernel
theorem dX7_skipGaps_8 : decode cX7_skipGaps 8 = .ok (.getfield 64, 3) := by decide +kernel
theorem dX7_skipGaps_11 : decode cX7_skipGaps 11 = .ok (.if_icmp .ge 48, 3) := by decide +kernel
theorem dX7_skipGaps_14 : decode cX7_skipGaps 14 = .ok (.aload_n 0, 1) := by decide +kernel
theorem dX7_skipGaps_15 : decode cX7_skipGaps 15 = .ok (.getfield 25, 3) := by decide +kernel
theorem dX7_skipGaps_18 : decode cX7_skipGaps 18 = .ok (.aload_n 0, 1) := by decide +kernel
theorem dX7_skipGaps_19 : decode cX7_skipGaps 19 = .ok (.getfield 51, 3) := by decide +kernel
theorem dX7_skipGaps_22 : decode cX7_skipGaps 22 = .ok (.invokevirtual 90, 3) := by decide +kernel
theorem dX7_skipGaps_25 : decode cX7_skipGaps 25 = .ok (.bipush 32, 2) := by decide +kernel
theorem dX7_skipGaps_27 : decode cX7_skipGaps 27 = .ok (.if_icmp .eq 19, 3) := by decide +kernel
theorem dX7_skipGaps_30 : decode cX7_skipGaps 30 = .ok (.aload_n 0, 1) := by decide +kernel
theorem dX7_skipGaps_31 : decode cX7_skipGaps 31 = .ok (.getfield 25, 3) := by decide +kernel
theorem dX7_skipGaps_34 : decode cX7_skipGaps 34 = .ok (.aload_n 0, 1) := by decide +kernel
theorem dX7_skipGaps_35 : decode cX7_skipGaps 35 = .ok (.getfield 51, 3) := by decide +kernel
theorem dX7_skipGaps_38 : decode cX7_skipGaps 38 = .ok (.invokevirtual 90, 3) := by decide +kernel
theorem dX7_skipGaps_41 : decode cX7_skipGaps 41 = .ok (.bipush 10, 2) := by decide +kernel
theorem dX7_skipGaps_43 : decode cX7_skipGaps 43 = .ok (.if_icmp .ne 16, 3) := by decide +kernel
theorem dX7_skipGaps_46 : decode cX7_skipGaps 46 = .ok (.aload_n 0, 1) := by decide +kernel
theorem dX7_skipGaps_47 : decode cX7_skipGaps 47 = .ok (.dup, 1) := by decide +kernel
theorem dX7_skipGaps_48 : decode cX7_skipGaps 48 = .ok (.getfield 51, 3) := by decide +kernel
theorem dX7_skipGaps_51 : decode cX7_skipGaps 51 = .ok (.iconst 1, 1) := by decide +kernel
theorem dX7_skipGaps_52 : decode cX7_skipGaps 52 = .ok (.iadd, 1) := by decide +kernel
theorem dX7_skipGaps_53 : decode cX7_skipGaps 53 = .ok (.putfield 51, 3) := by decide +kernel
theorem dX7_skipGaps_56 : decode cX7_skipGaps 56 = .ok (.goto (-56), 3) := by decide +kernel
theorem dX7_skipGaps_59 : decode cX7_skipGaps 59 = .ok (.return_, 1) := by decide +kernel
theorem dX7_readToken_0 : decode cX7_readToken 0 = .ok (.aload_n 0, 1) := by decide +kernel
theorem dX7_readToken_1 : decode cX7_readToken 1 = .ok (.getfield 25, 3) := by decide +kernel
theorem dX7_readToken_4 : decode cX7_readToken 4 = .ok (.aload_n 0, 1) := by decide +kernel
theorem dX7_readToken_5 : decode cX7_readToken 5 = .ok (.getfield 51, 3) := by decide +kernel
theorem dX7_readToken_8 : decode cX7_readToken 8 = .ok (.invokevirtual 90, 3) := by decide +kernel
theorem dX7_readToken_11 : decode cX7_readToken 11 = .ok (.istore_n 1, 1) := by decide +kernel
theorem dX7_readToken_12 : decode cX7_readToken 12 = .ok (.aload_n 0, 1) := by decide +kernel
theorem dX7_readToken_13 : decode cX7_readToken 13 = .ok (.getfield 51, 3) := by decide +kernel
theorem dX7_readToken_16 : decode cX7_readToken 16 = .ok (.aload_n 0, 1) := by decide +kernel
theorem dX7_readToken_17 : decode cX7_readToken 17 = .ok (.getfield 25, 3) := by decide +kernel
theorem dX7_readToken_20 : decode cX7_readToken 20 = .ok (.getfield 64, 3) := by decide +kernel
theorem dX7_readToken_23 : decode cX7_readToken 23 = .ok (.if_icmp .lt 5, 3) := by decide +kernel
theorem dX7_readToken_26 : decode cX7_readToken 26 = .ok (.iconst 0, 1) := by decide +kernel
theorem dX7_readToken_27 : decode cX7_readToken 27 = .ok (.ireturn, 1) := by decide +kernel
theorem dX7_readToken_28 : decode cX7_readToken 28 = .ok (.iload_n 1, 1) := by decide +kernel
theorem dX7_readToken_29 : decode cX7_readToken 29 = .ok (.invokestatic 47, 3) := by decide +kernel
theorem dX7_readToken_32 : decode cX7_readToken 32 = .ok (.ifCond .eq 8, 3) := by decide +kernel
theorem dX7_readToken_35 : decode cX7_readToken 35 = .ok (.aload_n 0, 1) := by decide +kernel
theorem dX7_readToken_36 : decode cX7_readToken 36 = .ok (.invokevirtual 94, 3) := by decide +kernel
theorem dX7_readToken_39 : decode cX7_readToken 39 = .ok (.ireturn, 1) := by decide +kernel
theorem dX7_readToken_40 : decode cX7_readToken 40 = .ok (.iload_n 1, 1) := by decide +kernel
theorem dX7_readToken_41 : decode cX7_readToken 41 = .ok (.invokestatic 97, 3) := by decide +kernel
theorem dX7_readToken_44 : decode cX7_readToken 44 = .ok (.ifCond .eq 10, 3) := by decide +kernel
theorem dX7_readToken_47 : decode cX7_readToken 47 = .ok (.aload_n 0, 1) := by decide +kernel
theorem dX7_readToken_48 : decode cX7_readToken 48 = .ok (.invokevirtual 100, 3) := by decide +kernel
theorem dX7_readToken_51 : decode cX7_readToken 51 = .ok (.goto 8, 3) := by decide +kernel
theorem dX7_readToken_54 : decode cX7_readToken 54 = .ok (.aload_n 0, 1) := by decide +kernel
theorem dX7_readToken_55 : decode cX7_readToken 55 = .ok (.iload_n 1, 1) := by decide +kernel
theorem dX7_readToken_56 : decode cX7_readToken 56 = .ok (.invokevirtual 103, 3) := by decide +kernel
theorem dX7_readToken_59 : decode cX7_readToken 59 = .ok (.ireturn, 1) := by decide +kernel
theorem dX7_readWord_0 : decode cX7_readWord 0 = .ok (.aload_n 0, 1) := by decide +kernel
theorem dX7_readWord_1 : decode cX7_readWord 1 = .ok (.getfield 51, 3) := by decide +kernel
theorem dX7_readWord_4 : decode cX7_readWord 4 = .ok (.istore_n 1, 1) := by decide +kernel
theorem dX7_readWord_5 : decode cX7_readWord 5 = .ok (.aload_n 0, 1) := by decide +kernel
theorem dX7_readWord_6 : decode cX7_readWord 6 = .ok (.lconst 0, 1) := by decide +kernel
theorem dX7_readWord_7 : decode cX7_readWord 7 = .ok (.putfield 71, 3) := by decide +kernel
theorem dX7_readWord_10 : decode cX7_readWord 10 = .ok (.aload_n 0, 1) := by decide +kernel
theorem dX7_readWord_11 : decode cX7_readWord 11 = .ok (.getfield 51, 3) := by decide +kernel
theorem dX7_readWord_14 : decode cX7_readWord 14 = .ok (.aload_n 0, 1) := by decide +kernel
theorem dX7_readWord_15 : decode cX7_readWord 15 = .ok (.getfield 25, 3) := by decide +kernel
theorem dX7_readWord_18 : decode cX7_readWord 18 = .ok (.getfield 64, 3) := by decide +kernel
theorem dX7_readWord_21 : decode cX7_readWord 21 = .ok (.if_icmp .ge 72, 3) := by decide +kernel
theorem dX7_readWord_24 : decode cX7_readWord 24 = .ok (.aload_n 0, 1) := by decide +kernel
theorem dX7_readWord_25 : decode cX7_readWord 25 = .ok (.getfield 25, 3) := by decide +kernel
theorem dX7_readWord_28 : decode cX7_readWord 28 = .ok (.aload_n 0, 1) := by decide +kernel
theorem dX7_readWord_29 : decode cX7_readWord 29 = .ok (.getfield 51, 3) := by decide +kernel
theorem dX7_readWord_32 : decode cX7_readWord 32 = .ok (.invokevirtual 90, 3) := by decide +kernel
theorem dX7_readWord_35 : decode cX7_readWord 35 = .ok (.invokestatic 47, 3) := by decide +kernel
theorem dX7_readWord_38 : decode cX7_readWord 38 = .ok (.ifCond .ne 20, 3) := by decide +kernel
theorem dX7_readWord_41 : decode cX7_readWord 41 = .ok (.aload_n 0, 1) := by decide +kernel
theorem dX7_readWord_42 : decode cX7_readWord 42 = .ok (.getfield 25, 3) := by decide +kernel
theorem dX7_readWord_45 : decode cX7_readWord 45 = .ok (.aload_n 0, 1) := by decide +kernel
theorem dX7_readWord_46 : decode cX7_readWord 46 = .ok (.getfield 51, 3) := by decide +kernel
theorem dX7_readWord_49 : decode cX7_readWord 49 = .ok (.invokevirtual 90, 3) := by decide +kernel
theorem dX7_readWord_52 : decode cX7_readWord 52 = .ok (.invokestatic 97, 3) := by decide +kernel
theorem dX7_readWord_55 : decode cX7_readWord 55 = .ok (.ifCond .eq 38, 3) := by decide +kernel
theorem dX7_readWord_58 : decode cX7_readWord 58 = .ok (.aload_n 0, 1) := by decide +kernel
theorem dX7_readWord_59 : decode cX7_readWord 59 = .ok (.aload_n 0, 1) := by decide +kernel
theorem dX7_readWord_60 : decode cX7_readWord 60 = .ok (.getfield 71, 3) := by decide +kernel
theorem dX7_readWord_63 : decode cX7_readWord 63 = .ok (.aload_n 0, 1) := by decide +kernel
theorem dX7_readWord_64 : decode cX7_readWord 64 = .ok (.getfield 25, 3) := by decide +kernel
theorem dX7_readWord_67 : decode cX7_readWord 67 = .ok (.aload_n 0, 1) := by decide +kernel
theorem dX7_readWord_68 : decode cX7_readWord 68 = .ok (.getfield 51, 3) := by decide +kernel
theorem dX7_readWord_71 : decode cX7_readWord 71 = .ok (.invokevirtual 90, 3) := by decide +kernel
theorem dX7_readWord_74 : decode cX7_readWord 74 = .ok (.invokestatic 41, 3) := by decide +kernel
theorem dX7_readWord_77 : decode cX7_readWord 77 = .ok (.putfield 71, 3) := by decide +kernel
theorem dX7_readWord_80 : decode cX7_readWord 80 = .ok (.aload_n 0, 1) := by decide +kernel
theorem dX7_readWord_81 : decode cX7_readWord 81 = .ok (.dup, 1) := by decide +kernel
theorem dX7_readWord_82 : decode cX7_readWord 82 = .ok (.getfield 51, 3) := by decide +kernel
theorem dX7_readWord_85 : decode cX7_readWord 85 = .ok (.iconst 1, 1) := by decide +kernel
theorem dX7_readWord_86 : decode cX7_readWord 86 = .ok (.iadd, 1) := by decide +kernel
theorem dX7_readWord_87 : decode cX7_readWord 87 = .ok (.putfield 51, 3) := by decide +kernel
theorem dX7_readWord_90 : decode cX7_readWord 90 = .ok (.goto (-80), 3) := by decide +kernel
theorem dX7_readWord_93 : decode cX7_readWord 93 = .ok (.aload_n 0, 1) := by decide +kernel
theorem dX7_readWord_94 : decode cX7_readWord 94 = .ok (.getfield 51, 3) := by decide +kernel
theorem dX7_readWord_97 : decode cX7_readWord 97 = .ok (.iload_n 1, 1) := by decide +kernel
theorem dX7_readWord_98 : decode cX7_readWord 98 = .ok (.isub, 1) := by decide +kernel
theorem dX7_readWord_99 : decode cX7_readWord 99 = .ok (.bipush 10, 2) := by decide +kernel
theorem dX7_readWord_101 : decode cX7_readWord 101 = .ok (.if_icmp .le 7, 3) := by decide +kernel
theorem dX7_readWord_104 : decode cX7_readWord 104 = .ok (.iconst 1, 1) := by decide +kernel
theorem dX7_readWord_105 : decode cX7_readWord 105 = .ok (.goto 7, 3) := by decide +kernel
theorem dX7_readWord_108 : decode cX7_readWord 108 = .ok (.aload_n 0, 1) := by decide +kernel
theorem dX7_readWord_109 : decode cX7_readWord 109 = .ok (.invokevirtual 106, 3) := by decide +kernel
theorem dX7_readWord_112 : decode cX7_readWord 112 = .ok (.ireturn, 1) := by decide +kernel
theorem dX7_kindOfWord_0 : decode cX7_kindOfWord 0 = .ok (.iconst 0, 1) := by decide +kernel
theorem dX7_kindOfWord_1 : decode cX7_kindOfWord 1 = .ok (.istore_n 1, 1) := by decide +kernel
theorem dX7_kindOfWord_2 : decode cX7_kindOfWord 2 = .ok (.iload_n 1, 1) := by decide +kernel
theorem dX7_kindOfWord_3 : decode cX7_kindOfWord 3 = .ok (.aload_n 0, 1) := by decide +kernel
theorem dX7_kindOfWord_4 : decode cX7_kindOfWord 4 = .ok (.getfield 9, 3) := by decide +kernel
theorem dX7_kindOfWord_7 : decode cX7_kindOfWord 7 = .ok (.arraylength, 1) := by decide +kernel
theorem dX7_kindOfWord_8 : decode cX7_kindOfWord 8 = .ok (.if_icmp .ge 29, 3) := by decide +kernel
theorem dX7_kindOfWord_11 : decode cX7_kindOfWord 11 = .ok (.aload_n 0, 1) := by decide +kernel
theorem dX7_kindOfWord_12 : decode cX7_kindOfWord 12 = .ok (.getfield 9, 3) := by decide +kernel
theorem dX7_kindOfWord_15 : decode cX7_kindOfWord 15 = .ok (.iload_n 1, 1) := by decide +kernel
theorem dX7_kindOfWord_16 : decode cX7_kindOfWord 16 = .ok (.laload, 1) := by decide +kernel
theorem dX7_kindOfWord_17 : decode cX7_kindOfWord 17 = .ok (.aload_n 0, 1) := by decide +kernel
theorem dX7_kindOfWord_18 : decode cX7_kindOfWord 18 = .ok (.getfield 71, 3) := by decide +kernel
theorem dX7_kindOfWord_21 : decode cX7_kindOfWord 21 = .ok (.lcmp, 1) := by decide +kernel
theorem dX7_kindOfWord_22 : decode cX7_kindOfWord 22 = .ok (.ifCond .ne 9, 3) := by decide +kernel
theorem dX7_kindOfWord_25 : decode cX7_kindOfWord 25 = .ok (.sipush 256, 3) := by decide +kernel
theorem dX7_kindOfWord_28 : decode cX7_kindOfWord 28 = .ok (.iload_n 1, 1) := by decide +kernel
theorem dX7_kindOfWord_29 : decode cX7_kindOfWord 29 = .ok (.iadd, 1) := by decide +kernel
theorem dX7_kindOfWord_30 : decode cX7_kindOfWord 30 = .ok (.ireturn, 1) := by decide +kernel
theorem dX7_kindOfWord_31 : decode cX7_kindOfWord 31 = .ok (.iinc 1 1, 3) := by decide +kernel
theorem dX7_kindOfWord_34 : decode cX7_kindOfWord 34 = .ok (.goto (-32), 3) := by decide +kernel
theorem dX7_kindOfWord_37 : decode cX7_kindOfWord 37 = .ok (.iconst 2, 1) := by decide +kernel
theorem dX7_kindOfWord_38 : decode cX7_kindOfWord 38 = .ok (.ireturn, 1) := by decide +kernel
theorem dX7_readNumber_0 : decode cX7_readNumber 0 = .ok (.aload_n 0, 1) := by decide +kernel
theorem dX7_readNumber_1 : decode cX7_readNumber 1 = .ok (.getfield 51, 3) := by decide +kernel
theorem dX7_readNumber_4 : decode cX7_readNumber 4 = .ok (.istore_n 1, 1) := by decide +kernel
theorem dX7_readNumber_5 : decode cX7_readNumber 5 = .ok (.aload_n 0, 1) := by decide +kernel
theorem dX7_readNumber_6 : decode cX7_readNumber 6 = .ok (.lconst 0, 1) := by decide +kernel
theorem dX7_readNumber_7 : decode cX7_readNumber 7 = .ok (.putfield 71, 3) := by decide +kernel
theorem dX7_readNumber_10 : decode cX7_readNumber 10 = .ok (.aload_n 0, 1) := by decide +kernel
theorem dX7_readNumber_11 : decode cX7_readNumber 11 = .ok (.getfield 51, 3) := by decide +kernel
theorem dX7_readNumber_14 : decode cX7_readNumber 14 = .ok (.aload_n 0, 1) := by decide +kernel
theorem dX7_readNumber_15 : decode cX7_readNumber 15 = .ok (.getfield 25, 3) := by decide +kernel
theorem dX7_readNumber_18 : decode cX7_readNumber 18 = .ok (.getfield 64, 3) := by decide +kernel
theorem dX7_readNumber_21 : decode cX7_readNumber 21 = .ok (.if_icmp .ge 62, 3) := by decide +kernel
theorem dX7_readNumber_24 : decode cX7_readNumber 24 = .ok (.aload_n 0, 1) := by decide +kernel
theorem dX7_readNumber_25 : decode cX7_readNumber 25 = .ok (.getfield 25, 3) := by decide +kernel
theorem dX7_readNumber_28 : decode cX7_readNumber 28 = .ok (.aload_n 0, 1) := by decide +kernel
theorem dX7_readNumber_29 : decode cX7_readNumber 29 = .ok (.getfield 51, 3) := by decide +kernel
theorem dX7_readNumber_32 : decode cX7_readNumber 32 = .ok (.invokevirtual 90, 3) := by decide +kernel
theorem dX7_readNumber_35 : decode cX7_readNumber 35 = .ok (.invokestatic 97, 3) := by decide +kernel
theorem dX7_readNumber_38 : decode cX7_readNumber 38 = .ok (.ifCond .eq 45, 3) := by decide +kernel
theorem dX7_readNumber_41 : decode cX7_readNumber 41 = .ok (.aload_n 0, 1) := by decide +kernel
theorem dX7_readNumber_42 : decode cX7_readNumber 42 = .ok (.aload_n 0, 1) := by decide +kernel
theorem dX7_readNumber_43 : decode cX7_readNumber 43 = .ok (.getfield 71, 3) := by decide +kernel
theorem dX7_readNumber_46 : decode cX7_readNumber 46 = .ok (.ldc2_w 109, 3) := by decide +kernel
theorem dX7_readNumber_49 : decode cX7_readNumber 49 = .ok (.lmul, 1) := by decide +kernel
theorem dX7_readNumber_50 : decode cX7_readNumber 50 = .ok (.aload_n 0, 1) := by decide +kernel
theorem dX7_readNumber_51 : decode cX7_readNumber 51 = .ok (.getfield 25, 3) := by decide +kernel
theorem dX7_readNumber_54 : decode cX7_readNumber 54 = .ok (.aload_n 0, 1) := by decide +kernel
theorem dX7_readNumber_55 : decode cX7_readNumber 55 = .ok (.getfield 51, 3) := by decide +kernel
theorem dX7_readNumber_58 : decode cX7_readNumber 58 = .ok (.invokevirtual 90, 3) := by decide +kernel
theorem dX7_readNumber_61 : decode cX7_readNumber 61 = .ok (.i2l, 1) := by decide +kernel
theorem dX7_readNumber_62 : decode cX7_readNumber 62 = .ok (.ladd, 1) := by decide +kernel
theorem dX7_readNumber_63 : decode cX7_readNumber 63 = .ok (.ldc2_w 111, 3) := by decide +kernel
theorem dX7_readNumber_66 : decode cX7_readNumber 66 = .ok (.lsub, 1) := by decide +kernel
theorem dX7_readNumber_67 : decode cX7_readNumber 67 = .ok (.putfield 71, 3) := by decide +kernel
theorem dX7_readNumber_70 : decode cX7_readNumber 70 = .ok (.aload_n 0, 1) := by decide +kernel
theorem dX7_readNumber_71 : decode cX7_readNumber 71 = .ok (.dup, 1) := by decide +kernel
theorem dX7_readNumber_72 : decode cX7_readNumber 72 = .ok (.getfield 51, 3) := by decide +kernel
theorem dX7_readNumber_75 : decode cX7_readNumber 75 = .ok (.iconst 1, 1) := by decide +kernel
theorem dX7_readNumber_76 : decode cX7_readNumber 76 = .ok (.iadd, 1) := by decide +kernel
theorem dX7_readNumber_77 : decode cX7_readNumber 77 = .ok (.putfield 51, 3) := by decide +kernel
theorem dX7_readNumber_80 : decode cX7_readNumber 80 = .ok (.goto (-70), 3) := by decide +kernel
theorem dX7_readNumber_83 : decode cX7_readNumber 83 = .ok (.aload_n 0, 1) := by decide +kernel
theorem dX7_readNumber_84 : decode cX7_readNumber 84 = .ok (.getfield 51, 3) := by decide +kernel
theorem dX7_readNumber_87 : decode cX7_readNumber 87 = .ok (.iload_n 1, 1) := by decide +kernel
theorem dX7_readNumber_88 : decode cX7_readNumber 88 = .ok (.isub, 1) := by decide +kernel
theorem dX7_readNumber_89 : decode cX7_readNumber 89 = .ok (.bipush 6, 2) := by decide +kernel
theorem dX7_readNumber_91 : decode cX7_readNumber 91 = .ok (.if_icmp .le 7, 3) := by decide +kernel
theorem dX7_readNumber_94 : decode cX7_readNumber 94 = .ok (.iconst 1, 1) := by decide +kernel
theorem dX7_readNumber_95 : decode cX7_readNumber 95 = .ok (.goto 4, 3) := by decide +kernel
theorem dX7_readNumber_98 : decode cX7_readNumber 98 = .ok (.iconst 3, 1) := by decide +kernel
theorem dX7_readNumber_99 : decode cX7_readNumber 99 = .ok (.ireturn, 1) := by decide +kernel
theorem dX7_readSymbol_0 : decode cX7_readSymbol 0 = .ok (.aload_n 0, 1) := by decide +kernel
theorem dX7_readSymbol_1 : decode cX7_readSymbol 1 = .ok (.dup, 1) := by decide +kernel
theorem dX7_readSymbol_2 : decode cX7_readSymbol 2 = .ok (.getfield 51, 3) := by decide +kernel
theorem dX7_readSymbol_5 : decode cX7_readSymbol 5 = .ok (.iconst 1, 1) := by decide +kernel
theorem dX7_readSymbol_6 : decode cX7_readSymbol 6 = .ok (.iadd, 1) := by decide +kernel
theorem dX7_readSymbol_7 : decode cX7_readSymbol 7 = .ok (.putfield 51, 3) := by decide +kernel
theorem dX7_readSymbol_10 : decode cX7_readSymbol 10 = .ok (.iload_n 1, 1) := by decide +kernel
theorem dX7_readSymbol_11 : decode cX7_readSymbol 11 = .ok (.bipush 60, 2) := by decide +kernel
theorem dX7_readSymbol_13 : decode cX7_readSymbol 13 = .ok (.if_icmp .eq 9, 3) := by decide +kernel
theorem dX7_readSymbol_16 : decode cX7_readSymbol 16 = .ok (.iload_n 1, 1) := by decide +kernel
theorem dX7_readSymbol_17 : decode cX7_readSymbol 17 = .ok (.bipush 62, 2) := by decide +kernel
theorem dX7_readSymbol_19 : decode cX7_readSymbol 19 = .ok (.if_icmp .ne 45, 3) := by decide +kernel
theorem dX7_readSymbol_22 : decode cX7_readSymbol 22 = .ok (.aload_n 0, 1) := by decide +kernel
theorem dX7_readSymbol_23 : decode cX7_readSymbol 23 = .ok (.getfield 25, 3) := by decide +kernel
theorem dX7_readSymbol_26 : decode cX7_readSymbol 26 = .ok (.aload_n 0, 1) := by decide +kernel
theorem dX7_readSymbol_27 : decode cX7_readSymbol 27 = .ok (.getfield 51, 3) := by decide +kernel
theorem dX7_readSymbol_30 : decode cX7_readSymbol 30 = .ok (.invokevirtual 90, 3) := by decide +kernel
theorem dX7_readSymbol_33 : decode cX7_readSymbol 33 = .ok (.bipush 61, 2) := by decide +kernel
theorem dX7_readSymbol_35 : decode cX7_readSymbol 35 = .ok (.if_icmp .ne 29, 3) := by decide +kernel
theorem dX7_readSymbol_38 : decode cX7_readSymbol 38 = .ok (.aload_n 0, 1) := by decide +kernel
theorem dX7_readSymbol_39 : decode cX7_readSymbol 39 = .ok (.dup, 1) := by decide +kernel
theorem dX7_readSymbol_40 : decode cX7_readSymbol 40 = .ok (.getfield 51, 3) := by decide +kernel
theorem dX7_readSymbol_43 : decode cX7_readSymbol 43 = .ok (.iconst 1, 1) := by decide +kernel
theorem dX7_readSymbol_44 : decode cX7_readSymbol 44 = .ok (.iadd, 1) := by decide +kernel
theorem dX7_readSymbol_45 : decode cX7_readSymbol 45 = .ok (.putfield 51, 3) := by decide +kernel
theorem dX7_readSymbol_48 : decode cX7_readSymbol 48 = .ok (.iload_n 1, 1) := by decide +kernel
theorem dX7_readSymbol_49 : decode cX7_readSymbol 49 = .ok (.bipush 60, 2) := by decide +kernel
theorem dX7_readSymbol_51 : decode cX7_readSymbol 51 = .ok (.if_icmp .ne 9, 3) := by decide +kernel
theorem dX7_readSymbol_54 : decode cX7_readSymbol 54 = .ok (.sipush 188, 3) := by decide +kernel
theorem dX7_readSymbol_57 : decode cX7_readSymbol 57 = .ok (.goto 6, 3) := by decide +kernel
theorem dX7_readSymbol_60 : decode cX7_readSymbol 60 = .ok (.sipush 190, 3) := by decide +kernel
theorem dX7_readSymbol_63 : decode cX7_readSymbol 63 = .ok (.ireturn, 1) := by decide +kernel
theorem dX7_readSymbol_64 : decode cX7_readSymbol 64 = .ok (.ldc 113, 2) := by decide +kernel
theorem dX7_readSymbol_66 : decode cX7_readSymbol 66 = .ok (.iload_n 1, 1) := by decide +kernel
theorem dX7_readSymbol_67 : decode cX7_readSymbol 67 = .ok (.i2c, 1) := by decide +kernel
theorem dX7_readSymbol_68 : decode cX7_readSymbol 68 = .ok (.invokevirtual 115, 3) := by decide +kernel
theorem dX7_readSymbol_71 : decode cX7_readSymbol 71 = .ok (.ifCond .lt 7, 3) := by decide +kernel
theorem dX7_readSymbol_74 : decode cX7_readSymbol 74 = .ok (.iload_n 1, 1) := by decide +kernel
theorem dX7_readSymbol_75 : decode cX7_readSymbol 75 = .ok (.goto 4, 3) := by decide +kernel
theorem dX7_readSymbol_78 : decode cX7_readSymbol 78 = .ok (.iconst 1, 1) := by decide +kernel
theorem dX7_readSymbol_79 : decode cX7_readSymbol 79 = .ok (.ireturn, 1) := by decide +kernel
theorem dX7_isLetter_0 : decode cX7_isLetter 0 = .ok (.iload_n 0, 1) := by decide +kernel
theorem dX7_isLetter_1 : decode cX7_isLetter 1 = .ok (.bipush 97, 2) := by decide +kernel
theorem dX7_isLetter_3 : decode cX7_isLetter 3 = .ok (.if_icmp .lt 13, 3) := by decide +kernel
theorem dX7_isLetter_6 : decode cX7_isLetter 6 = .ok (.iload_n 0, 1) := by decide +kernel
theorem dX7_isLetter_7 : decode cX7_isLetter 7 = .ok (.bipush 122, 2) := by decide +kernel
theorem dX7_isLetter_9 : decode cX7_isLetter 9 = .ok (.if_icmp .gt 7, 3) := by decide +kernel
theorem dX7_isLetter_12 : decode cX7_isLetter 12 = .ok (.iconst 1, 1) := by decide +kernel
theorem dX7_isLetter_13 : decode cX7_isLetter 13 = .ok (.goto 4, 3) := by decide +kernel
theorem dX7_isLetter_16 : decode cX7_isLetter 16 = .ok (.iconst 0, 1) := by decide +kernel
theorem dX7_isLetter_17 : decode cX7_isLetter 17 = .ok (.ireturn, 1) := by decide +kernel
theorem dX7_isDigit_0 : decode cX7_isDigit 0 = .ok (.iload_n 0, 1) := by decide +kernel
theorem dX7_isDigit_1 : decode cX7_isDigit 1 = .ok (.bipush 48, 2) := by decide +kernel
theorem dX7_isDigit_3 : decode cX7_isDigit 3 = .ok (.if_icmp .lt 13, 3) := by decide +kernel
theorem dX7_isDigit_6 : decode cX7_isDigit 6 = .ok (.iload_n 0, 1) := by decide +kernel
theorem dX7_isDigit_7 : decode cX7_isDigit 7 = .ok (.bipush 57, 2) := by decide +kernel
theorem dX7_isDigit_9 : decode cX7_isDigit 9 = .ok (.if_icmp .gt 7, 3) := by decide +kernel
theorem dX7_isDigit_12 : decode cX7_isDigit 12 = .ok (.iconst 1, 1) := by decide +kernel
theorem dX7_isDigit_13 : decode cX7_isDigit 13 = .ok (.goto 4, 3) := by decide +kernel
theorem dX7_isDigit_16 : decode cX7_isDigit 16 = .ok (.iconst 0, 1) := by decide +kernel
theorem dX7_isDigit_17 : decode cX7_isDigit 17 = .ok (.ireturn, 1) := by decide +kernel
theorem dX8_init_0 : decode cX8_init 0 = .ok (.aload_n 0, 1) := by decide +kernel
theorem dX8_init_1 : decode cX8_init 1 = .ok (.invokespecial 3, 3) := by decide +kernel
theorem dX8_init_4 : decode cX8_init 4 = .ok (.aload_n 0, 1) := by decide +kernel
theorem dX8_init_5 : decode cX8_init 5 = .ok (.new 9, 3) := by decide +kernel
theorem dX8_init_8 : decode cX8_init 8 = .ok (.dup, 1) := by decide +kernel
theorem dX8_init_9 : decode cX8_init 9 = .ok (.invokespecial 11, 3) := by decide +kernel
theorem dX8_init_12 : decode cX8_init 12 = .ok (.putfield 12, 3) := by decide +kernel
theorem dX8_init_15 : decode cX8_init 15 = .ok (.aload_n 0, 1) := by decide +kernel
theorem dX8_init_16 : decode cX8_init 16 = .ok (.new 16, 3) := by decide +kernel
theorem dX8_init_19 : decode cX8_init 19 = .ok (.dup, 1) := by decide +kernel
theorem dX8_init_20 : decode cX8_init 20 = .ok (.invokespecial 18, 3) := by decide +kernel
theorem dX8_init_23 : decode cX8_init 23 = .ok (.putfield 19, 3) := by decide +kernel
theorem dX8_init_26 : decode cX8_init 26 = .ok (.aload_n 0, 1) := by decide +kernel
theorem dX8_init_27 : decode cX8_init 27 = .ok (.new 16, 3) := by decide +kernel
theorem dX8_init_30 : decode cX8_init 30 = .ok (.dup, 1) := by decide +kernel
theorem dX8_init_31 : decode cX8_init 31 = .ok (.invokespecial 18, 3) := by decide +kernel
theorem dX8_init_34 : decode cX8_init 34 = .ok (.putfield 23, 3) := by decide +kernel
theorem dX8_init_37 : decode cX8_init 37 = .ok (.aload_n 0, 1) := by decide +kernel
theorem dX8_init_38 : decode cX8_init 38 = .ok (.new 26, 3) := by decide +kernel
theorem dX8_init_41 : decode cX8_init 41 = .ok (.dup, 1) := by decide +kernel
theorem dX8_init_42 : decode cX8_init 42 = .ok (.aload_n 0, 1) := by decide +kernel
theorem dX8_init_43 : decode cX8_init 43 = .ok (.getfield 12, 3) := by decide +kernel
theorem dX8_init_46 : decode cX8_init 46 = .ok (.aload_n 0, 1) := by decide +kernel
theorem dX8_init_47 : decode cX8_init 47 = .ok (.getfield 19, 3) := by decide +kernel
theorem dX8_init_50 : decode cX8_init 50 = .ok (.invokespecial 28, 3) := by decide +kernel
theorem dX8_init_53 : decode cX8_init 53 = .ok (.putfield 31, 3) := by decide +kernel
theorem dX8_init_56 : decode cX8_init 56 = .ok (.aload_n 0, 1) := by decide +kernel
theorem dX8_init_57 : decode cX8_init 57 = .ok (.new 35, 3) := by decide +kernel
theorem dX8_init_60 : decode cX8_init 60 = .ok (.dup, 1) := by decide +kernel
theorem dX8_init_61 : decode cX8_init 61 = .ok (.aload_n 0, 1) := by decide +kernel
theorem dX8_init_62 : decode cX8_init 62 = .ok (.getfield 23, 3) := by decide +kernel
theorem dX8_init_65 : decode cX8_init 65 = .ok (.invokespecial 37, 3) := by decide +kernel
theorem dX8_init_68 : decode cX8_init 68 = .ok (.putfield 40, 3) := by decide +kernel
theorem dX8_init_71 : decode cX8_init 71 = .ok (.aload_n 0, 1) := by decide +kernel
theorem dX8_init_72 : decode cX8_init 72 = .ok (.new 35, 3) := by decide +kernel
theorem dX8_init_75 : decode cX8_init 75 = .ok (.dup, 1) := by decide +kernel
theorem dX8_init_76 : decode cX8_init 76 = .ok (.aload_n 0, 1) := by decide +kernel
theorem dX8_init_77 : decode cX8_init 77 = .ok (.getfield 23, 3) := by decide +kernel
theorem dX8_init_80 : decode cX8_init 80 = .ok (.invokespecial 37, 3) := by decide +kernel
theorem dX8_init_83 : decode cX8_init 83 = .ok (.putfield 44, 3) := by decide +kernel
theorem dX8_init_86 : decode cX8_init 86 = .ok (.aload_n 0, 1) := by decide +kernel
theorem dX8_init_87 : decode cX8_init 87 = .ok (.iconst (-1), 1) := by decide +kernel
theorem dX8_init_88 : decode cX8_init 88 = .ok (.putfield 47, 3) := by decide +kernel
theorem dX8_init_91 : decode cX8_init 91 = .ok (.return_, 1) := by decide +kernel
theorem dX8_feed_0 : decode cX8_feed 0 = .ok (.aload_n 0, 1) := by decide +kernel
theorem dX8_feed_1 : decode cX8_feed 1 = .ok (.getfield 12, 3) := by decide +kernel
theorem dX8_feed_4 : decode cX8_feed 4 = .ok (.getfield 51, 3) := by decide +kernel
theorem dX8_feed_7 : decode cX8_feed 7 = .ok (.sipush 1980, 3) := by decide +kernel
theorem dX8_feed_10 : decode cX8_feed 10 = .ok (.if_icmp .le 13, 3) := by decide +kernel
theorem dX8_feed_13 : decode cX8_feed 13 = .ok (.new 54, 3) := by decide +kernel
theorem dX8_feed_16 : decode cX8_feed 16 = .ok (.dup, 1) := by decide +kernel
theorem dX8_feed_17 : decode cX8_feed 17 = .ok (.ldc 56, 2) := by decide +kernel
theorem dX8_feed_19 : decode cX8_feed 19 = .ok (.invokespecial 58, 3) := by decide +kernel
theorem dX8_feed_22 : decode cX8_feed 22 = .ok (.athrow, 1) := by decide +kernel
theorem dX8_feed_23 : decode cX8_feed 23 = .ok (.aload_n 0, 1) := by decide +kernel
theorem dX8_feed_24 : decode cX8_feed 24 = .ok (.getfield 12, 3) := by decide +kernel
theorem dX8_feed_27 : decode cX8_feed 27 = .ok (.iload_n 1, 1) := by decide +kernel
theorem dX8_feed_28 : decode cX8_feed 28 = .ok (.invokevirtual 61, 3) := by decide +kernel
theorem dX8_feed_31 : decode cX8_feed 31 = .ok (.aload_n 0, 1) := by decide +kernel
theorem dX8_feed_32 : decode cX8_feed 32 = .ok (.getfield 12, 3) := by decide +kernel
theorem dX8_feed_35 : decode cX8_feed 35 = .ok (.iload_n 2, 1) := by decide +kernel
theorem dX8_feed_36 : decode cX8_feed 36 = .ok (.invokevirtual 61, 3) := by decide +kernel
theorem dX8_feed_39 : decode cX8_feed 39 = .ok (.aload_n 0, 1) := by decide +kernel
theorem dX8_feed_40 : decode cX8_feed 40 = .ok (.getfield 12, 3) := by decide +kernel
theorem dX8_feed_43 : decode cX8_feed 43 = .ok (.iload_n 3, 1) := by decide +kernel
theorem dX8_feed_44 : decode cX8_feed 44 = .ok (.invokevirtual 61, 3) := by decide +kernel
theorem dX8_feed_47 : decode cX8_feed 47 = .ok (.aload_n 0, 1) := by decide +kernel
theorem dX8_feed_48 : decode cX8_feed 48 = .ok (.getfield 12, 3) := by decide +kernel
theorem dX8_feed_51 : decode cX8_feed 51 = .ok (.iload 4, 2) := by decide +kernel
theorem dX8_feed_53 : decode cX8_feed 53 = .ok (.invokevirtual 61, 3) := by decide +kernel
theorem dX8_feed_56 : decode cX8_feed 56 = .ok (.aload_n 0, 1) := by decide +kernel
theorem dX8_feed_57 : decode cX8_feed 57 = .ok (.getfield 12, 3) := by decide +kernel
theorem dX8_feed_60 : decode cX8_feed 60 = .ok (.iload 5, 2) := by decide +kernel
theorem dX8_feed_62 : decode cX8_feed 62 = .ok (.invokevirtual 61, 3) := by decide +kernel
theorem dX8_feed_65 : decode cX8_feed 65 = .ok (.aload_n 0, 1) := by decide +kernel
theorem dX8_feed_66 : decode cX8_feed 66 = .ok (.getfield 12, 3) := by decide +kernel
theorem dX8_feed_69 : decode cX8_feed 69 = .ok (.getfield 51, 3) := by decide +kernel
theorem dX8_feed_72 : decode cX8_feed 72 = .ok (.ireturn, 1) := by decide +kernel
theorem dX8_trim_0 : decode cX8_trim 0 = .ok (.iload_n 1, 1) := by decide +kernel
theorem dX8_trim_1 : decode cX8_trim 1 = .ok (.ifCond .lt 14, 3) := by decide +kernel
theorem dX8_trim_4 : decode cX8_trim 4 = .ok (.iload_n 1, 1) := by decide +kernel
theorem dX8_trim_5 : decode cX8_trim 5 = .ok (.aload_n 0, 1) := by decide +kernel
theorem dX8_trim_6 : decode cX8_trim 6 = .ok (.getfield 12, 3) := by decide +kernel
theorem dX8_trim_9 : decode cX8_trim 9 = .ok (.getfield 51, 3) := by decide +kernel
theorem dX8_trim_12 : decode cX8_trim 12 = .ok (.if_icmp .le 13, 3) := by decide +kernel
theorem dX8_trim_15 : decode cX8_trim 15 = .ok (.new 65, 3) := by decide +kernel
theorem dX8_trim_18 : decode cX8_trim 18 = .ok (.dup, 1) := by decide +kernel
theorem dX8_trim_19 : decode cX8_trim 19 = .ok (.ldc 67, 2) := by decide +kernel
theorem dX8_trim_21 : decode cX8_trim 21 = .ok (.invokespecial 69, 3) := by decide +kernel
theorem dX8_trim_24 : decode cX8_trim 24 = .ok (.athrow, 1) := by decide +kernel
theorem dX8_trim_25 : decode cX8_trim 25 = .ok (.aload_n 0, 1) := by decide +kernel
theorem dX8_trim_26 : decode cX8_trim 26 = .ok (.getfield 12, 3) := by decide +kernel
theorem dX8_trim_29 : decode cX8_trim 29 = .ok (.iload_n 1, 1) := by decide +kernel
theorem dX8_trim_30 : decode cX8_trim 30 = .ok (.putfield 51, 3) := by decide +kernel
theorem dX8_trim_33 : decode cX8_trim 33 = .ok (.iload_n 1, 1) := by decide +kernel
theorem dX8_trim_34 : decode cX8_trim 34 = .ok (.ireturn, 1) := by decide +kernel
theorem dX8_teach_0 : decode cX8_teach 0 = .ok (.aload_n 0, 1) := by decide +kernel
theorem dX8_teach_1 : decode cX8_teach 1 = .ok (.getfield 31, 3) := by decide +kernel
theorem dX8_teach_4 : decode cX8_teach 4 = .ok (.invokevirtual 70, 3) := by decide +kernel
theorem dX8_teach_7 : decode cX8_teach 7 = .ok (.istore_n 1, 1) := by decide +kernel
theorem dX8_teach_8 : decode cX8_teach 8 = .ok (.aload_n 0, 1) := by decide +kernel
theorem dX8_teach_9 : decode cX8_teach 9 = .ok (.aload_n 0, 1) := by decide +kernel
theorem dX8_teach_10 : decode cX8_teach 10 = .ok (.getfield 31, 3) := by decide +kernel
theorem dX8_teach_13 : decode cX8_teach 13 = .ok (.invokevirtual 74, 3) := by decide +kernel
theorem dX8_teach_16 : decode cX8_teach 16 = .ok (.putfield 47, 3) := by decide +kernel
theorem dX8_teach_19 : decode cX8_teach 19 = .ok (.aload_n 0, 1) := by decide +kernel
theorem dX8_teach_20 : decode cX8_teach 20 = .ok (.getfield 12, 3) := by decide +kernel
theorem dX8_teach_23 : decode cX8_teach 23 = .ok (.iconst 0, 1) := by decide +kernel
theorem dX8_teach_24 : decode cX8_teach 24 = .ok (.putfield 51, 3) := by decide +kernel
theorem dX8_teach_27 : decode cX8_teach 27 = .ok (.iload_n 1, 1) := by decide +kernel
theorem dX8_teach_28 : decode cX8_teach 28 = .ok (.ifCond .ne 21, 3) := by decide +kernel
theorem dX8_teach_31 : decode cX8_teach 31 = .ok (.aload_n 0, 1) := by decide +kernel
theorem dX8_teach_32 : decode cX8_teach 32 = .ok (.getfield 23, 3) := by decide +kernel
theorem dX8_teach_35 : decode cX8_teach 35 = .ok (.aload_n 0, 1) := by decide +kernel
theorem dX8_teach_36 : decode cX8_teach 36 = .ok (.getfield 19, 3) := by decide +kernel
theorem dX8_teach_39 : decode cX8_teach 39 = .ok (.invokevirtual 76, 3) := by decide +kernel
theorem dX8_teach_42 : decode cX8_teach 42 = .ok (.aload_n 0, 1) := by decide +kernel
theorem dX8_teach_43 : decode cX8_teach 43 = .ok (.getfield 40, 3) := by decide +kernel
theorem dX8_teach_46 : decode cX8_teach 46 = .ok (.invokevirtual 79, 3) := by decide +kernel
theorem dX8_teach_49 : decode cX8_teach 49 = .ok (.iload_n 1, 1) := by decide +kernel
theorem dX8_teach_50 : decode cX8_teach 50 = .ok (.ireturn, 1) := by decide +kernel
theorem dX8_errorAt_0 : decode cX8_errorAt 0 = .ok (.aload_n 0, 1) := by decide +kernel
theorem dX8_errorAt_1 : decode cX8_errorAt 1 = .ok (.getfield 47, 3) := by decide +kernel
theorem dX8_errorAt_4 : decode cX8_errorAt 4 = .ok (.ireturn, 1) := by decide +kernel
theorem dX8_drones_0 : decode cX8_drones 0 = .ok (.aload_n 0, 1) := by decide +kernel
theorem dX8_drones_1 : decode cX8_drones 1 = .ok (.getfield 23, 3) := by decide +kernel
theorem dX8_drones_4 : decode cX8_drones 4 = .ok (.getfield 82, 3) := by decide +kernel
theorem dX8_drones_7 : decode cX8_drones 7 = .ok (.ireturn, 1) := by decide +kernel
theorem dX8_deals_0 : decode cX8_deals 0 = .ok (.aload_n 0, 1) := by decide +kernel
theorem dX8_deals_1 : decode cX8_deals 1 = .ok (.getfield 23, 3) := by decide +kernel
theorem dX8_deals_4 : decode cX8_deals 4 = .ok (.getfield 85, 3) := by decide +kernel
theorem dX8_deals_7 : decode cX8_deals 7 = .ok (.ireturn, 1) := by decide +kernel
theorem dX8_day_0 : decode cX8_day 0 = .ok (.aload_n 0, 1) := by decide +kernel
theorem dX8_day_1 : decode cX8_day 1 = .ok (.getfield 40, 3) := by decide +kernel
theorem dX8_day_4 : decode cX8_day 4 = .ok (.getfield 88, 3) := by decide +kernel
theorem dX8_day_7 : decode cX8_day 7 = .ok (.ireturn, 1) := by decide +kernel
theorem dX8_ordersCarriedOut_0 : decode cX8_ordersCarriedOut 0 = .ok (.aload_n 0, 1) := by decide +kernel
theorem dX8_ordersCarriedOut_1 : decode cX8_ordersCarriedOut 1 = .ok (.getfield 40, 3) := by decide +kernel
theorem dX8_ordersCarriedOut_4 : decode cX8_ordersCarriedOut 4 = .ok (.getfield 91, 3) := by decide +kernel
theorem dX8_ordersCarriedOut_7 : decode cX8_ordersCarriedOut 7 = .ok (.ireturn, 1) := by decide +kernel
theorem dX8_blocked_0 : decode cX8_blocked 0 = .ok (.aload_n 0, 1) := by decide +kernel
theorem dX8_blocked_1 : decode cX8_blocked 1 = .ok (.getfield 40, 3) := by decide +kernel
theorem dX8_blocked_4 : decode cX8_blocked 4 = .ok (.invokevirtual 94, 3) := by decide +kernel
theorem dX8_blocked_7 : decode cX8_blocked 7 = .ok (.ireturn, 1) := by decide +kernel
theorem dX8_honey_0 : decode cX8_honey 0 = .ok (.aload_n 0, 1) := by decide +kernel
theorem dX8_honey_1 : decode cX8_honey 1 = .ok (.getfield 40, 3) := by decide +kernel
theorem dX8_honey_4 : decode cX8_honey 4 = .ok (.getfield 97, 3) := by decide +kernel
theorem dX8_honey_7 : decode cX8_honey 7 = .ok (.aload_n 0, 1) := by decide +kernel
theorem dX8_honey_8 : decode cX8_honey 8 = .ok (.getfield 23, 3) := by decide +kernel
theorem dX8_honey_11 : decode cX8_honey 11 = .ok (.getfield 82, 3) := by decide +kernel
theorem dX8_honey_14 : decode cX8_honey 14 = .ok (.invokevirtual 101, 3) := by decide +kernel
theorem dX8_honey_17 : decode cX8_honey 17 = .ok (.ireturn, 1) := by decide +kernel
theorem dX8_isQueenAwake_0 : decode cX8_isQueenAwake 0 = .ok (.aload_n 0, 1) := by decide +kernel
theorem dX8_isQueenAwake_1 : decode cX8_isQueenAwake 1 = .ok (.getfield 40, 3) := by decide +kernel
theorem dX8_isQueenAwake_4 : decode cX8_isQueenAwake 4 = .ok (.getfield 107, 3) := by decide +kernel
theorem dX8_isQueenAwake_7 : decode cX8_isQueenAwake 7 = .ok (.ireturn, 1) := by decide +kernel
theorem dX8_honeyOf_0 : decode cX8_honeyOf 0 = .ok (.aload_n 0, 1) := by decide +kernel
theorem dX8_honeyOf_1 : decode cX8_honeyOf 1 = .ok (.iload_n 1, 1) := by decide +kernel
theorem dX8_honeyOf_2 : decode cX8_honeyOf 2 = .ok (.invokevirtual 111, 3) := by decide +kernel
theorem dX8_honeyOf_5 : decode cX8_honeyOf 5 = .ok (.aload_n 0, 1) := by decide +kernel
theorem dX8_honeyOf_6 : decode cX8_honeyOf 6 = .ok (.getfield 40, 3) := by decide +kernel
theorem dX8_honeyOf_9 : decode cX8_honeyOf 9 = .ok (.getfield 97, 3) := by decide +kernel
theorem dX8_honeyOf_12 : decode cX8_honeyOf 12 = .ok (.iload_n 1, 1) := by decide +kernel
theorem dX8_honeyOf_13 : decode cX8_honeyOf 13 = .ok (.invokevirtual 114, 3) := by decide +kernel
theorem dX8_honeyOf_16 : decode cX8_honeyOf 16 = .ok (.ireturn, 1) := by decide +kernel
theorem dX8_isAwake_0 : decode cX8_isAwake 0 = .ok (.aload_n 0, 1) := by decide +kernel
theorem dX8_isAwake_1 : decode cX8_isAwake 1 = .ok (.iload_n 1, 1) := by decide +kernel
theorem dX8_isAwake_2 : decode cX8_isAwake 2 = .ok (.invokevirtual 111, 3) := by decide +kernel
theorem dX8_isAwake_5 : decode cX8_isAwake 5 = .ok (.aload_n 0, 1) := by decide +kernel
theorem dX8_isAwake_6 : decode cX8_isAwake 6 = .ok (.getfield 40, 3) := by decide +kernel
theorem dX8_isAwake_9 : decode cX8_isAwake 9 = .ok (.iload_n 1, 1) := by decide +kernel
theorem dX8_isAwake_10 : decode cX8_isAwake 10 = .ok (.invokevirtual 117, 3) := by decide +kernel
theorem dX8_isAwake_13 : decode cX8_isAwake 13 = .ok (.ireturn, 1) := by decide +kernel
theorem dX8_blockedBy_0 : decode cX8_blockedBy 0 = .ok (.aload_n 0, 1) := by decide +kernel
theorem dX8_blockedBy_1 : decode cX8_blockedBy 1 = .ok (.iload_n 1, 1) := by decide +kernel
theorem dX8_blockedBy_2 : decode cX8_blockedBy 2 = .ok (.invokevirtual 111, 3) := by decide +kernel
theorem dX8_blockedBy_5 : decode cX8_blockedBy 5 = .ok (.aload_n 0, 1) := by decide +kernel
theorem dX8_blockedBy_6 : decode cX8_blockedBy 6 = .ok (.getfield 40, 3) := by decide +kernel
theorem dX8_blockedBy_9 : decode cX8_blockedBy 9 = .ok (.getfield 121, 3) := by decide +kernel
theorem dX8_blockedBy_12 : decode cX8_blockedBy 12 = .ok (.iload_n 1, 1) := by decide +kernel
theorem dX8_blockedBy_13 : decode cX8_blockedBy 13 = .ok (.invokevirtual 114, 3) := by decide +kernel
theorem dX8_blockedBy_16 : decode cX8_blockedBy 16 = .ok (.ireturn, 1) := by decide +kernel
theorem dX8_logOf_0 : decode cX8_logOf 0 = .ok (.aload_n 0, 1) := by decide +kernel
theorem dX8_logOf_1 : decode cX8_logOf 1 = .ok (.iload_n 1, 1) := by decide +kernel
theorem dX8_logOf_2 : decode cX8_logOf 2 = .ok (.invokevirtual 111, 3) := by decide +kernel
theorem dX8_logOf_5 : decode cX8_logOf 5 = .ok (.aload_n 0, 1) := by decide +kernel
theorem dX8_logOf_6 : decode cX8_logOf 6 = .ok (.getfield 40, 3) := by decide +kernel
theorem dX8_logOf_9 : decode cX8_logOf 9 = .ok (.getfield 124, 3) := by decide +kernel
theorem dX8_logOf_12 : decode cX8_logOf 12 = .ok (.iload_n 1, 1) := by decide +kernel
theorem dX8_logOf_13 : decode cX8_logOf 13 = .ok (.invokevirtual 114, 3) := by decide +kernel
theorem dX8_logOf_16 : decode cX8_logOf 16 = .ok (.ireturn, 1) := by decide +kernel
theorem dX8_stateOf_0 : decode cX8_stateOf 0 = .ok (.aload_n 0, 1) := by decide +kernel
theorem dX8_stateOf_1 : decode cX8_stateOf 1 = .ok (.iload_n 1, 1) := by decide +kernel
theorem dX8_stateOf_2 : decode cX8_stateOf 2 = .ok (.invokevirtual 127, 3) := by decide +kernel
theorem dX8_stateOf_5 : decode cX8_stateOf 5 = .ok (.aload_n 0, 1) := by decide +kernel
theorem dX8_stateOf_6 : decode cX8_stateOf 6 = .ok (.getfield 40, 3) := by decide +kernel
theorem dX8_stateOf_9 : decode cX8_stateOf 9 = .ok (.getfield 130, 3) := by decide +kernel
theorem dX8_stateOf_12 : decode cX8_stateOf 12 = .ok (.iload_n 1, 1) := by decide +kernel
theorem dX8_stateOf_13 : decode cX8_stateOf 13 = .ok (.invokevirtual 114, 3) := by decide +kernel
theorem dX8_stateOf_16 : decode cX8_stateOf 16 = .ok (.ireturn, 1) := by decide +kernel
theorem dX8_waitsOf_0 : decode cX8_waitsOf 0 = .ok (.aload_n 0, 1) := by decide +kernel
theorem dX8_waitsOf_1 : decode cX8_waitsOf 1 = .ok (.iload_n 1, 1) := by decide +kernel
theorem dX8_waitsOf_2 : decode cX8_waitsOf 2 = .ok (.invokevirtual 127, 3) := by decide +kernel
theorem dX8_waitsOf_5 : decode cX8_waitsOf 5 = .ok (.aload_n 0, 1) := by decide +kernel
theorem dX8_waitsOf_6 : decode cX8_waitsOf 6 = .ok (.getfield 40, 3) := by decide +kernel
theorem dX8_waitsOf_9 : decode cX8_waitsOf 9 = .ok (.iload_n 1, 1) := by decide +kernel
theorem dX8_waitsOf_10 : decode cX8_waitsOf 10 = .ok (.invokevirtual 133, 3) := by decide +kernel
theorem dX8_waitsOf_13 : decode cX8_waitsOf 13 = .ok (.ireturn, 1) := by decide +kernel
theorem dX8_partsOf_0 : decode cX8_partsOf 0 = .ok (.aload_n 0, 1) := by decide +kernel
theorem dX8_partsOf_1 : decode cX8_partsOf 1 = .ok (.iload_n 1, 1) := by decide +kernel
theorem dX8_partsOf_2 : decode cX8_partsOf 2 = .ok (.invokevirtual 127, 3) := by decide +kernel
theorem dX8_partsOf_5 : decode cX8_partsOf 5 = .ok (.aload_n 0, 1) := by decide +kernel
theorem dX8_partsOf_6 : decode cX8_partsOf 6 = .ok (.getfield 23, 3) := by decide +kernel
theorem dX8_partsOf_9 : decode cX8_partsOf 9 = .ok (.getfield 136, 3) := by decide +kernel
theorem dX8_partsOf_12 : decode cX8_partsOf 12 = .ok (.iload_n 1, 1) := by decide +kernel
theorem dX8_partsOf_13 : decode cX8_partsOf 13 = .ok (.invokevirtual 114, 3) := by decide +kernel
theorem dX8_partsOf_16 : decode cX8_partsOf 16 = .ok (.ireturn, 1) := by decide +kernel
theorem dX8_droneIn_0 : decode cX8_droneIn 0 = .ok (.aload_n 0, 1) := by decide +kernel
theorem dX8_droneIn_1 : decode cX8_droneIn 1 = .ok (.iload_n 1, 1) := by decide +kernel
theorem dX8_droneIn_2 : decode cX8_droneIn 2 = .ok (.iload_n 2, 1) := by decide +kernel
theorem dX8_droneIn_3 : decode cX8_droneIn 3 = .ok (.invokevirtual 139, 3) := by decide +kernel
theorem dX8_droneIn_6 : decode cX8_droneIn 6 = .ok (.aload_n 0, 1) := by decide +kernel
theorem dX8_droneIn_7 : decode cX8_droneIn 7 = .ok (.getfield 23, 3) := by decide +kernel
theorem dX8_droneIn_10 : decode cX8_droneIn 10 = .ok (.getfield 143, 3) := by decide +kernel
theorem dX8_droneIn_13 : decode cX8_droneIn 13 = .ok (.iload_n 1, 1) := by decide +kernel
theorem dX8_droneIn_14 : decode cX8_droneIn 14 = .ok (.iload_n 2, 1) := by decide +kernel
theorem dX8_droneIn_15 : decode cX8_droneIn 15 = .ok (.invokestatic 146, 3) := by decide +kernel
theorem dX8_droneIn_18 : decode cX8_droneIn 18 = .ok (.invokevirtual 114, 3) := by decide +kernel
theorem dX8_droneIn_21 : decode cX8_droneIn 21 = .ok (.ireturn, 1) := by decide +kernel
theorem dX8_changeIn_0 : decode cX8_changeIn 0 = .ok (.aload_n 0, 1) := by decide +kernel
theorem dX8_changeIn_1 : decode cX8_changeIn 1 = .ok (.iload_n 1, 1) := by decide +kernel
theorem dX8_changeIn_2 : decode cX8_changeIn 2 = .ok (.iload_n 2, 1) := by decide +kernel
theorem dX8_changeIn_3 : decode cX8_changeIn 3 = .ok (.invokevirtual 139, 3) := by decide +kernel
theorem dX8_changeIn_6 : decode cX8_changeIn 6 = .ok (.aload_n 0, 1) := by decide +kernel
theorem dX8_changeIn_7 : decode cX8_changeIn 7 = .ok (.getfield 23, 3) := by decide +kernel
theorem dX8_changeIn_10 : decode cX8_changeIn 10 = .ok (.getfield 150, 3) := by decide +kernel
theorem dX8_changeIn_13 : decode cX8_changeIn 13 = .ok (.iload_n 1, 1) := by decide +kernel
theorem dX8_changeIn_14 : decode cX8_changeIn 14 = .ok (.iload_n 2, 1) := by decide +kernel
theorem dX8_changeIn_15 : decode cX8_changeIn 15 = .ok (.invokestatic 146, 3) := by decide +kernel
theorem dX8_changeIn_18 : decode cX8_changeIn 18 = .ok (.invokevirtual 114, 3) := by decide +kernel
theorem dX8_changeIn_21 : decode cX8_changeIn 21 = .ok (.ireturn, 1) := by decide +kernel
theorem dX8_voteIn_0 : decode cX8_voteIn 0 = .ok (.aload_n 0, 1) := by decide +kernel
theorem dX8_voteIn_1 : decode cX8_voteIn 1 = .ok (.iload_n 1, 1) := by decide +kernel
theorem dX8_voteIn_2 : decode cX8_voteIn 2 = .ok (.iload_n 2, 1) := by decide +kernel
theorem dX8_voteIn_3 : decode cX8_voteIn 3 = .ok (.invokevirtual 139, 3) := by decide +kernel
theorem dX8_voteIn_6 : decode cX8_voteIn 6 = .ok (.aload_n 0, 1) := by decide +kernel
theorem dX8_voteIn_7 : decode cX8_voteIn 7 = .ok (.getfield 40, 3) := by decide +kernel
theorem dX8_voteIn_10 : decode cX8_voteIn 10 = .ok (.getfield 153, 3) := by decide +kernel
theorem dX8_voteIn_13 : decode cX8_voteIn 13 = .ok (.iload_n 1, 1) := by decide +kernel
theorem dX8_voteIn_14 : decode cX8_voteIn 14 = .ok (.iload_n 2, 1) := by decide +kernel
theorem dX8_voteIn_15 : decode cX8_voteIn 15 = .ok (.invokestatic 146, 3) := by decide +kernel
theorem dX8_voteIn_18 : decode cX8_voteIn 18 = .ok (.invokevirtual 114, 3) := by decide +kernel
theorem dX8_voteIn_21 : decode cX8_voteIn 21 = .ok (.ireturn, 1) := by decide +kernel
theorem dX8_hasHeard_0 : decode cX8_hasHeard 0 = .ok (.aload_n 0, 1) := by decide +kernel
theorem dX8_hasHeard_1 : decode cX8_hasHeard 1 = .ok (.iload_n 1, 1) := by decide +kernel
theorem dX8_hasHeard_2 : decode cX8_hasHeard 2 = .ok (.iload_n 2, 1) := by decide +kernel
theorem dX8_hasHeard_3 : decode cX8_hasHeard 3 = .ok (.invokevirtual 139, 3) := by decide +kernel
theorem dX8_hasHeard_6 : decode cX8_hasHeard 6 = .ok (.aload_n 0, 1) := by decide +kernel
theorem dX8_hasHeard_7 : decode cX8_hasHeard 7 = .ok (.getfield 40, 3) := by decide +kernel
theorem dX8_hasHeard_10 : decode cX8_hasHeard 10 = .ok (.getfield 156, 3) := by decide +kernel
theorem dX8_hasHeard_13 : decode cX8_hasHeard 13 = .ok (.iload_n 1, 1) := by decide +kernel
theorem dX8_hasHeard_14 : decode cX8_hasHeard 14 = .ok (.iload_n 2, 1) := by decide +kernel
theorem dX8_hasHeard_15 : decode cX8_hasHeard 15 = .ok (.invokestatic 146, 3) := by decide +kernel
theorem dX8_hasHeard_18 : decode cX8_hasHeard 18 = .ok (.invokevirtual 114, 3) := by decide +kernel
theorem dX8_hasHeard_21 : decode cX8_hasHeard 21 = .ok (.ifCond .eq 7, 3) := by decide +kernel
theorem dX8_hasHeard_24 : decode cX8_hasHeard 24 = .ok (.iconst 1, 1) := by decide +kernel
theorem dX8_hasHeard_25 : decode cX8_hasHeard 25 = .ok (.goto 4, 3) := by decide +kernel
theorem dX8_hasHeard_28 : decode cX8_hasHeard 28 = .ok (.iconst 0, 1) := by decide +kernel
theorem dX8_hasHeard_29 : decode cX8_hasHeard 29 = .ok (.ireturn, 1) := by decide +kernel
theorem dX8_votesFor_0 : decode cX8_votesFor 0 = .ok (.aload_n 0, 1) := by decide +kernel
theorem dX8_votesFor_1 : decode cX8_votesFor 1 = .ok (.iload_n 1, 1) := by decide +kernel
theorem dX8_votesFor_2 : decode cX8_votesFor 2 = .ok (.invokevirtual 127, 3) := by decide +kernel
theorem dX8_votesFor_5 : decode cX8_votesFor 5 = .ok (.aload_n 0, 1) := by decide +kernel
theorem dX8_votesFor_6 : decode cX8_votesFor 6 = .ok (.getfield 40, 3) := by decide +kernel
theorem dX8_votesFor_9 : decode cX8_votesFor 9 = .ok (.iload_n 1, 1) := by decide +kernel
theorem dX8_votesFor_10 : decode cX8_votesFor 10 = .ok (.iconst 1, 1) := by decide +kernel
theorem dX8_votesFor_11 : decode cX8_votesFor 11 = .ok (.invokevirtual 159, 3) := by decide +kernel
theorem dX8_votesFor_14 : decode cX8_votesFor 14 = .ok (.ireturn, 1) := by decide +kernel
theorem dX8_wouldAgree_0 : decode cX8_wouldAgree 0 = .ok (.aload_n 0, 1) := by decide +kernel
theorem dX8_wouldAgree_1 : decode cX8_wouldAgree 1 = .ok (.iload_n 1, 1) := by decide +kernel
theorem dX8_wouldAgree_2 : decode cX8_wouldAgree 2 = .ok (.invokevirtual 127, 3) := by decide +kernel
theorem dX8_wouldAgree_5 : decode cX8_wouldAgree 5 = .ok (.aload_n 0, 1) := by decide +kernel
theorem dX8_wouldAgree_6 : decode cX8_wouldAgree 6 = .ok (.getfield 40, 3) := by decide +kernel
theorem dX8_wouldAgree_9 : decode cX8_wouldAgree 9 = .ok (.iload_n 1, 1) := by decide +kernel
theorem dX8_wouldAgree_10 : decode cX8_wouldAgree 10 = .ok (.invokevirtual 162, 3) := by decide +kernel
theorem dX8_wouldAgree_13 : decode cX8_wouldAgree 13 = .ok (.ireturn, 1) := by decide +kernel
theorem dX8_begin_0 : decode cX8_begin 0 = .ok (.aload_n 0, 1) := by decide +kernel
theorem dX8_begin_1 : decode cX8_begin 1 = .ok (.iload_n 1, 1) := by decide +kernel
theorem dX8_begin_2 : decode cX8_begin 2 = .ok (.invokevirtual 127, 3) := by decide +kernel
theorem dX8_begin_5 : decode cX8_begin 5 = .ok (.aload_n 0, 1) := by decide +kernel
theorem dX8_begin_6 : decode cX8_begin 6 = .ok (.getfield 40, 3) := by decide +kernel
theorem dX8_begin_9 : decode cX8_begin 9 = .ok (.iload_n 1, 1) := by decide +kernel
theorem dX8_begin_10 : decode cX8_begin 10 = .ok (.invokevirtual 165, 3) := by decide +kernel
theorem dX8_begin_13 : decode cX8_begin 13 = .ok (.ifCond .ne 13, 3) := by decide +kernel
theorem dX8_begin_16 : decode cX8_begin 16 = .ok (.new 54, 3) := by decide +kernel
theorem dX8_begin_19 : decode cX8_begin 19 = .ok (.dup, 1) := by decide +kernel
theorem dX8_begin_20 : decode cX8_begin 20 = .ok (.ldc 168, 2) := by decide +kernel
theorem dX8_begin_22 : decode cX8_begin 22 = .ok (.invokespecial 58, 3) := by decide +kernel
theorem dX8_begin_25 : decode cX8_begin 25 = .ok (.athrow, 1) := by decide +kernel
theorem dX8_begin_26 : decode cX8_begin 26 = .ok (.aload_n 0, 1) := by decide +kernel
theorem dX8_begin_27 : decode cX8_begin 27 = .ok (.getfield 40, 3) := by decide +kernel
theorem dX8_begin_30 : decode cX8_begin 30 = .ok (.invokevirtual 170, 3) := by decide +kernel
theorem dX8_begin_33 : decode cX8_begin 33 = .ok (.ireturn, 1) := by decide +kernel
theorem dX8_crash_0 : decode cX8_crash 0 = .ok (.aload_n 0, 1) := by decide +kernel
theorem dX8_crash_1 : decode cX8_crash 1 = .ok (.iload_n 1, 1) := by decide +kernel
theorem dX8_crash_2 : decode cX8_crash 2 = .ok (.invokevirtual 111, 3) := by decide +kernel
theorem dX8_crash_5 : decode cX8_crash 5 = .ok (.aload_n 0, 1) := by decide +kernel
theorem dX8_crash_6 : decode cX8_crash 6 = .ok (.getfield 40, 3) := by decide +kernel
theorem dX8_crash_9 : decode cX8_crash 9 = .ok (.iload_n 1, 1) := by decide +kernel
theorem dX8_crash_10 : decode cX8_crash 10 = .ok (.invokevirtual 173, 3) := by decide +kernel
theorem dX8_crash_13 : decode cX8_crash 13 = .ok (.ifCond .ne 13, 3) := by decide +kernel
theorem dX8_crash_16 : decode cX8_crash 16 = .ok (.new 54, 3) := by decide +kernel
theorem dX8_crash_19 : decode cX8_crash 19 = .ok (.dup, 1) := by decide +kernel
theorem dX8_crash_20 : decode cX8_crash 20 = .ok (.ldc 176, 2) := by decide +kernel
theorem dX8_crash_22 : decode cX8_crash 22 = .ok (.invokespecial 58, 3) := by decide +kernel
theorem dX8_crash_25 : decode cX8_crash 25 = .ok (.athrow, 1) := by decide +kernel
theorem dX8_crash_26 : decode cX8_crash 26 = .ok (.aload_n 0, 1) := by decide +kernel
theorem dX8_crash_27 : decode cX8_crash 27 = .ok (.getfield 40, 3) := by decide +kernel
theorem dX8_crash_30 : decode cX8_crash 30 = .ok (.invokevirtual 178, 3) := by decide +kernel
theorem dX8_crash_33 : decode cX8_crash 33 = .ok (.ireturn, 1) := by decide +kernel
theorem dX8_wake_0 : decode cX8_wake 0 = .ok (.aload_n 0, 1) := by decide +kernel
theorem dX8_wake_1 : decode cX8_wake 1 = .ok (.iload_n 1, 1) := by decide +kernel
theorem dX8_wake_2 : decode cX8_wake 2 = .ok (.invokevirtual 111, 3) := by decide +kernel
theorem dX8_wake_5 : decode cX8_wake 5 = .ok (.aload_n 0, 1) := by decide +kernel
theorem dX8_wake_6 : decode cX8_wake 6 = .ok (.getfield 40, 3) := by decide +kernel
theorem dX8_wake_9 : decode cX8_wake 9 = .ok (.iload_n 1, 1) := by decide +kernel
theorem dX8_wake_10 : decode cX8_wake 10 = .ok (.invokevirtual 181, 3) := by decide +kernel
theorem dX8_wake_13 : decode cX8_wake 13 = .ok (.ifCond .ne 13, 3) := by decide +kernel
theorem dX8_wake_16 : decode cX8_wake 16 = .ok (.new 54, 3) := by decide +kernel
theorem dX8_wake_19 : decode cX8_wake 19 = .ok (.dup, 1) := by decide +kernel
theorem dX8_wake_20 : decode cX8_wake 20 = .ok (.ldc 184, 2) := by decide +kernel
theorem dX8_wake_22 : decode cX8_wake 22 = .ok (.invokespecial 58, 3) := by decide +kernel
theorem dX8_wake_25 : decode cX8_wake 25 = .ok (.athrow, 1) := by decide +kernel
theorem dX8_wake_26 : decode cX8_wake 26 = .ok (.aload_n 0, 1) := by decide +kernel
theorem dX8_wake_27 : decode cX8_wake 27 = .ok (.getfield 40, 3) := by decide +kernel
theorem dX8_wake_30 : decode cX8_wake 30 = .ok (.invokevirtual 178, 3) := by decide +kernel
theorem dX8_wake_33 : decode cX8_wake 33 = .ok (.ireturn, 1) := by decide +kernel
theorem dX8_crashQueen_0 : decode cX8_crashQueen 0 = .ok (.aload_n 0, 1) := by decide +kernel
theorem dX8_crashQueen_1 : decode cX8_crashQueen 1 = .ok (.getfield 40, 3) := by decide +kernel
theorem dX8_crashQueen_4 : decode cX8_crashQueen 4 = .ok (.bipush 8, 2) := by decide +kernel
theorem dX8_crashQueen_6 : decode cX8_crashQueen 6 = .ok (.invokevirtual 173, 3) := by decide +kernel
theorem dX8_crashQueen_9 : decode cX8_crashQueen 9 = .ok (.ifCond .ne 13, 3) := by decide +kernel
theorem dX8_crashQueen_12 : decode cX8_crashQueen 12 = .ok (.new 54, 3) := by decide +kernel
theorem dX8_crashQueen_15 : decode cX8_crashQueen 15 = .ok (.dup, 1) := by decide +kernel
theorem dX8_crashQueen_16 : decode cX8_crashQueen 16 = .ok (.ldc 186, 2) := by decide +kernel
theorem dX8_crashQueen_18 : decode cX8_crashQueen 18 = .ok (.invokespecial 58, 3) := by decide +kernel
theorem dX8_crashQueen_21 : decode cX8_crashQueen 21 = .ok (.athrow, 1) := by decide +kernel
theorem dX8_crashQueen_22 : decode cX8_crashQueen 22 = .ok (.aload_n 0, 1) := by decide +kernel
theorem dX8_crashQueen_23 : decode cX8_crashQueen 23 = .ok (.getfield 40, 3) := by decide +kernel
theorem dX8_crashQueen_26 : decode cX8_crashQueen 26 = .ok (.invokevirtual 170, 3) := by decide +kernel
theorem dX8_crashQueen_29 : decode cX8_crashQueen 29 = .ok (.ireturn, 1) := by decide +kernel
theorem dX8_wakeQueen_0 : decode cX8_wakeQueen 0 = .ok (.aload_n 0, 1) := by decide +kernel
theorem dX8_wakeQueen_1 : decode cX8_wakeQueen 1 = .ok (.getfield 40, 3) := by decide +kernel
theorem dX8_wakeQueen_4 : decode cX8_wakeQueen 4 = .ok (.invokevirtual 170, 3) := by decide +kernel
theorem dX8_wakeQueen_7 : decode cX8_wakeQueen 7 = .ok (.istore_n 1, 1) := by decide +kernel
theorem dX8_wakeQueen_8 : decode cX8_wakeQueen 8 = .ok (.aload_n 0, 1) := by decide +kernel
theorem dX8_wakeQueen_9 : decode cX8_wakeQueen 9 = .ok (.getfield 40, 3) := by decide +kernel
theorem dX8_wakeQueen_12 : decode cX8_wakeQueen 12 = .ok (.bipush 8, 2) := by decide +kernel
theorem dX8_wakeQueen_14 : decode cX8_wakeQueen 14 = .ok (.invokevirtual 181, 3) := by decide +kernel
theorem dX8_wakeQueen_17 : decode cX8_wakeQueen 17 = .ok (.ifCond .ne 13, 3) := by decide +kernel
theorem dX8_wakeQueen_20 : decode cX8_wakeQueen 20 = .ok (.new 54, 3) := by decide +kernel
theorem dX8_wakeQueen_23 : decode cX8_wakeQueen 23 = .ok (.dup, 1) := by decide +kernel
theorem dX8_wakeQueen_24 : decode cX8_wakeQueen 24 = .ok (.ldc 188, 2) := by decide +kernel
theorem dX8_wakeQueen_26 : decode cX8_wakeQueen 26 = .ok (.invokespecial 58, 3) := by decide +kernel
theorem dX8_wakeQueen_29 : decode cX8_wakeQueen 29 = .ok (.athrow, 1) := by decide +kernel
theorem dX8_wakeQueen_30 : decode cX8_wakeQueen 30 = .ok (.iload_n 1, 1) := by decide +kernel
theorem dX8_wakeQueen_31 : decode cX8_wakeQueen 31 = .ok (.ireturn, 1) := by decide +kernel
theorem dX8_passDays_0 : decode cX8_passDays 0 = .ok (.iload_n 1, 1) := by decide +kernel
theorem dX8_passDays_1 : decode cX8_passDays 1 = .ok (.invokestatic 190, 3) := by decide +kernel
theorem dX8_passDays_4 : decode cX8_passDays 4 = .ok (.iconst 0, 1) := by decide +kernel
theorem dX8_passDays_5 : decode cX8_passDays 5 = .ok (.istore_n 2, 1) := by decide +kernel
theorem dX8_passDays_6 : decode cX8_passDays 6 = .ok (.iconst 0, 1) := by decide +kernel
theorem dX8_passDays_7 : decode cX8_passDays 7 = .ok (.istore_n 3, 1) := by decide +kernel
theorem dX8_passDays_8 : decode cX8_passDays 8 = .ok (.iload_n 3, 1) := by decide +kernel
theorem dX8_passDays_9 : decode cX8_passDays 9 = .ok (.iload_n 1, 1) := by decide +kernel
theorem dX8_passDays_10 : decode cX8_passDays 10 = .ok (.if_icmp .ge 19, 3) := by decide +kernel
theorem dX8_passDays_13 : decode cX8_passDays 13 = .ok (.iload_n 2, 1) := by decide +kernel
theorem dX8_passDays_14 : decode cX8_passDays 14 = .ok (.aload_n 0, 1) := by decide +kernel
theorem dX8_passDays_15 : decode cX8_passDays 15 = .ok (.getfield 40, 3) := by decide +kernel
theorem dX8_passDays_18 : decode cX8_passDays 18 = .ok (.invokevirtual 193, 3) := by decide +kernel
theorem dX8_passDays_21 : decode cX8_passDays 21 = .ok (.iadd, 1) := by decide +kernel
theorem dX8_passDays_22 : decode cX8_passDays 22 = .ok (.istore_n 2, 1) := by decide +kernel
theorem dX8_passDays_23 : decode cX8_passDays 23 = .ok (.iinc 3 1, 3) := by decide +kernel
theorem dX8_passDays_26 : decode cX8_passDays 26 = .ok (.goto (-18), 3) := by decide +kernel
theorem dX8_passDays_29 : decode cX8_passDays 29 = .ok (.iload_n 2, 1) := by decide +kernel
theorem dX8_passDays_30 : decode cX8_passDays 30 = .ok (.ireturn, 1) := by decide +kernel
theorem dX8_honeyAfter_0 : decode cX8_honeyAfter 0 = .ok (.aload_n 0, 1) := by decide +kernel
theorem dX8_honeyAfter_1 : decode cX8_honeyAfter 1 = .ok (.iload_n 1, 1) := by decide +kernel
theorem dX8_honeyAfter_2 : decode cX8_honeyAfter 2 = .ok (.invokevirtual 111, 3) := by decide +kernel
theorem dX8_honeyAfter_5 : decode cX8_honeyAfter 5 = .ok (.iload_n 2, 1) := by decide +kernel
theorem dX8_honeyAfter_6 : decode cX8_honeyAfter 6 = .ok (.invokestatic 190, 3) := by decide +kernel
theorem dX8_honeyAfter_9 : decode cX8_honeyAfter 9 = .ok (.aload_n 0, 1) := by decide +kernel
theorem dX8_honeyAfter_10 : decode cX8_honeyAfter 10 = .ok (.iload_n 2, 1) := by decide +kernel
theorem dX8_honeyAfter_11 : decode cX8_honeyAfter 11 = .ok (.invokevirtual 196, 3) := by decide +kernel
theorem dX8_honeyAfter_14 : decode cX8_honeyAfter 14 = .ok (.aload_n 0, 1) := by decide +kernel
theorem dX8_honeyAfter_15 : decode cX8_honeyAfter 15 = .ok (.getfield 44, 3) := by decide +kernel
theorem dX8_honeyAfter_18 : decode cX8_honeyAfter 18 = .ok (.getfield 97, 3) := by decide +kernel
theorem dX8_honeyAfter_21 : decode cX8_honeyAfter 21 = .ok (.iload_n 1, 1) := by decide +kernel
theorem dX8_honeyAfter_22 : decode cX8_honeyAfter 22 = .ok (.invokevirtual 114, 3) := by decide +kernel
theorem dX8_honeyAfter_25 : decode cX8_honeyAfter 25 = .ok (.ireturn, 1) := by decide +kernel
theorem dX8_stateAfter_0 : decode cX8_stateAfter 0 = .ok (.aload_n 0, 1) := by decide +kernel
theorem dX8_stateAfter_1 : decode cX8_stateAfter 1 = .ok (.iload_n 1, 1) := by decide +kernel
theorem dX8_stateAfter_2 : decode cX8_stateAfter 2 = .ok (.invokevirtual 127, 3) := by decide +kernel
theorem dX8_stateAfter_5 : decode cX8_stateAfter 5 = .ok (.iload_n 2, 1) := by decide +kernel
theorem dX8_stateAfter_6 : decode cX8_stateAfter 6 = .ok (.invokestatic 190, 3) := by decide +kernel
theorem dX8_stateAfter_9 : decode cX8_stateAfter 9 = .ok (.aload_n 0, 1) := by decide +kernel
theorem dX8_stateAfter_10 : decode cX8_stateAfter 10 = .ok (.iload_n 2, 1) := by decide +kernel
theorem dX8_stateAfter_11 : decode cX8_stateAfter 11 = .ok (.invokevirtual 196, 3) := by decide +kernel
theorem dX8_stateAfter_14 : decode cX8_stateAfter 14 = .ok (.aload_n 0, 1) := by decide +kernel
theorem dX8_stateAfter_15 : decode cX8_stateAfter 15 = .ok (.getfield 44, 3) := by decide +kernel
theorem dX8_stateAfter_18 : decode cX8_stateAfter 18 = .ok (.getfield 130, 3) := by decide +kernel
theorem dX8_stateAfter_21 : decode cX8_stateAfter 21 = .ok (.iload_n 1, 1) := by decide +kernel
theorem dX8_stateAfter_22 : decode cX8_stateAfter 22 = .ok (.invokevirtual 114, 3) := by decide +kernel
theorem dX8_stateAfter_25 : decode cX8_stateAfter 25 = .ok (.ireturn, 1) := by decide +kernel
theorem dX8_daysUntilFree_0 : decode cX8_daysUntilFree 0 = .ok (.aload_n 0, 1) := by decide +kernel
theorem dX8_daysUntilFree_1 : decode cX8_daysUntilFree 1 = .ok (.iload_n 1, 1) := by decide +kernel
theorem dX8_daysUntilFree_2 : decode cX8_daysUntilFree 2 = .ok (.invokevirtual 111, 3) := by decide +kernel
theorem dX8_daysUntilFree_5 : decode cX8_daysUntilFree 5 = .ok (.aload_n 0, 1) := by decide +kernel
theorem dX8_daysUntilFree_6 : decode cX8_daysUntilFree 6 = .ok (.getfield 44, 3) := by decide +kernel
theorem dX8_daysUntilFree_9 : decode cX8_daysUntilFree 9 = .ok (.aload_n 0, 1) := by decide +kernel
theorem dX8_daysUntilFree_10 : decode cX8_daysUntilFree 10 = .ok (.getfield 40, 3) := by decide +kernel
theorem dX8_daysUntilFree_13 : decode cX8_daysUntilFree 13 = .ok (.invokevirtual 199, 3) := by decide +kernel
theorem dX8_daysUntilFree_16 : decode cX8_daysUntilFree 16 = .ok (.iconst 0, 1) := by decide +kernel
theorem dX8_daysUntilFree_17 : decode cX8_daysUntilFree 17 = .ok (.istore_n 2, 1) := by decide +kernel
theorem dX8_daysUntilFree_18 : decode cX8_daysUntilFree 18 = .ok (.iload_n 2, 1) := by decide +kernel
theorem dX8_daysUntilFree_19 : decode cX8_daysUntilFree 19 = .ok (.bipush 40, 2) := by decide +kernel
theorem dX8_daysUntilFree_21 : decode cX8_daysUntilFree 21 = .ok (.if_icmp .ge 32, 3) := by decide +kernel
theorem dX8_daysUntilFree_24 : decode cX8_daysUntilFree 24 = .ok (.aload_n 0, 1) := by decide +kernel
theorem dX8_daysUntilFree_25 : decode cX8_daysUntilFree 25 = .ok (.getfield 44, 3) := by decide +kernel
theorem dX8_daysUntilFree_28 : decode cX8_daysUntilFree 28 = .ok (.getfield 121, 3) := by decide +kernel
theorem dX8_daysUntilFree_31 : decode cX8_daysUntilFree 31 = .ok (.iload_n 1, 1) := by decide +kernel
theorem dX8_daysUntilFree_32 : decode cX8_daysUntilFree 32 = .ok (.invokevirtual 114, 3) := by decide +kernel
theorem dX8_daysUntilFree_35 : decode cX8_daysUntilFree 35 = .ok (.iconst (-1), 1) := by decide +kernel
theorem dX8_daysUntilFree_36 : decode cX8_daysUntilFree 36 = .ok (.if_icmp .eq 17, 3) := by decide +kernel
theorem dX8_daysUntilFree_39 : decode cX8_daysUntilFree 39 = .ok (.aload_n 0, 1) := by decide +kernel
theorem dX8_daysUntilFree_40 : decode cX8_daysUntilFree 40 = .ok (.getfield 44, 3) := by decide +kernel
theorem dX8_daysUntilFree_43 : decode cX8_daysUntilFree 43 = .ok (.invokevirtual 193, 3) := by decide +kernel
theorem dX8_daysUntilFree_46 : decode cX8_daysUntilFree 46 = .ok (.pop, 1) := by decide +kernel
theorem dX8_daysUntilFree_47 : decode cX8_daysUntilFree 47 = .ok (.iinc 2 1, 3) := by decide +kernel
theorem dX8_daysUntilFree_50 : decode cX8_daysUntilFree 50 = .ok (.goto (-32), 3) := by decide +kernel
theorem dX8_daysUntilFree_53 : decode cX8_daysUntilFree 53 = .ok (.aload_n 0, 1) := by decide +kernel
theorem dX8_daysUntilFree_54 : decode cX8_daysUntilFree 54 = .ok (.getfield 44, 3) := by decide +kernel
theorem dX8_daysUntilFree_57 : decode cX8_daysUntilFree 57 = .ok (.getfield 121, 3) := by decide +kernel
theorem dX8_daysUntilFree_60 : decode cX8_daysUntilFree 60 = .ok (.iload_n 1, 1) := by decide +kernel
theorem dX8_daysUntilFree_61 : decode cX8_daysUntilFree 61 = .ok (.invokevirtual 114, 3) := by decide +kernel
theorem dX8_daysUntilFree_64 : decode cX8_daysUntilFree 64 = .ok (.iconst (-1), 1) := by decide +kernel
theorem dX8_daysUntilFree_65 : decode cX8_daysUntilFree 65 = .ok (.if_icmp .ne 7, 3) := by decide +kernel
theorem dX8_daysUntilFree_68 : decode cX8_daysUntilFree 68 = .ok (.iload_n 2, 1) := by decide +kernel
theorem dX8_daysUntilFree_69 : decode cX8_daysUntilFree 69 = .ok (.goto 4, 3) := by decide +kernel
theorem dX8_daysUntilFree_72 : decode cX8_daysUntilFree 72 = .ok (.iconst (-1), 1) := by decide +kernel
theorem dX8_daysUntilFree_73 : decode cX8_daysUntilFree 73 = .ok (.ireturn, 1) := by decide +kernel
theorem dX8_bestToWake_0 : decode cX8_bestToWake 0 = .ok (.iconst (-1), 1) := by decide +kernel
theorem dX8_bestToWake_1 : decode cX8_bestToWake 1 = .ok (.istore_n 1, 1) := by decide +kernel
theorem dX8_bestToWake_2 : decode cX8_bestToWake 2 = .ok (.iconst 0, 1) := by decide +kernel
theorem dX8_bestToWake_3 : decode cX8_bestToWake 3 = .ok (.istore_n 2, 1) := by decide +kernel
theorem dX8_bestToWake_4 : decode cX8_bestToWake 4 = .ok (.iconst 0, 1) := by decide +kernel
theorem dX8_bestToWake_5 : decode cX8_bestToWake 5 = .ok (.istore_n 3, 1) := by decide +kernel
theorem dX8_bestToWake_6 : decode cX8_bestToWake 6 = .ok (.iload_n 3, 1) := by decide +kernel
theorem dX8_bestToWake_7 : decode cX8_bestToWake 7 = .ok (.aload_n 0, 1) := by decide +kernel
theorem dX8_bestToWake_8 : decode cX8_bestToWake 8 = .ok (.getfield 23, 3) := by decide +kernel
theorem dX8_bestToWake_11 : decode cX8_bestToWake 11 = .ok (.getfield 82, 3) := by decide +kernel
theorem dX8_bestToWake_14 : decode cX8_bestToWake 14 = .ok (.if_icmp .ge 88, 3) := by decide +kernel
theorem dX8_bestToWake_17 : decode cX8_bestToWake 17 = .ok (.aload_n 0, 1) := by decide +kernel
theorem dX8_bestToWake_18 : decode cX8_bestToWake 18 = .ok (.getfield 40, 3) := by decide +kernel
theorem dX8_bestToWake_21 : decode cX8_bestToWake 21 = .ok (.iload_n 3, 1) := by decide +kernel
theorem dX8_bestToWake_22 : decode cX8_bestToWake 22 = .ok (.invokevirtual 117, 3) := by decide +kernel
theorem dX8_bestToWake_25 : decode cX8_bestToWake 25 = .ok (.ifCond .ne 71, 3) := by decide +kernel
theorem dX8_bestToWake_28 : decode cX8_bestToWake 28 = .ok (.aload_n 0, 1) := by decide +kernel
theorem dX8_bestToWake_29 : decode cX8_bestToWake 29 = .ok (.getfield 44, 3) := by decide +kernel
theorem dX8_bestToWake_32 : decode cX8_bestToWake 32 = .ok (.aload_n 0, 1) := by decide +kernel
theorem dX8_bestToWake_33 : decode cX8_bestToWake 33 = .ok (.getfield 40, 3) := by decide +kernel
theorem dX8_bestToWake_36 : decode cX8_bestToWake 36 = .ok (.invokevirtual 199, 3) := by decide +kernel
theorem dX8_bestToWake_39 : decode cX8_bestToWake 39 = .ok (.aload_n 0, 1) := by decide +kernel
theorem dX8_bestToWake_40 : decode cX8_bestToWake 40 = .ok (.getfield 44, 3) := by decide +kernel
theorem dX8_bestToWake_43 : decode cX8_bestToWake 43 = .ok (.iload_n 3, 1) := by decide +kernel
theorem dX8_bestToWake_44 : decode cX8_bestToWake 44 = .ok (.invokevirtual 181, 3) := by decide +kernel
theorem dX8_bestToWake_47 : decode cX8_bestToWake 47 = .ok (.pop, 1) := by decide +kernel
theorem dX8_bestToWake_48 : decode cX8_bestToWake 48 = .ok (.iconst 0, 1) := by decide +kernel
theorem dX8_bestToWake_49 : decode cX8_bestToWake 49 = .ok (.istore 4, 2) := by decide +kernel
theorem dX8_bestToWake_51 : decode cX8_bestToWake 51 = .ok (.iload 4, 2) := by decide +kernel
theorem dX8_bestToWake_53 : decode cX8_bestToWake 53 = .ok (.iconst 3, 1) := by decide +kernel
theorem dX8_bestToWake_54 : decode cX8_bestToWake 54 = .ok (.if_icmp .ge 17, 3) := by decide +kernel
theorem dX8_bestToWake_57 : decode cX8_bestToWake 57 = .ok (.aload_n 0, 1) := by decide +kernel
theorem dX8_bestToWake_58 : decode cX8_bestToWake 58 = .ok (.getfield 44, 3) := by decide +kernel
theorem dX8_bestToWake_61 : decode cX8_bestToWake 61 = .ok (.invokevirtual 193, 3) := by decide +kernel
theorem dX8_bestToWake_64 : decode cX8_bestToWake 64 = .ok (.pop, 1) := by decide +kernel
theorem dX8_bestToWake_65 : decode cX8_bestToWake 65 = .ok (.iinc 4 1, 3) := by decide +kernel
theorem dX8_bestToWake_68 : decode cX8_bestToWake 68 = .ok (.goto (-17), 3) := by decide +kernel
theorem dX8_bestToWake_71 : decode cX8_bestToWake 71 = .ok (.aload_n 0, 1) := by decide +kernel
theorem dX8_bestToWake_72 : decode cX8_bestToWake 72 = .ok (.getfield 44, 3) := by decide +kernel
theorem dX8_bestToWake_75 : decode cX8_bestToWake 75 = .ok (.invokevirtual 94, 3) := by decide +kernel
theorem dX8_bestToWake_78 : decode cX8_bestToWake 78 = .ok (.istore 4, 2) := by decide +kernel
theorem dX8_bestToWake_80 : decode cX8_bestToWake 80 = .ok (.iload_n 1, 1) := by decide +kernel
theorem dX8_bestToWake_81 : decode cX8_bestToWake 81 = .ok (.iconst (-1), 1) := by decide +kernel
theorem dX8_bestToWake_82 : decode cX8_bestToWake 82 = .ok (.if_icmp .eq 9, 3) := by decide +kernel
theorem dX8_bestToWake_85 : decode cX8_bestToWake 85 = .ok (.iload 4, 2) := by decide +kernel
theorem dX8_bestToWake_87 : decode cX8_bestToWake 87 = .ok (.iload_n 2, 1) := by decide +kernel
theorem dX8_bestToWake_88 : decode cX8_bestToWake 88 = .ok (.if_icmp .ge 8, 3) := by decide +kernel
theorem dX8_bestToWake_91 : decode cX8_bestToWake 91 = .ok (.iload_n 3, 1) := by decide +kernel
theorem dX8_bestToWake_92 : decode cX8_bestToWake 92 = .ok (.istore_n 1, 1) := by decide +kernel
theorem dX8_bestToWake_93 : decode cX8_bestToWake 93 = .ok (.iload 4, 2) := by decide +kernel
theorem dX8_bestToWake_95 : decode cX8_bestToWake 95 = .ok (.istore_n 2, 1) := by decide +kernel
theorem dX8_bestToWake_96 : decode cX8_bestToWake 96 = .ok (.iinc 3 1, 3) := by decide +kernel
theorem dX8_bestToWake_99 : decode cX8_bestToWake 99 = .ok (.goto (-93), 3) := by decide +kernel
theorem dX8_bestToWake_102 : decode cX8_bestToWake 102 = .ok (.iload_n 1, 1) := by decide +kernel
theorem dX8_bestToWake_103 : decode cX8_bestToWake 103 = .ok (.ireturn, 1) := by decide +kernel
theorem dX8_meanHoney_0 : decode cX8_meanHoney 0 = .ok (.aload_n 0, 1) := by decide +kernel
theorem dX8_meanHoney_1 : decode cX8_meanHoney 1 = .ok (.invokevirtual 202, 3) := by decide +kernel
theorem dX8_meanHoney_4 : decode cX8_meanHoney 4 = .ok (.istore_n 1, 1) := by decide +kernel
theorem dX8_meanHoney_5 : decode cX8_meanHoney 5 = .ok (.iload_n 1, 1) := by decide +kernel
theorem dX8_meanHoney_6 : decode cX8_meanHoney 6 = .ok (.ifCond .ne 7, 3) := by decide +kernel
theorem dX8_meanHoney_9 : decode cX8_meanHoney 9 = .ok (.dconst 0, 1) := by decide +kernel
theorem dX8_meanHoney_10 : decode cX8_meanHoney 10 = .ok (.goto 11, 3) := by decide +kernel
theorem dX8_meanHoney_13 : decode cX8_meanHoney 13 = .ok (.aload_n 0, 1) := by decide +kernel
theorem dX8_meanHoney_14 : decode cX8_meanHoney 14 = .ok (.invokevirtual 205, 3) := by decide +kernel
theorem dX8_meanHoney_17 : decode cX8_meanHoney 17 = .ok (.i2d, 1) := by decide +kernel
theorem dX8_meanHoney_18 : decode cX8_meanHoney 18 = .ok (.iload_n 1, 1) := by decide +kernel
theorem dX8_meanHoney_19 : decode cX8_meanHoney 19 = .ok (.i2d, 1) := by decide +kernel
theorem dX8_meanHoney_20 : decode cX8_meanHoney 20 = .ok (.ddiv, 1) := by decide +kernel
theorem dX8_meanHoney_21 : decode cX8_meanHoney 21 = .ok (.dreturn, 1) := by decide +kernel
theorem dX8_digest_0 : decode cX8_digest 0 = .ok (.ldc2_w 208, 3) := by decide +kernel
theorem dX8_digest_3 : decode cX8_digest 3 = .ok (.lstore_n 1, 1) := by decide +kernel
theorem dX8_digest_4 : decode cX8_digest 4 = .ok (.lload_n 1, 1) := by decide +kernel
theorem dX8_digest_5 : decode cX8_digest 5 = .ok (.aload_n 0, 1) := by decide +kernel
theorem dX8_digest_6 : decode cX8_digest 6 = .ok (.invokevirtual 202, 3) := by decide +kernel
theorem dX8_digest_9 : decode cX8_digest 9 = .ok (.invokestatic 210, 3) := by decide +kernel
theorem dX8_digest_12 : decode cX8_digest 12 = .ok (.lstore_n 1, 1) := by decide +kernel
theorem dX8_digest_13 : decode cX8_digest 13 = .ok (.lload_n 1, 1) := by decide +kernel
theorem dX8_digest_14 : decode cX8_digest 14 = .ok (.aload_n 0, 1) := by decide +kernel
theorem dX8_digest_15 : decode cX8_digest 15 = .ok (.invokevirtual 214, 3) := by decide +kernel
theorem dX8_digest_18 : decode cX8_digest 18 = .ok (.invokestatic 210, 3) := by decide +kernel
theorem dX8_digest_21 : decode cX8_digest 21 = .ok (.lstore_n 1, 1) := by decide +kernel
theorem dX8_digest_22 : decode cX8_digest 22 = .ok (.lload_n 1, 1) := by decide +kernel
theorem dX8_digest_23 : decode cX8_digest 23 = .ok (.aload_n 0, 1) := by decide +kernel
theorem dX8_digest_24 : decode cX8_digest 24 = .ok (.invokevirtual 217, 3) := by decide +kernel
theorem dX8_digest_27 : decode cX8_digest 27 = .ok (.invokestatic 210, 3) := by decide +kernel
theorem dX8_digest_30 : decode cX8_digest 30 = .ok (.lstore_n 1, 1) := by decide +kernel
theorem dX8_digest_31 : decode cX8_digest 31 = .ok (.lload_n 1, 1) := by decide +kernel
theorem dX8_digest_32 : decode cX8_digest 32 = .ok (.aload_n 0, 1) := by decide +kernel
theorem dX8_digest_33 : decode cX8_digest 33 = .ok (.invokevirtual 220, 3) := by decide +kernel
theorem dX8_digest_36 : decode cX8_digest 36 = .ok (.invokestatic 210, 3) := by decide +kernel
theorem dX8_digest_39 : decode cX8_digest 39 = .ok (.lstore_n 1, 1) := by decide +kernel
theorem dX8_digest_40 : decode cX8_digest 40 = .ok (.lload_n 1, 1) := by decide +kernel
theorem dX8_digest_41 : decode cX8_digest 41 = .ok (.aload_n 0, 1) := by decide +kernel
theorem dX8_digest_42 : decode cX8_digest 42 = .ok (.invokevirtual 223, 3) := by decide +kernel
theorem dX8_digest_45 : decode cX8_digest 45 = .ok (.invokestatic 210, 3) := by decide +kernel
theorem dX8_digest_48 : decode cX8_digest 48 = .ok (.lstore_n 1, 1) := by decide +kernel
theorem dX8_digest_49 : decode cX8_digest 49 = .ok (.lload_n 1, 1) := by decide +kernel
theorem dX8_digest_50 : decode cX8_digest 50 = .ok (.aload_n 0, 1) := by decide +kernel
theorem dX8_digest_51 : decode cX8_digest 51 = .ok (.invokevirtual 205, 3) := by decide +kernel
theorem dX8_digest_54 : decode cX8_digest 54 = .ok (.invokestatic 210, 3) := by decide +kernel
theorem dX8_digest_57 : decode cX8_digest 57 = .ok (.lstore_n 1, 1) := by decide +kernel
theorem dX8_digest_58 : decode cX8_digest 58 = .ok (.lload_n 1, 1) := by decide +kernel
theorem dX8_digest_59 : decode cX8_digest 59 = .ok (.aload_n 0, 1) := by decide +kernel
theorem dX8_digest_60 : decode cX8_digest 60 = .ok (.invokevirtual 226, 3) := by decide +kernel
theorem dX8_digest_63 : decode cX8_digest 63 = .ok (.invokestatic 230, 3) := by decide +kernel
theorem dX8_digest_66 : decode cX8_digest 66 = .ok (.invokestatic 210, 3) := by decide +kernel
theorem dX8_digest_69 : decode cX8_digest 69 = .ok (.lstore_n 1, 1) := by decide +kernel
theorem dX8_digest_70 : decode cX8_digest 70 = .ok (.lload_n 1, 1) := by decide +kernel
theorem dX8_digest_71 : decode cX8_digest 71 = .ok (.aload_n 0, 1) := by decide +kernel
theorem dX8_digest_72 : decode cX8_digest 72 = .ok (.invokevirtual 234, 3) := by decide +kernel
theorem dX8_digest_75 : decode cX8_digest 75 = .ok (.invokestatic 210, 3) := by decide +kernel
theorem dX8_digest_78 : decode cX8_digest 78 = .ok (.lstore_n 1, 1) := by decide +kernel
theorem dX8_digest_79 : decode cX8_digest 79 = .ok (.iconst 0, 1) := by decide +kernel
theorem dX8_digest_80 : decode cX8_digest 80 = .ok (.istore_n 3, 1) := by decide +kernel
theorem dX8_digest_81 : decode cX8_digest 81 = .ok (.iload_n 3, 1) := by decide +kernel
theorem dX8_digest_82 : decode cX8_digest 82 = .ok (.aload_n 0, 1) := by decide +kernel
theorem dX8_digest_83 : decode cX8_digest 83 = .ok (.getfield 23, 3) := by decide +kernel
theorem dX8_digest_86 : decode cX8_digest 86 = .ok (.getfield 82, 3) := by decide +kernel
theorem dX8_digest_89 : decode cX8_digest 89 = .ok (.if_icmp .ge 62, 3) := by decide +kernel
theorem dX8_digest_92 : decode cX8_digest 92 = .ok (.lload_n 1, 1) := by decide +kernel
theorem dX8_digest_93 : decode cX8_digest 93 = .ok (.aload_n 0, 1) := by decide +kernel
theorem dX8_digest_94 : decode cX8_digest 94 = .ok (.iload_n 3, 1) := by decide +kernel
theorem dX8_digest_95 : decode cX8_digest 95 = .ok (.invokevirtual 237, 3) := by decide +kernel
theorem dX8_digest_98 : decode cX8_digest 98 = .ok (.invokestatic 210, 3) := by decide +kernel
theorem dX8_digest_101 : decode cX8_digest 101 = .ok (.lstore_n 1, 1) := by decide +kernel
theorem dX8_digest_102 : decode cX8_digest 102 = .ok (.lload_n 1, 1) := by decide +kernel
theorem dX8_digest_103 : decode cX8_digest 103 = .ok (.aload_n 0, 1) := by decide +kernel
theorem dX8_digest_104 : decode cX8_digest 104 = .ok (.iload_n 3, 1) := by decide +kernel
theorem dX8_digest_105 : decode cX8_digest 105 = .ok (.invokevirtual 240, 3) := by decide +kernel
theorem dX8_digest_108 : decode cX8_digest 108 = .ok (.invokestatic 230, 3) := by decide +kernel
theorem dX8_digest_111 : decode cX8_digest 111 = .ok (.invokestatic 210, 3) := by decide +kernel
theorem dX8_digest_114 : decode cX8_digest 114 = .ok (.lstore_n 1, 1) := by decide +kernel
theorem dX8_digest_115 : decode cX8_digest 115 = .ok (.lload_n 1, 1) := by decide +kernel
theorem dX8_digest_116 : decode cX8_digest 116 = .ok (.aload_n 0, 1) := by decide +kernel
theorem dX8_digest_117 : decode cX8_digest 117 = .ok (.iload_n 3, 1) := by decide +kernel
theorem dX8_digest_118 : decode cX8_digest 118 = .ok (.invokevirtual 243, 3) := by decide +kernel
theorem dX8_digest_121 : decode cX8_digest 121 = .ok (.invokestatic 210, 3) := by decide +kernel
theorem dX8_digest_124 : decode cX8_digest 124 = .ok (.lstore_n 1, 1) := by decide +kernel
theorem dX8_digest_125 : decode cX8_digest 125 = .ok (.lload_n 1, 1) := by decide +kernel
theorem dX8_digest_126 : decode cX8_digest 126 = .ok (.aload_n 0, 1) := by decide +kernel
theorem dX8_digest_127 : decode cX8_digest 127 = .ok (.iload_n 3, 1) := by decide +kernel
theorem dX8_digest_128 : decode cX8_digest 128 = .ok (.invokevirtual 246, 3) := by decide +kernel
theorem dX8_digest_131 : decode cX8_digest 131 = .ok (.invokestatic 210, 3) := by decide +kernel
theorem dX8_digest_134 : decode cX8_digest 134 = .ok (.lstore_n 1, 1) := by decide +kernel
theorem dX8_digest_135 : decode cX8_digest 135 = .ok (.lload_n 1, 1) := by decide +kernel
theorem dX8_digest_136 : decode cX8_digest 136 = .ok (.aload_n 0, 1) := by decide +kernel
theorem dX8_digest_137 : decode cX8_digest 137 = .ok (.iload_n 3, 1) := by decide +kernel
theorem dX8_digest_138 : decode cX8_digest 138 = .ok (.invokevirtual 249, 3) := by decide +kernel
theorem dX8_digest_141 : decode cX8_digest 141 = .ok (.invokestatic 210, 3) := by decide +kernel
theorem dX8_digest_144 : decode cX8_digest 144 = .ok (.lstore_n 1, 1) := by decide +kernel
theorem dX8_digest_145 : decode cX8_digest 145 = .ok (.iinc 3 1, 3) := by decide +kernel
theorem dX8_digest_148 : decode cX8_digest 148 = .ok (.goto (-67), 3) := by decide +kernel
theorem dX8_digest_151 : decode cX8_digest 151 = .ok (.iconst 0, 1) := by decide +kernel
theorem dX8_digest_152 : decode cX8_digest 152 = .ok (.istore_n 3, 1) := by decide +kernel
theorem dX8_digest_153 : decode cX8_digest 153 = .ok (.iload_n 3, 1) := by decide +kernel
theorem dX8_digest_154 : decode cX8_digest 154 = .ok (.aload_n 0, 1) := by decide +kernel
theorem dX8_digest_155 : decode cX8_digest 155 = .ok (.getfield 23, 3) := by decide +kernel
theorem dX8_digest_158 : decode cX8_digest 158 = .ok (.getfield 85, 3) := by decide +kernel
theorem dX8_digest_161 : decode cX8_digest 161 = .ok (.if_icmp .ge 104, 3) := by decide +kernel
theorem dX8_digest_164 : decode cX8_digest 164 = .ok (.lload_n 1, 1) := by decide +kernel
theorem dX8_digest_165 : decode cX8_digest 165 = .ok (.aload_n 0, 1) := by decide +kernel
theorem dX8_digest_166 : decode cX8_digest 166 = .ok (.iload_n 3, 1) := by decide +kernel
theorem dX8_digest_167 : decode cX8_digest 167 = .ok (.invokevirtual 252, 3) := by decide +kernel
theorem dX8_digest_170 : decode cX8_digest 170 = .ok (.invokestatic 210, 3) := by decide +kernel
theorem dX8_digest_173 : decode cX8_digest 173 = .ok (.lstore_n 1, 1) := by decide +kernel
theorem dX8_digest_174 : decode cX8_digest 174 = .ok (.lload_n 1, 1) := by decide +kernel
theorem dX8_digest_175 : decode cX8_digest 175 = .ok (.aload_n 0, 1) := by decide +kernel
theorem dX8_digest_176 : decode cX8_digest 176 = .ok (.iload_n 3, 1) := by decide +kernel
theorem dX8_digest_177 : decode cX8_digest 177 = .ok (.invokevirtual 255, 3) := by decide +kernel
theorem dX8_digest_180 : decode cX8_digest 180 = .ok (.invokestatic 210, 3) := by decide +kernel
theorem dX8_digest_183 : decode cX8_digest 183 = .ok (.lstore_n 1, 1) := by decide +kernel
theorem dX8_digest_184 : decode cX8_digest 184 = .ok (.lload_n 1, 1) := by decide +kernel
theorem dX8_digest_185 : decode cX8_digest 185 = .ok (.aload_n 0, 1) := by decide +kernel
theorem dX8_digest_186 : decode cX8_digest 186 = .ok (.iload_n 3, 1) := by decide +kernel
theorem dX8_digest_187 : decode cX8_digest 187 = .ok (.invokevirtual 258, 3) := by decide +kernel
theorem dX8_digest_190 : decode cX8_digest 190 = .ok (.invokestatic 210, 3) := by decide +kernel
theorem dX8_digest_193 : decode cX8_digest 193 = .ok (.lstore_n 1, 1) := by decide +kernel
theorem dX8_digest_194 : decode cX8_digest 194 = .ok (.lload_n 1, 1) := by decide +kernel
theorem dX8_digest_195 : decode cX8_digest 195 = .ok (.aload_n 0, 1) := by decide +kernel
theorem dX8_digest_196 : decode cX8_digest 196 = .ok (.iload_n 3, 1) := by decide +kernel
theorem dX8_digest_197 : decode cX8_digest 197 = .ok (.invokevirtual 261, 3) := by decide +kernel
theorem dX8_digest_200 : decode cX8_digest 200 = .ok (.invokestatic 230, 3) := by decide +kernel
theorem dX8_digest_203 : decode cX8_digest 203 = .ok (.invokestatic 210, 3) := by decide +kernel
theorem dX8_digest_206 : decode cX8_digest 206 = .ok (.lstore_n 1, 1) := by decide +kernel
theorem dX8_digest_207 : decode cX8_digest 207 = .ok (.iconst 0, 1) := by decide +kernel
theorem dX8_digest_208 : decode cX8_digest 208 = .ok (.istore 4, 2) := by decide +kernel
theorem dX8_digest_210 : decode cX8_digest 210 = .ok (.iload 4, 2) := by decide +kernel
theorem dX8_digest_212 : decode cX8_digest 212 = .ok (.aload_n 0, 1) := by decide +kernel
theorem dX8_digest_213 : decode cX8_digest 213 = .ok (.getfield 23, 3) := by decide +kernel
theorem dX8_digest_216 : decode cX8_digest 216 = .ok (.getfield 136, 3) := by decide +kernel
theorem dX8_digest_219 : decode cX8_digest 219 = .ok (.iload_n 3, 1) := by decide +kernel
theorem dX8_digest_220 : decode cX8_digest 220 = .ok (.invokevirtual 114, 3) := by decide +kernel
theorem dX8_digest_223 : decode cX8_digest 223 = .ok (.if_icmp .ge 36, 3) := by decide +kernel
theorem dX8_digest_226 : decode cX8_digest 226 = .ok (.lload_n 1, 1) := by decide +kernel
theorem dX8_digest_227 : decode cX8_digest 227 = .ok (.aload_n 0, 1) := by decide +kernel
theorem dX8_digest_228 : decode cX8_digest 228 = .ok (.iload_n 3, 1) := by decide +kernel
theorem dX8_digest_229 : decode cX8_digest 229 = .ok (.iload 4, 2) := by decide +kernel
theorem dX8_digest_231 : decode cX8_digest 231 = .ok (.invokevirtual 264, 3) := by decide +kernel
theorem dX8_digest_234 : decode cX8_digest 234 = .ok (.invokestatic 210, 3) := by decide +kernel
theorem dX8_digest_237 : decode cX8_digest 237 = .ok (.lstore_n 1, 1) := by decide +kernel
theorem dX8_digest_238 : decode cX8_digest 238 = .ok (.lload_n 1, 1) := by decide +kernel
theorem dX8_digest_239 : decode cX8_digest 239 = .ok (.aload_n 0, 1) := by decide +kernel
theorem dX8_digest_240 : decode cX8_digest 240 = .ok (.iload_n 3, 1) := by decide +kernel
theorem dX8_digest_241 : decode cX8_digest 241 = .ok (.iload 4, 2) := by decide +kernel
theorem dX8_digest_243 : decode cX8_digest 243 = .ok (.invokevirtual 267, 3) := by decide +kernel
theorem dX8_digest_246 : decode cX8_digest 246 = .ok (.invokestatic 230, 3) := by decide +kernel
theorem dX8_digest_249 : decode cX8_digest 249 = .ok (.invokestatic 210, 3) := by decide +kernel
theorem dX8_digest_252 : decode cX8_digest 252 = .ok (.lstore_n 1, 1) := by decide +kernel
theorem dX8_digest_253 : decode cX8_digest 253 = .ok (.iinc 4 1, 3) := by decide +kernel
theorem dX8_digest_256 : decode cX8_digest 256 = .ok (.goto (-46), 3) := by decide +kernel
theorem dX8_digest_259 : decode cX8_digest 259 = .ok (.iinc 3 1, 3) := by decide +kernel
theorem dX8_digest_262 : decode cX8_digest 262 = .ok (.goto (-109), 3) := by decide +kernel
theorem dX8_digest_265 : decode cX8_digest 265 = .ok (.lload_n 1, 1) := by decide +kernel
theorem dX8_digest_266 : decode cX8_digest 266 = .ok (.lreturn, 1) := by decide +kernel
theorem dX8_mixed_0 : decode cX8_mixed 0 = .ok (.lload_n 0, 1) := by decide +kernel
theorem dX8_mixed_1 : decode cX8_mixed 1 = .ok (.ldc2_w 271, 3) := by decide +kernel
theorem dX8_mixed_4 : decode cX8_mixed 4 = .ok (.lmul, 1) := by decide +kernel
theorem dX8_mixed_5 : decode cX8_mixed 5 = .ok (.iload_n 2, 1) := by decide +kernel
theorem dX8_mixed_6 : decode cX8_mixed 6 = .ok (.i2l, 1) := by decide +kernel
theorem dX8_mixed_7 : decode cX8_mixed 7 = .ok (.ladd, 1) := by decide +kernel
theorem dX8_mixed_8 : decode cX8_mixed 8 = .ok (.lreturn, 1) := by decide +kernel
theorem dX8_bit_0 : decode cX8_bit 0 = .ok (.iload_n 0, 1) := by decide +kernel
theorem dX8_bit_1 : decode cX8_bit 1 = .ok (.ifCond .eq 7, 3) := by decide +kernel
theorem dX8_bit_4 : decode cX8_bit 4 = .ok (.iconst 1, 1) := by decide +kernel
theorem dX8_bit_5 : decode cX8_bit 5 = .ok (.goto 4, 3) := by decide +kernel
theorem dX8_bit_8 : decode cX8_bit 8 = .ok (.iconst 0, 1) := by decide +kernel
theorem dX8_bit_9 : decode cX8_bit 9 = .ok (.ireturn, 1) := by decide +kernel
theorem dX8_tryDays_0 : decode cX8_tryDays 0 = .ok (.aload_n 0, 1) := by decide +kernel
theorem dX8_tryDays_1 : decode cX8_tryDays 1 = .ok (.getfield 44, 3) := by decide +kernel
theorem dX8_tryDays_4 : decode cX8_tryDays 4 = .ok (.aload_n 0, 1) := by decide +kernel
theorem dX8_tryDays_5 : decode cX8_tryDays 5 = .ok (.getfield 40, 3) := by decide +kernel
theorem dX8_tryDays_8 : decode cX8_tryDays 8 = .ok (.invokevirtual 199, 3) := by decide +kernel
theorem dX8_tryDays_11 : decode cX8_tryDays 11 = .ok (.iconst 0, 1) := by decide +kernel
theorem dX8_tryDays_12 : decode cX8_tryDays 12 = .ok (.istore_n 2, 1) := by decide +kernel
theorem dX8_tryDays_13 : decode cX8_tryDays 13 = .ok (.iload_n 2, 1) := by decide +kernel
theorem dX8_tryDays_14 : decode cX8_tryDays 14 = .ok (.iload_n 1, 1) := by decide +kernel
theorem dX8_tryDays_15 : decode cX8_tryDays 15 = .ok (.if_icmp .ge 17, 3) := by decide +kernel
theorem dX8_tryDays_18 : decode cX8_tryDays 18 = .ok (.aload_n 0, 1) := by decide +kernel
theorem dX8_tryDays_19 : decode cX8_tryDays 19 = .ok (.getfield 44, 3) := by decide +kernel
theorem dX8_tryDays_22 : decode cX8_tryDays 22 = .ok (.invokevirtual 193, 3) := by decide +kernel
theorem dX8_tryDays_25 : decode cX8_tryDays 25 = .ok (.pop, 1) := by decide +kernel
theorem dX8_tryDays_26 : decode cX8_tryDays 26 = .ok (.iinc 2 1, 3) := by decide +kernel
theorem dX8_tryDays_29 : decode cX8_tryDays 29 = .ok (.goto (-16), 3) := by decide +kernel
theorem dX8_tryDays_32 : decode cX8_tryDays 32 = .ok (.return_, 1) := by decide +kernel
theorem dX8_requireDrone_0 : decode cX8_requireDrone 0 = .ok (.iload_n 1, 1) := by decide +kernel
theorem dX8_requireDrone_1 : decode cX8_requireDrone 1 = .ok (.ifCond .lt 14, 3) := by decide +kernel
theorem dX8_requireDrone_4 : decode cX8_requireDrone 4 = .ok (.iload_n 1, 1) := by decide +kernel
theorem dX8_requireDrone_5 : decode cX8_requireDrone 5 = .ok (.aload_n 0, 1) := by decide +kernel
theorem dX8_requireDrone_6 : decode cX8_requireDrone 6 = .ok (.getfield 23, 3) := by decide +kernel
theorem dX8_requireDrone_9 : decode cX8_requireDrone 9 = .ok (.getfield 82, 3) := by decide +kernel
theorem dX8_requireDrone_12 : decode cX8_requireDrone 12 = .ok (.if_icmp .lt 14, 3) := by decide +kernel
theorem dX8_requireDrone_15 : decode cX8_requireDrone 15 = .ok (.new 273, 3) := by decide +kernel
theorem dX8_requireDrone_18 : decode cX8_requireDrone 18 = .ok (.dup, 1) := by decide +kernel
theorem dX8_requireDrone_19 : decode cX8_requireDrone 19 = .ok (.ldc_w 275, 3) := by decide +kernel
theorem dX8_requireDrone_22 : decode cX8_requireDrone 22 = .ok (.invokespecial 277, 3) := by decide +kernel
theorem dX8_requireDrone_25 : decode cX8_requireDrone 25 = .ok (.athrow, 1) := by decide +kernel
theorem dX8_requireDrone_26 : decode cX8_requireDrone 26 = .ok (.return_, 1) := by decide +kernel
theorem dX8_requireDeal_0 : decode cX8_requireDeal 0 = .ok (.iload_n 1, 1) := by decide +kernel
theorem dX8_requireDeal_1 : decode cX8_requireDeal 1 = .ok (.ifCond .lt 14, 3) := by decide +kernel
theorem dX8_requireDeal_4 : decode cX8_requireDeal 4 = .ok (.iload_n 1, 1) := by decide +kernel
theorem dX8_requireDeal_5 : decode cX8_requireDeal 5 = .ok (.aload_n 0, 1) := by decide +kernel
theorem dX8_requireDeal_6 : decode cX8_requireDeal 6 = .ok (.getfield 23, 3) := by decide +kernel
theorem dX8_requireDeal_9 : decode cX8_requireDeal 9 = .ok (.getfield 85, 3) := by decide +kernel
theorem dX8_requireDeal_12 : decode cX8_requireDeal 12 = .ok (.if_icmp .lt 14, 3) := by decide +kernel
theorem dX8_requireDeal_15 : decode cX8_requireDeal 15 = .ok (.new 273, 3) := by decide +kernel
theorem dX8_requireDeal_18 : decode cX8_requireDeal 18 = .ok (.dup, 1) := by decide +kernel
theorem dX8_requireDeal_19 : decode cX8_requireDeal 19 = .ok (.ldc_w 278, 3) := by decide +kernel
theorem dX8_requireDeal_22 : decode cX8_requireDeal 22 = .ok (.invokespecial 277, 3) := by decide +kernel
theorem dX8_requireDeal_25 : decode cX8_requireDeal 25 = .ok (.athrow, 1) := by decide +kernel
theorem dX8_requireDeal_26 : decode cX8_requireDeal 26 = .ok (.return_, 1) := by decide +kernel
theorem dX8_requirePart_0 : decode cX8_requirePart 0 = .ok (.aload_n 0, 1) := by decide +kernel
theorem dX8_requirePart_1 : decode cX8_requirePart 1 = .ok (.iload_n 1, 1) := by decide +kernel
theorem dX8_requirePart_2 : decode cX8_requirePart 2 = .ok (.invokevirtual 127, 3) := by decide +kernel
theorem dX8_requirePart_5 : decode cX8_requirePart 5 = .ok (.iload_n 2, 1) := by decide +kernel
theorem dX8_requirePart_6 : decode cX8_requirePart 6 = .ok (.ifCond .lt 18, 3) := by decide +kernel
theorem dX8_requirePart_9 : decode cX8_requirePart 9 = .ok (.iload_n 2, 1) := by decide +kernel
theorem dX8_requirePart_10 : decode cX8_requirePart 10 = .ok (.aload_n 0, 1) := by decide +kernel
theorem dX8_requirePart_11 : decode cX8_requirePart 11 = .ok (.getfield 23, 3) := by decide +kernel
theorem dX8_requirePart_14 : decode cX8_requirePart 14 = .ok (.getfield 136, 3) := by decide +kernel
theorem dX8_requirePart_17 : decode cX8_requirePart 17 = .ok (.iload_n 1, 1) := by decide +kernel
theorem dX8_requirePart_18 : decode cX8_requirePart 18 = .ok (.invokevirtual 114, 3) := by decide +kernel
theorem dX8_requirePart_21 : decode cX8_requirePart 21 = .ok (.if_icmp .lt 14, 3) := by decide +kernel
theorem dX8_requirePart_24 : decode cX8_requirePart 24 = .ok (.new 273, 3) := by decide +kernel
theorem dX8_requirePart_27 : decode cX8_requirePart 27 = .ok (.dup, 1) := by decide +kernel
theorem dX8_requirePart_28 : decode cX8_requirePart 28 = .ok (.ldc_w 280, 3) := by decide +kernel
theorem dX8_requirePart_31 : decode cX8_requirePart 31 = .ok (.invokespecial 277, 3) := by decide +kernel
theorem dX8_requirePart_34 : decode cX8_requirePart 34 = .ok (.athrow, 1) := by decide +kernel
theorem dX8_requirePart_35 : decode cX8_requirePart 35 = .ok (.return_, 1) := by decide +kernel
theorem dX8_requireDays_0 : decode cX8_requireDays 0 = .ok (.iload_n 0, 1) := by decide +kernel
theorem dX8_requireDays_1 : decode cX8_requireDays 1 = .ok (.iconst 1, 1) := by decide +kernel
theorem dX8_requireDays_2 : decode cX8_requireDays 2 = .ok (.if_icmp .lt 9, 3) := by decide +kernel
theorem dX8_requireDays_5 : decode cX8_requireDays 5 = .ok (.iload_n 0, 1) := by decide +kernel
theorem dX8_requireDays_6 : decode cX8_requireDays 6 = .ok (.bipush 30, 2) := by decide +kernel
theorem dX8_requireDays_8 : decode cX8_requireDays 8 = .ok (.if_icmp .le 14, 3) := by decide +kernel
theorem dX8_requireDays_11 : decode cX8_requireDays 11 = .ok (.new 65, 3) := by decide +kernel
theorem dX8_requireDays_14 : decode cX8_requireDays 14 = .ok (.dup, 1) := by decide +kernel
theorem dX8_requireDays_15 : decode cX8_requireDays 15 = .ok (.ldc_w 282, 3) := by decide +kernel
theorem dX8_requireDays_18 : decode cX8_requireDays 18 = .ok (.invokespecial 69, 3) := by decide +kernel
theorem dX8_requireDays_21 : decode cX8_requireDays 21 = .ok (.athrow, 1) := by decide +kernel
theorem dX8_requireDays_22 : decode cX8_requireDays 22 = .ok (.return_, 1) := by decide +kernel
theorem dX8_slot_0 : decode cX8_slot 0 = .ok (.iload_n 0, 1) := by decide +kernel
theorem dX8_slot_1 : decode cX8_slot 1 = .ok (.bipush 6, 2) := by decide +kernel
theorem dX8_slot_3 : decode cX8_slot 3 = .ok (.imul, 1) := by decide +kernel
theorem dX8_slot_4 : decode cX8_slot 4 = .ok (.iload_n 1, 1) := by decide +kernel
theorem dX8_slot_5 : decode cX8_slot 5 = .ok (.iadd, 1) := by decide +kernel
theorem dX8_slot_6 : decode cX8_slot 6 = .ok (.ireturn, 1) := by decide +kernel
theorem dX9_init_0 : decode cX9_init 0 = .ok (.aload_n 0, 1) := by decide +kernel
theorem dX9_init_1 : decode cX9_init 1 = .ok (.invokespecial 3, 3) := by decide +kernel
theorem dX9_init_4 : decode cX9_init 4 = .ok (.aload_n 0, 1) := by decide +kernel
theorem dX9_init_5 : decode cX9_init 5 = .ok (.bipush 8, 2) := by decide +kernel
theorem dX9_init_7 : decode cX9_init 7 = .ok (.newarray .int, 2) := by decide +kernel
theorem dX9_init_9 : decode cX9_init 9 = .ok (.putfield 9, 3) := by decide +kernel
theorem dX9_init_12 : decode cX9_init 12 = .ok (.aload_n 0, 1) := by decide +kernel
theorem dX9_init_13 : decode cX9_init 13 = .ok (.bipush 6, 2) := by decide +kernel
theorem dX9_init_15 : decode cX9_init 15 = .ok (.newarray .int, 2) := by decide +kernel
theorem dX9_init_17 : decode cX9_init 17 = .ok (.putfield 15, 3) := by decide +kernel
theorem dX9_init_20 : decode cX9_init 20 = .ok (.aload_n 0, 1) := by decide +kernel
theorem dX9_init_21 : decode cX9_init 21 = .ok (.bipush 36, 2) := by decide +kernel
theorem dX9_init_23 : decode cX9_init 23 = .ok (.newarray .int, 2) := by decide +kernel
theorem dX9_init_25 : decode cX9_init 25 = .ok (.putfield 18, 3) := by decide +kernel
theorem dX9_init_28 : decode cX9_init 28 = .ok (.aload_n 0, 1) := by decide +kernel
theorem dX9_init_29 : decode cX9_init 29 = .ok (.bipush 36, 2) := by decide +kernel
theorem dX9_init_31 : decode cX9_init 31 = .ok (.newarray .int, 2) := by decide +kernel
theorem dX9_init_33 : decode cX9_init 33 = .ok (.putfield 21, 3) := by decide +kernel
theorem dX9_init_36 : decode cX9_init 36 = .ok (.aload_n 0, 1) := by decide +kernel
theorem dX9_init_37 : decode cX9_init 37 = .ok (.bipush 16, 2) := by decide +kernel
theorem dX9_init_39 : decode cX9_init 39 = .ok (.newarray .int, 2) := by decide +kernel
theorem dX9_init_41 : decode cX9_init 41 = .ok (.putfield 24, 3) := by decide +kernel
theorem dX9_init_44 : decode cX9_init 44 = .ok (.aload_n 0, 1) := by decide +kernel
theorem dX9_init_45 : decode cX9_init 45 = .ok (.bipush 16, 2) := by decide +kernel
theorem dX9_init_47 : decode cX9_init 47 = .ok (.newarray .int, 2) := by decide +kernel
theorem dX9_init_49 : decode cX9_init 49 = .ok (.putfield 27, 3) := by decide +kernel
theorem dX9_init_52 : decode cX9_init 52 = .ok (.aload_n 0, 1) := by decide +kernel
theorem dX9_init_53 : decode cX9_init 53 = .ok (.bipush 17, 2) := by decide +kernel
theorem dX9_init_55 : decode cX9_init 55 = .ok (.newarray .int, 2) := by decide +kernel
theorem dX9_init_57 : decode cX9_init 57 = .ok (.putfield 30, 3) := by decide +kernel
theorem dX9_init_60 : decode cX9_init 60 = .ok (.aload_n 0, 1) := by decide +kernel
theorem dX9_init_61 : decode cX9_init 61 = .ok (.bipush 17, 2) := by decide +kernel
theorem dX9_init_63 : decode cX9_init 63 = .ok (.newarray .int, 2) := by decide +kernel
theorem dX9_init_65 : decode cX9_init 65 = .ok (.putfield 33, 3) := by decide +kernel
theorem dX9_init_68 : decode cX9_init 68 = .ok (.aload_n 0, 1) := by decide +kernel
theorem dX9_init_69 : decode cX9_init 69 = .ok (.sipush 800, 3) := by decide +kernel
theorem dX9_init_72 : decode cX9_init 72 = .ok (.newarray .int, 2) := by decide +kernel
theorem dX9_init_74 : decode cX9_init 74 = .ok (.putfield 36, 3) := by decide +kernel
theorem dX9_init_77 : decode cX9_init 77 = .ok (.aload_n 0, 1) := by decide +kernel
theorem dX9_init_78 : decode cX9_init 78 = .ok (.sipush 400, 3) := by decide +kernel
theorem dX9_init_81 : decode cX9_init 81 = .ok (.newarray .int, 2) := by decide +kernel
theorem dX9_init_83 : decode cX9_init 83 = .ok (.putfield 39, 3) := by decide +kernel
theorem dX9_init_86 : decode cX9_init 86 = .ok (.return_, 1) := by decide +kernel
theorem dX10_init_0 : decode cX10_init 0 = .ok (.aload_n 0, 1) := by decide +kernel
theorem dX10_init_1 : decode cX10_init 1 = .ok (.aload_n 1, 1) := by decide +kernel
theorem dX10_init_2 : decode cX10_init 2 = .ok (.putfield 3, 3) := by decide +kernel
theorem dX10_init_5 : decode cX10_init 5 = .ok (.aload_n 0, 1) := by decide +kernel
theorem dX10_init_6 : decode cX10_init 6 = .ok (.invokespecial 9, 3) := by decide +kernel
theorem dX10_init_9 : decode cX10_init 9 = .ok (.aload_n 0, 1) := by decide +kernel
theorem dX10_init_10 : decode cX10_init 10 = .ok (.bipush 8, 2) := by decide +kernel
theorem dX10_init_12 : decode cX10_init 12 = .ok (.newarray .int, 2) := by decide +kernel
theorem dX10_init_14 : decode cX10_init 14 = .ok (.putfield 15, 3) := by decide +kernel
theorem dX10_init_17 : decode cX10_init 17 = .ok (.aload_n 0, 1) := by decide +kernel
theorem dX10_init_18 : decode cX10_init 18 = .ok (.bipush 8, 2) := by decide +kernel
theorem dX10_init_20 : decode cX10_init 20 = .ok (.newarray .int, 2) := by decide +kernel
theorem dX10_init_22 : decode cX10_init 22 = .ok (.putfield 19, 3) := by decide +kernel
theorem dX10_init_25 : decode cX10_init 25 = .ok (.aload_n 0, 1) := by decide +kernel
theorem dX10_init_26 : decode cX10_init 26 = .ok (.bipush 8, 2) := by decide +kernel
theorem dX10_init_28 : decode cX10_init 28 = .ok (.newarray .int, 2) := by decide +kernel
theorem dX10_init_30 : decode cX10_init 30 = .ok (.putfield 22, 3) := by decide +kernel
theorem dX10_init_33 : decode cX10_init 33 = .ok (.aload_n 0, 1) := by decide +kernel
theorem dX10_init_34 : decode cX10_init 34 = .ok (.bipush 9, 2) := by decide +kernel
theorem dX10_init_36 : decode cX10_init 36 = .ok (.newarray .boolean, 2) := by decide +kernel
theorem dX10_init_38 : decode cX10_init 38 = .ok (.putfield 25, 3) := by decide +kernel
theorem dX10_init_41 : decode cX10_init 41 = .ok (.aload_n 0, 1) := by decide +kernel
theorem dX10_init_42 : decode cX10_init 42 = .ok (.bipush 6, 2) := by decide +kernel
theorem dX10_init_44 : decode cX10_init 44 = .ok (.newarray .int, 2) := by decide +kernel
theorem dX10_init_46 : decode cX10_init 46 = .ok (.putfield 29, 3) := by decide +kernel
theorem dX10_init_49 : decode cX10_init 49 = .ok (.aload_n 0, 1) := by decide +kernel
theorem dX10_init_50 : decode cX10_init 50 = .ok (.bipush 6, 2) := by decide +kernel
theorem dX10_init_52 : decode cX10_init 52 = .ok (.newarray .int, 2) := by decide +kernel
theorem dX10_init_54 : decode cX10_init 54 = .ok (.putfield 32, 3) := by decide +kernel
theorem dX10_init_57 : decode cX10_init 57 = .ok (.aload_n 0, 1) := by decide +kernel
theorem dX10_init_58 : decode cX10_init 58 = .ok (.bipush 36, 2) := by decide +kernel
theorem dX10_init_60 : decode cX10_init 60 = .ok (.newarray .int, 2) := by decide +kernel
theorem dX10_init_62 : decode cX10_init 62 = .ok (.putfield 35, 3) := by decide +kernel
theorem dX10_init_65 : decode cX10_init 65 = .ok (.aload_n 0, 1) := by decide +kernel
theorem dX10_init_66 : decode cX10_init 66 = .ok (.bipush 36, 2) := by decide +kernel
theorem dX10_init_68 : decode cX10_init 68 = .ok (.newarray .boolean, 2) := by decide +kernel
theorem dX10_init_70 : decode cX10_init 70 = .ok (.putfield 38, 3) := by decide +kernel
theorem dX10_init_73 : decode cX10_init 73 = .ok (.return_, 1) := by decide +kernel
theorem dX10_become_0 : decode cX10_become 0 = .ok (.aload_n 0, 1) := by decide +kernel
theorem dX10_become_1 : decode cX10_become 1 = .ok (.aload_n 1, 1) := by decide +kernel
theorem dX10_become_2 : decode cX10_become 2 = .ok (.getfield 41, 3) := by decide +kernel
theorem dX10_become_5 : decode cX10_become 5 = .ok (.putfield 41, 3) := by decide +kernel
theorem dX10_become_8 : decode cX10_become 8 = .ok (.aload_n 0, 1) := by decide +kernel
theorem dX10_become_9 : decode cX10_become 9 = .ok (.aload_n 1, 1) := by decide +kernel
theorem dX10_become_10 : decode cX10_become 10 = .ok (.getfield 45, 3) := by decide +kernel
theorem dX10_become_13 : decode cX10_become 13 = .ok (.putfield 45, 3) := by decide +kernel
theorem dX10_become_16 : decode cX10_become 16 = .ok (.aload_n 0, 1) := by decide +kernel
theorem dX10_become_17 : decode cX10_become 17 = .ok (.aload_n 1, 1) := by decide +kernel
theorem dX10_become_18 : decode cX10_become 18 = .ok (.getfield 48, 3) := by decide +kernel
theorem dX10_become_21 : decode cX10_become 21 = .ok (.putfield 48, 3) := by decide +kernel
theorem dX10_become_24 : decode cX10_become 24 = .ok (.aload_n 1, 1) := by decide +kernel
theorem dX10_become_25 : decode cX10_become 25 = .ok (.getfield 15, 3) := by decide +kernel
theorem dX10_become_28 : decode cX10_become 28 = .ok (.iconst 0, 1) := by decide +kernel
theorem dX10_become_29 : decode cX10_become 29 = .ok (.aload_n 0, 1) := by decide +kernel
theorem dX10_become_30 : decode cX10_become 30 = .ok (.getfield 15, 3) := by decide +kernel
theorem dX10_become_33 : decode cX10_become 33 = .ok (.iconst 0, 1) := by decide +kernel
theorem dX10_become_34 : decode cX10_become 34 = .ok (.bipush 8, 2) := by decide +kernel
theorem dX10_become_36 : decode cX10_become 36 = .ok (.invokestatic 51, 3) := by decide +kernel
theorem dX10_become_39 : decode cX10_become 39 = .ok (.aload_n 1, 1) := by decide +kernel
theorem dX10_become_40 : decode cX10_become 40 = .ok (.getfield 19, 3) := by decide +kernel
theorem dX10_become_43 : decode cX10_become 43 = .ok (.iconst 0, 1) := by decide +kernel
theorem dX10_become_44 : decode cX10_become 44 = .ok (.aload_n 0, 1) := by decide +kernel
theorem dX10_become_45 : decode cX10_become 45 = .ok (.getfield 19, 3) := by decide +kernel
theorem dX10_become_48 : decode cX10_become 48 = .ok (.iconst 0, 1) := by decide +kernel
theorem dX10_become_49 : decode cX10_become 49 = .ok (.bipush 8, 2) := by decide +kernel
theorem dX10_become_51 : decode cX10_become 51 = .ok (.invokestatic 51, 3) := by decide +kernel
theorem dX10_become_54 : decode cX10_become 54 = .ok (.aload_n 1, 1) := by decide +kernel
theorem dX10_become_55 : decode cX10_become 55 = .ok (.getfield 22, 3) := by decide +kernel
theorem dX10_become_58 : decode cX10_become 58 = .ok (.iconst 0, 1) := by decide +kernel
theorem dX10_become_59 : decode cX10_become 59 = .ok (.aload_n 0, 1) := by decide +kernel
theorem dX10_become_60 : decode cX10_become 60 = .ok (.getfield 22, 3) := by decide +kernel
theorem dX10_become_63 : decode cX10_become 63 = .ok (.iconst 0, 1) := by decide +kernel
theorem dX10_become_64 : decode cX10_become 64 = .ok (.bipush 8, 2) := by decide +kernel
theorem dX10_become_66 : decode cX10_become 66 = .ok (.invokestatic 51, 3) := by decide +kernel
theorem dX10_become_69 : decode cX10_become 69 = .ok (.aload_n 1, 1) := by decide +kernel
theorem dX10_become_70 : decode cX10_become 70 = .ok (.getfield 25, 3) := by decide +kernel
theorem dX10_become_73 : decode cX10_become 73 = .ok (.iconst 0, 1) := by decide +kernel
theorem dX10_become_74 : decode cX10_become 74 = .ok (.aload_n 0, 1) := by decide +kernel
theorem dX10_become_75 : decode cX10_become 75 = .ok (.getfield 25, 3) := by decide +kernel
theorem dX10_become_78 : decode cX10_become 78 = .ok (.iconst 0, 1) := by decide +kernel
theorem dX10_become_79 : decode cX10_become 79 = .ok (.bipush 9, 2) := by decide +kernel
theorem dX10_become_81 : decode cX10_become 81 = .ok (.invokestatic 51, 3) := by decide +kernel
theorem dX10_become_84 : decode cX10_become 84 = .ok (.aload_n 1, 1) := by decide +kernel
theorem dX10_become_85 : decode cX10_become 85 = .ok (.getfield 29, 3) := by decide +kernel
theorem dX10_become_88 : decode cX10_become 88 = .ok (.iconst 0, 1) := by decide +kernel
theorem dX10_become_89 : decode cX10_become 89 = .ok (.aload_n 0, 1) := by decide +kernel
theorem dX10_become_90 : decode cX10_become 90 = .ok (.getfield 29, 3) := by decide +kernel
theorem dX10_become_93 : decode cX10_become 93 = .ok (.iconst 0, 1) := by decide +kernel
theorem dX10_become_94 : decode cX10_become 94 = .ok (.bipush 6, 2) := by decide +kernel
theorem dX10_become_96 : decode cX10_become 96 = .ok (.invokestatic 51, 3) := by decide +kernel
theorem dX10_become_99 : decode cX10_become 99 = .ok (.aload_n 1, 1) := by decide +kernel
theorem dX10_become_100 : decode cX10_become 100 = .ok (.getfield 32, 3) := by decide +kernel
theorem dX10_become_103 : decode cX10_become 103 = .ok (.iconst 0, 1) := by decide +kernel
theorem dX10_become_104 : decode cX10_become 104 = .ok (.aload_n 0, 1) := by decide +kernel
theorem dX10_become_105 : decode cX10_become 105 = .ok (.getfield 32, 3) := by decide +kernel
theorem dX10_become_108 : decode cX10_become 108 = .ok (.iconst 0, 1) := by decide +kernel
theorem dX10_become_109 : decode cX10_become 109 = .ok (.bipush 6, 2) := by decide +kernel
theorem dX10_become_111 : decode cX10_become 111 = .ok (.invokestatic 51, 3) := by decide +kernel
theorem dX10_become_114 : decode cX10_become 114 = .ok (.aload_n 1, 1) := by decide +kernel
theorem dX10_become_115 : decode cX10_become 115 = .ok (.getfield 35, 3) := by decide +kernel
theorem dX10_become_118 : decode cX10_become 118 = .ok (.iconst 0, 1) := by decide +kernel
theorem dX10_become_119 : decode cX10_become 119 = .ok (.aload_n 0, 1) := by decide +kernel
theorem dX10_become_120 : decode cX10_become 120 = .ok (.getfield 35, 3) := by decide +kernel
theorem dX10_become_123 : decode cX10_become 123 = .ok (.iconst 0, 1) := by decide +kernel
theorem dX10_become_124 : decode cX10_become 124 = .ok (.bipush 36, 2) := by decide +kernel
theorem dX10_become_126 : decode cX10_become 126 = .ok (.invokestatic 51, 3) := by decide +kernel
theorem dX10_become_129 : decode cX10_become 129 = .ok (.aload_n 1, 1) := by decide +kernel
theorem dX10_become_130 : decode cX10_become 130 = .ok (.getfield 38, 3) := by decide +kernel
theorem dX10_become_133 : decode cX10_become 133 = .ok (.iconst 0, 1) := by decide +kernel
theorem dX10_become_134 : decode cX10_become 134 = .ok (.aload_n 0, 1) := by decide +kernel
theorem dX10_become_135 : decode cX10_become 135 = .ok (.getfield 38, 3) := by decide +kernel
theorem dX10_become_138 : decode cX10_become 138 = .ok (.iconst 0, 1) := by decide +kernel
theorem dX10_become_139 : decode cX10_become 139 = .ok (.bipush 36, 2) := by decide +kernel
theorem dX10_become_141 : decode cX10_become 141 = .ok (.invokestatic 51, 3) := by decide +kernel
theorem dX10_become_144 : decode cX10_become 144 = .ok (.aload_n 0, 1) := by decide +kernel
theorem dX10_become_145 : decode cX10_become 145 = .ok (.areturn, 1) := by decide +kernel
theorem dX10_begin_0 : decode cX10_begin 0 = .ok (.aload_n 0, 1) := by decide +kernel
theorem dX10_begin_1 : decode cX10_begin 1 = .ok (.new 4, 3) := by decide +kernel
theorem dX10_begin_4 : decode cX10_begin 4 = .ok (.dup, 1) := by decide +kernel
theorem dX10_begin_5 : decode cX10_begin 5 = .ok (.aload_n 0, 1) := by decide +kernel
theorem dX10_begin_6 : decode cX10_begin 6 = .ok (.getfield 3, 3) := by decide +kernel
theorem dX10_begin_9 : decode cX10_begin 9 = .ok (.invokespecial 57, 3) := by decide +kernel
theorem dX10_begin_12 : decode cX10_begin 12 = .ok (.invokevirtual 60, 3) := by decide +kernel
theorem dX10_begin_15 : decode cX10_begin 15 = .ok (.pop, 1) := by decide +kernel
theorem dX10_begin_16 : decode cX10_begin 16 = .ok (.iconst 0, 1) := by decide +kernel
theorem dX10_begin_17 : decode cX10_begin 17 = .ok (.istore_n 1, 1) := by decide +kernel
theorem dX10_begin_18 : decode cX10_begin 18 = .ok (.iload_n 1, 1) := by decide +kernel
theorem dX10_begin_19 : decode cX10_begin 19 = .ok (.bipush 8, 2) := by decide +kernel
theorem dX10_begin_21 : decode cX10_begin 21 = .ok (.if_icmp .ge 34, 3) := by decide +kernel
theorem dX10_begin_24 : decode cX10_begin 24 = .ok (.aload_n 0, 1) := by decide +kernel
theorem dX10_begin_25 : decode cX10_begin 25 = .ok (.getfield 15, 3) := by decide +kernel
theorem dX10_begin_28 : decode cX10_begin 28 = .ok (.iload_n 1, 1) := by decide +kernel
theorem dX10_begin_29 : decode cX10_begin 29 = .ok (.aload_n 0, 1) := by decide +kernel
theorem dX10_begin_30 : decode cX10_begin 30 = .ok (.getfield 3, 3) := by decide +kernel
theorem dX10_begin_33 : decode cX10_begin 33 = .ok (.getfield 64, 3) := by decide +kernel
theorem dX10_begin_36 : decode cX10_begin 36 = .ok (.getfield 68, 3) := by decide +kernel
theorem dX10_begin_39 : decode cX10_begin 39 = .ok (.iload_n 1, 1) := by decide +kernel
theorem dX10_begin_40 : decode cX10_begin 40 = .ok (.iaload, 1) := by decide +kernel
theorem dX10_begin_41 : decode cX10_begin 41 = .ok (.iastore, 1) := by decide +kernel
theorem dX10_begin_42 : decode cX10_begin 42 = .ok (.aload_n 0, 1) := by decide +kernel
theorem dX10_begin_43 : decode cX10_begin 43 = .ok (.getfield 19, 3) := by decide +kernel
theorem dX10_begin_46 : decode cX10_begin 46 = .ok (.iload_n 1, 1) := by decide +kernel
theorem dX10_begin_47 : decode cX10_begin 47 = .ok (.iconst (-1), 1) := by decide +kernel
theorem dX10_begin_48 : decode cX10_begin 48 = .ok (.iastore, 1) := by decide +kernel
theorem dX10_begin_49 : decode cX10_begin 49 = .ok (.iinc 1 1, 3) := by decide +kernel
theorem dX10_begin_52 : decode cX10_begin 52 = .ok (.goto (-34), 3) := by decide +kernel
theorem dX10_begin_55 : decode cX10_begin 55 = .ok (.return_, 1) := by decide +kernel
theorem dX10_manyBlocked_0 : decode cX10_manyBlocked 0 = .ok (.iconst 0, 1) := by decide +kernel
theorem dX10_manyBlocked_1 : decode cX10_manyBlocked 1 = .ok (.istore_n 1, 1) := by decide +kernel
theorem dX10_manyBlocked_2 : decode cX10_manyBlocked 2 = .ok (.iconst 0, 1) := by decide +kernel
theorem dX10_manyBlocked_3 : decode cX10_manyBlocked 3 = .ok (.istore_n 2, 1) := by decide +kernel
theorem dX10_manyBlocked_4 : decode cX10_manyBlocked 4 = .ok (.iload_n 2, 1) := by decide +kernel
theorem dX10_manyBlocked_5 : decode cX10_manyBlocked 5 = .ok (.aload_n 0, 1) := by decide +kernel
theorem dX10_manyBlocked_6 : decode cX10_manyBlocked 6 = .ok (.getfield 3, 3) := by decide +kernel
theorem dX10_manyBlocked_9 : decode cX10_manyBlocked 9 = .ok (.getfield 64, 3) := by decide +kernel
theorem dX10_manyBlocked_12 : decode cX10_manyBlocked 12 = .ok (.getfield 71, 3) := by decide +kernel
theorem dX10_manyBlocked_15 : decode cX10_manyBlocked 15 = .ok (.if_icmp .ge 27, 3) := by decide +kernel
theorem dX10_manyBlocked_18 : decode cX10_manyBlocked 18 = .ok (.iload_n 1, 1) := by decide +kernel
theorem dX10_manyBlocked_19 : decode cX10_manyBlocked 19 = .ok (.aload_n 0, 1) := by decide +kernel
theorem dX10_manyBlocked_20 : decode cX10_manyBlocked 20 = .ok (.getfield 19, 3) := by decide +kernel
theorem dX10_manyBlocked_23 : decode cX10_manyBlocked 23 = .ok (.iload_n 2, 1) := by decide +kernel
theorem dX10_manyBlocked_24 : decode cX10_manyBlocked 24 = .ok (.iaload, 1) := by decide +kernel
theorem dX10_manyBlocked_25 : decode cX10_manyBlocked 25 = .ok (.iconst (-1), 1) := by decide +kernel
theorem dX10_manyBlocked_26 : decode cX10_manyBlocked 26 = .ok (.if_icmp .ne 7, 3) := by decide +kernel
theorem dX10_manyBlocked_29 : decode cX10_manyBlocked 29 = .ok (.iconst 0, 1) := by decide +kernel
theorem dX10_manyBlocked_30 : decode cX10_manyBlocked 30 = .ok (.goto 4, 3) := by decide +kernel
theorem dX10_manyBlocked_33 : decode cX10_manyBlocked 33 = .ok (.iconst 1, 1) := by decide +kernel
theorem dX10_manyBlocked_34 : decode cX10_manyBlocked 34 = .ok (.iadd, 1) := by decide +kernel
theorem dX10_manyBlocked_35 : decode cX10_manyBlocked 35 = .ok (.istore_n 1, 1) := by decide +kernel
theorem dX10_manyBlocked_36 : decode cX10_manyBlocked 36 = .ok (.iinc 2 1, 3) := by decide +kernel
theorem dX10_manyBlocked_39 : decode cX10_manyBlocked 39 = .ok (.goto (-35), 3) := by decide +kernel
theorem dX10_manyBlocked_42 : decode cX10_manyBlocked 42 = .ok (.iload_n 1, 1) := by decide +kernel
theorem dX10_manyBlocked_43 : decode cX10_manyBlocked 43 = .ok (.ireturn, 1) := by decide +kernel
theorem dX10_allHoney_0 : decode cX10_allHoney 0 = .ok (.iconst 0, 1) := by decide +kernel
theorem dX10_allHoney_1 : decode cX10_allHoney 1 = .ok (.istore_n 1, 1) := by decide +kernel
theorem dX10_allHoney_2 : decode cX10_allHoney 2 = .ok (.iconst 0, 1) := by decide +kernel
theorem dX10_allHoney_3 : decode cX10_allHoney 3 = .ok (.istore_n 2, 1) := by decide +kernel
theorem dX10_allHoney_4 : decode cX10_allHoney 4 = .ok (.iload_n 2, 1) := by decide +kernel
theorem dX10_allHoney_5 : decode cX10_allHoney 5 = .ok (.aload_n 0, 1) := by decide +kernel
theorem dX10_allHoney_6 : decode cX10_allHoney 6 = .ok (.getfield 3, 3) := by decide +kernel
theorem dX10_allHoney_9 : decode cX10_allHoney 9 = .ok (.getfield 64, 3) := by decide +kernel
theorem dX10_allHoney_12 : decode cX10_allHoney 12 = .ok (.getfield 71, 3) := by decide +kernel
theorem dX10_allHoney_15 : decode cX10_allHoney 15 = .ok (.if_icmp .ge 18, 3) := by decide +kernel
theorem dX10_allHoney_18 : decode cX10_allHoney 18 = .ok (.iload_n 1, 1) := by decide +kernel
theorem dX10_allHoney_19 : decode cX10_allHoney 19 = .ok (.aload_n 0, 1) := by decide +kernel
theorem dX10_allHoney_20 : decode cX10_allHoney 20 = .ok (.getfield 15, 3) := by decide +kernel
theorem dX10_allHoney_23 : decode cX10_allHoney 23 = .ok (.iload_n 2, 1) := by decide +kernel
theorem dX10_allHoney_24 : decode cX10_allHoney 24 = .ok (.iaload, 1) := by decide +kernel
theorem dX10_allHoney_25 : decode cX10_allHoney 25 = .ok (.iadd, 1) := by decide +kernel
theorem dX10_allHoney_26 : decode cX10_allHoney 26 = .ok (.istore_n 1, 1) := by decide +kernel
theorem dX10_allHoney_27 : decode cX10_allHoney 27 = .ok (.iinc 2 1, 3) := by decide +kernel
theorem dX10_allHoney_30 : decode cX10_allHoney 30 = .ok (.goto (-26), 3) := by decide +kernel
theorem dX10_allHoney_33 : decode cX10_allHoney 33 = .ok (.iload_n 1, 1) := by decide +kernel
theorem dX10_allHoney_34 : decode cX10_allHoney 34 = .ok (.ireturn, 1) := by decide +kernel
theorem dX10_manyAwake_0 : decode cX10_manyAwake 0 = .ok (.iconst 0, 1) := by decide +kernel
theorem dX10_manyAwake_1 : decode cX10_manyAwake 1 = .ok (.istore_n 1, 1) := by decide +kernel
theorem dX10_manyAwake_2 : decode cX10_manyAwake 2 = .ok (.iconst 0, 1) := by decide +kernel
theorem dX10_manyAwake_3 : decode cX10_manyAwake 3 = .ok (.istore_n 2, 1) := by decide +kernel
theorem dX10_manyAwake_4 : decode cX10_manyAwake 4 = .ok (.iload_n 2, 1) := by decide +kernel
theorem dX10_manyAwake_5 : decode cX10_manyAwake 5 = .ok (.aload_n 0, 1) := by decide +kernel
theorem dX10_manyAwake_6 : decode cX10_manyAwake 6 = .ok (.getfield 3, 3) := by decide +kernel
theorem dX10_manyAwake_9 : decode cX10_manyAwake 9 = .ok (.getfield 64, 3) := by decide +kernel
theorem dX10_manyAwake_12 : decode cX10_manyAwake 12 = .ok (.getfield 71, 3) := by decide +kernel
theorem dX10_manyAwake_15 : decode cX10_manyAwake 15 = .ok (.if_icmp .ge 26, 3) := by decide +kernel
theorem dX10_manyAwake_18 : decode cX10_manyAwake 18 = .ok (.iload_n 1, 1) := by decide +kernel
theorem dX10_manyAwake_19 : decode cX10_manyAwake 19 = .ok (.aload_n 0, 1) := by decide +kernel
theorem dX10_manyAwake_20 : decode cX10_manyAwake 20 = .ok (.getfield 25, 3) := by decide +kernel
theorem dX10_manyAwake_23 : decode cX10_manyAwake 23 = .ok (.iload_n 2, 1) := by decide +kernel
theorem dX10_manyAwake_24 : decode cX10_manyAwake 24 = .ok (.baload, 1) := by decide +kernel
theorem dX10_manyAwake_25 : decode cX10_manyAwake 25 = .ok (.ifCond .eq 7, 3) := by decide +kernel
theorem dX10_manyAwake_28 : decode cX10_manyAwake 28 = .ok (.iconst 0, 1) := by decide +kernel
theorem dX10_manyAwake_29 : decode cX10_manyAwake 29 = .ok (.goto 4, 3) := by decide +kernel
theorem dX10_manyAwake_32 : decode cX10_manyAwake 32 = .ok (.iconst 1, 1) := by decide +kernel
theorem dX10_manyAwake_33 : decode cX10_manyAwake 33 = .ok (.iadd, 1) := by decide +kernel
theorem dX10_manyAwake_34 : decode cX10_manyAwake 34 = .ok (.istore_n 1, 1) := by decide +kernel
theorem dX10_manyAwake_35 : decode cX10_manyAwake 35 = .ok (.iinc 2 1, 3) := by decide +kernel
theorem dX10_manyAwake_38 : decode cX10_manyAwake 38 = .ok (.goto (-34), 3) := by decide +kernel
theorem dX10_manyAwake_41 : decode cX10_manyAwake 41 = .ok (.iload_n 1, 1) := by decide +kernel
theorem dX10_manyAwake_42 : decode cX10_manyAwake 42 = .ok (.ireturn, 1) := by decide +kernel
theorem dX10_manyBegun_0 : decode cX10_manyBegun 0 = .ok (.iconst 0, 1) := by decide +kernel
theorem dX10_manyBegun_1 : decode cX10_manyBegun 1 = .ok (.istore_n 1, 1) := by decide +kernel
theorem dX10_manyBegun_2 : decode cX10_manyBegun 2 = .ok (.iconst 0, 1) := by decide +kernel
theorem dX10_manyBegun_3 : decode cX10_manyBegun 3 = .ok (.istore_n 2, 1) := by decide +kernel
theorem dX10_manyBegun_4 : decode cX10_manyBegun 4 = .ok (.iload_n 2, 1) := by decide +kernel
theorem dX10_manyBegun_5 : decode cX10_manyBegun 5 = .ok (.aload_n 0, 1) := by decide +kernel
theorem dX10_manyBegun_6 : decode cX10_manyBegun 6 = .ok (.getfield 3, 3) := by decide +kernel
theorem dX10_manyBegun_9 : decode cX10_manyBegun 9 = .ok (.getfield 64, 3) := by decide +kernel
theorem dX10_manyBegun_12 : decode cX10_manyBegun 12 = .ok (.getfield 74, 3) := by decide +kernel
theorem dX10_manyBegun_15 : decode cX10_manyBegun 15 = .ok (.if_icmp .ge 27, 3) := by decide +kernel
theorem dX10_manyBegun_18 : decode cX10_manyBegun 18 = .ok (.iload_n 1, 1) := by decide +kernel
theorem dX10_manyBegun_19 : decode cX10_manyBegun 19 = .ok (.aload_n 0, 1) := by decide +kernel
theorem dX10_manyBegun_20 : decode cX10_manyBegun 20 = .ok (.getfield 29, 3) := by decide +kernel
theorem dX10_manyBegun_23 : decode cX10_manyBegun 23 = .ok (.iload_n 2, 1) := by decide +kernel
theorem dX10_manyBegun_24 : decode cX10_manyBegun 24 = .ok (.iaload, 1) := by decide +kernel
theorem dX10_manyBegun_25 : decode cX10_manyBegun 25 = .ok (.iconst 1, 1) := by decide +kernel
theorem dX10_manyBegun_26 : decode cX10_manyBegun 26 = .ok (.if_icmp .ne 7, 3) := by decide +kernel
theorem dX10_manyBegun_29 : decode cX10_manyBegun 29 = .ok (.iconst 1, 1) := by decide +kernel
theorem dX10_manyBegun_30 : decode cX10_manyBegun 30 = .ok (.goto 4, 3) := by decide +kernel
theorem dX10_manyBegun_33 : decode cX10_manyBegun 33 = .ok (.iconst 0, 1) := by decide +kernel
theorem dX10_manyBegun_34 : decode cX10_manyBegun 34 = .ok (.iadd, 1) := by decide +kernel
theorem dX10_manyBegun_35 : decode cX10_manyBegun 35 = .ok (.istore_n 1, 1) := by decide +kernel
theorem dX10_manyBegun_36 : decode cX10_manyBegun 36 = .ok (.iinc 2 1, 3) := by decide +kernel
theorem dX10_manyBegun_39 : decode cX10_manyBegun 39 = .ok (.goto (-35), 3) := by decide +kernel
theorem dX10_manyBegun_42 : decode cX10_manyBegun 42 = .ok (.iload_n 1, 1) := by decide +kernel
theorem dX10_manyBegun_43 : decode cX10_manyBegun 43 = .ok (.ireturn, 1) := by decide +kernel
theorem dX10_waits_0 : decode cX10_waits 0 = .ok (.aload_n 0, 1) := by decide +kernel
theorem dX10_waits_1 : decode cX10_waits 1 = .ok (.getfield 29, 3) := by decide +kernel
theorem dX10_waits_4 : decode cX10_waits 4 = .ok (.iload_n 1, 1) := by decide +kernel
theorem dX10_waits_5 : decode cX10_waits 5 = .ok (.iaload, 1) := by decide +kernel
theorem dX10_waits_6 : decode cX10_waits 6 = .ok (.iconst 1, 1) := by decide +kernel
theorem dX10_waits_7 : decode cX10_waits 7 = .ok (.if_icmp .ne 17, 3) := by decide +kernel
theorem dX10_waits_10 : decode cX10_waits 10 = .ok (.aload_n 0, 1) := by decide +kernel
theorem dX10_waits_11 : decode cX10_waits 11 = .ok (.getfield 41, 3) := by decide +kernel
theorem dX10_waits_14 : decode cX10_waits 14 = .ok (.aload_n 0, 1) := by decide +kernel
theorem dX10_waits_15 : decode cX10_waits 15 = .ok (.getfield 32, 3) := by decide +kernel
theorem dX10_waits_18 : decode cX10_waits 18 = .ok (.iload_n 1, 1) := by decide +kernel
theorem dX10_waits_19 : decode cX10_waits 19 = .ok (.iaload, 1) := by decide +kernel
theorem dX10_waits_20 : decode cX10_waits 20 = .ok (.isub, 1) := by decide +kernel
theorem dX10_waits_21 : decode cX10_waits 21 = .ok (.goto 4, 3) := by decide +kernel
theorem dX10_waits_24 : decode cX10_waits 24 = .ok (.iconst 0, 1) := by decide +kernel
theorem dX10_waits_25 : decode cX10_waits 25 = .ok (.ireturn, 1) := by decide +kernel
theorem dX10_votes_0 : decode cX10_votes 0 = .ok (.iconst 0, 1) := by decide +kernel
theorem dX10_votes_1 : decode cX10_votes 1 = .ok (.istore_n 3, 1) := by decide +kernel
theorem dX10_votes_2 : decode cX10_votes 2 = .ok (.iconst 0, 1) := by decide +kernel
theorem dX10_votes_3 : decode cX10_votes 3 = .ok (.istore 4, 2) := by decide +kernel
theorem dX10_votes_5 : decode cX10_votes 5 = .ok (.iload 4, 2) := by decide +kernel
theorem dX10_votes_7 : decode cX10_votes 7 = .ok (.aload_n 0, 1) := by decide +kernel
theorem dX10_votes_8 : decode cX10_votes 8 = .ok (.getfield 3, 3) := by decide +kernel
theorem dX10_votes_11 : decode cX10_votes 11 = .ok (.getfield 64, 3) := by decide +kernel
theorem dX10_votes_14 : decode cX10_votes 14 = .ok (.getfield 77, 3) := by decide +kernel
theorem dX10_votes_17 : decode cX10_votes 17 = .ok (.iload_n 1, 1) := by decide +kernel
theorem dX10_votes_18 : decode cX10_votes 18 = .ok (.iaload, 1) := by decide +kernel
theorem dX10_votes_19 : decode cX10_votes 19 = .ok (.if_icmp .ge 33, 3) := by decide +kernel
theorem dX10_votes_22 : decode cX10_votes 22 = .ok (.iload_n 3, 1) := by decide +kernel
theorem dX10_votes_23 : decode cX10_votes 23 = .ok (.aload_n 0, 1) := by decide +kernel
theorem dX10_votes_24 : decode cX10_votes 24 = .ok (.getfield 35, 3) := by decide +kernel
theorem dX10_votes_27 : decode cX10_votes 27 = .ok (.bipush 6, 2) := by decide +kernel
theorem dX10_votes_29 : decode cX10_votes 29 = .ok (.iload_n 1, 1) := by decide +kernel
theorem dX10_votes_30 : decode cX10_votes 30 = .ok (.imul, 1) := by decide +kernel
theorem dX10_votes_31 : decode cX10_votes 31 = .ok (.iload 4, 2) := by decide +kernel
theorem dX10_votes_33 : decode cX10_votes 33 = .ok (.iadd, 1) := by decide +kernel
theorem dX10_votes_34 : decode cX10_votes 34 = .ok (.iaload, 1) := by decide +kernel
theorem dX10_votes_35 : decode cX10_votes 35 = .ok (.iload_n 2, 1) := by decide +kernel
theorem dX10_votes_36 : decode cX10_votes 36 = .ok (.if_icmp .ne 7, 3) := by decide +kernel
theorem dX10_votes_39 : decode cX10_votes 39 = .ok (.iconst 1, 1) := by decide +kernel
theorem dX10_votes_40 : decode cX10_votes 40 = .ok (.goto 4, 3) := by decide +kernel
theorem dX10_votes_43 : decode cX10_votes 43 = .ok (.iconst 0, 1) := by decide +kernel
theorem dX10_votes_44 : decode cX10_votes 44 = .ok (.iadd, 1) := by decide +kernel
theorem dX10_votes_45 : decode cX10_votes 45 = .ok (.istore_n 3, 1) := by decide +kernel
theorem dX10_votes_46 : decode cX10_votes 46 = .ok (.iinc 4 1, 3) := by decide +kernel
theorem dX10_votes_49 : decode cX10_votes 49 = .ok (.goto (-44), 3) := by decide +kernel
theorem dX10_votes_52 : decode cX10_votes 52 = .ok (.iload_n 3, 1) := by decide +kernel
theorem dX10_votes_53 : decode cX10_votes 53 = .ok (.ireturn, 1) := by decide +kernel
theorem dX10_hasHeard_0 : decode cX10_hasHeard 0 = .ok (.iconst 0, 1) := by decide +kernel
theorem dX10_hasHeard_1 : decode cX10_hasHeard 1 = .ok (.istore_n 2, 1) := by decide +kernel
theorem dX10_hasHeard_2 : decode cX10_hasHeard 2 = .ok (.iconst 0, 1) := by decide +kernel
theorem dX10_hasHeard_3 : decode cX10_hasHeard 3 = .ok (.istore_n 3, 1) := by decide +kernel
theorem dX10_hasHeard_4 : decode cX10_hasHeard 4 = .ok (.iload_n 3, 1) := by decide +kernel
theorem dX10_hasHeard_5 : decode cX10_hasHeard 5 = .ok (.aload_n 0, 1) := by decide +kernel
theorem dX10_hasHeard_6 : decode cX10_hasHeard 6 = .ok (.getfield 3, 3) := by decide +kernel
theorem dX10_hasHeard_9 : decode cX10_hasHeard 9 = .ok (.getfield 64, 3) := by decide +kernel
theorem dX10_hasHeard_12 : decode cX10_hasHeard 12 = .ok (.getfield 77, 3) := by decide +kernel
theorem dX10_hasHeard_15 : decode cX10_hasHeard 15 = .ok (.iload_n 1, 1) := by decide +kernel
theorem dX10_hasHeard_16 : decode cX10_hasHeard 16 = .ok (.iaload, 1) := by decide +kernel
theorem dX10_hasHeard_17 : decode cX10_hasHeard 17 = .ok (.if_icmp .ge 31, 3) := by decide +kernel
theorem dX10_hasHeard_20 : decode cX10_hasHeard 20 = .ok (.iload_n 2, 1) := by decide +kernel
theorem dX10_hasHeard_21 : decode cX10_hasHeard 21 = .ok (.aload_n 0, 1) := by decide +kernel
theorem dX10_hasHeard_22 : decode cX10_hasHeard 22 = .ok (.getfield 38, 3) := by decide +kernel
theorem dX10_hasHeard_25 : decode cX10_hasHeard 25 = .ok (.bipush 6, 2) := by decide +kernel
theorem dX10_hasHeard_27 : decode cX10_hasHeard 27 = .ok (.iload_n 1, 1) := by decide +kernel
theorem dX10_hasHeard_28 : decode cX10_hasHeard 28 = .ok (.imul, 1) := by decide +kernel
theorem dX10_hasHeard_29 : decode cX10_hasHeard 29 = .ok (.iload_n 3, 1) := by decide +kernel
theorem dX10_hasHeard_30 : decode cX10_hasHeard 30 = .ok (.iadd, 1) := by decide +kernel
theorem dX10_hasHeard_31 : decode cX10_hasHeard 31 = .ok (.baload, 1) := by decide +kernel
theorem dX10_hasHeard_32 : decode cX10_hasHeard 32 = .ok (.ifCond .eq 7, 3) := by decide +kernel
theorem dX10_hasHeard_35 : decode cX10_hasHeard 35 = .ok (.iconst 1, 1) := by decide +kernel
theorem dX10_hasHeard_36 : decode cX10_hasHeard 36 = .ok (.goto 4, 3) := by decide +kernel
theorem dX10_hasHeard_39 : decode cX10_hasHeard 39 = .ok (.iconst 0, 1) := by decide +kernel
theorem dX10_hasHeard_40 : decode cX10_hasHeard 40 = .ok (.iadd, 1) := by decide +kernel
theorem dX10_hasHeard_41 : decode cX10_hasHeard 41 = .ok (.istore_n 2, 1) := by decide +kernel
theorem dX10_hasHeard_42 : decode cX10_hasHeard 42 = .ok (.iinc 3 1, 3) := by decide +kernel
theorem dX10_hasHeard_45 : decode cX10_hasHeard 45 = .ok (.goto (-41), 3) := by decide +kernel
theorem dX10_hasHeard_48 : decode cX10_hasHeard 48 = .ok (.iload_n 2, 1) := by decide +kernel
theorem dX10_hasHeard_49 : decode cX10_hasHeard 49 = .ok (.ireturn, 1) := by decide +kernel
theorem dX10_agrees_0 : decode cX10_agrees 0 = .ok (.aload_n 0, 1) := by decide +kernel
theorem dX10_agrees_1 : decode cX10_agrees 1 = .ok (.getfield 3, 3) := by decide +kernel
theorem dX10_agrees_4 : decode cX10_agrees 4 = .ok (.getfield 64, 3) := by decide +kernel
theorem dX10_agrees_7 : decode cX10_agrees 7 = .ok (.getfield 80, 3) := by decide +kernel
theorem dX10_agrees_10 : decode cX10_agrees 10 = .ok (.iload_n 1, 1) := by decide +kernel
theorem dX10_agrees_11 : decode cX10_agrees 11 = .ok (.iaload, 1) := by decide +kernel
theorem dX10_agrees_12 : decode cX10_agrees 12 = .ok (.istore_n 2, 1) := by decide +kernel
theorem dX10_agrees_13 : decode cX10_agrees 13 = .ok (.aload_n 0, 1) := by decide +kernel
theorem dX10_agrees_14 : decode cX10_agrees 14 = .ok (.getfield 19, 3) := by decide +kernel
theorem dX10_agrees_17 : decode cX10_agrees 17 = .ok (.iload_n 2, 1) := by decide +kernel
theorem dX10_agrees_18 : decode cX10_agrees 18 = .ok (.iaload, 1) := by decide +kernel
theorem dX10_agrees_19 : decode cX10_agrees 19 = .ok (.iconst (-1), 1) := by decide +kernel
theorem dX10_agrees_20 : decode cX10_agrees 20 = .ok (.if_icmp .ne 35, 3) := by decide +kernel
theorem dX10_agrees_23 : decode cX10_agrees 23 = .ok (.aload_n 0, 1) := by decide +kernel
theorem dX10_agrees_24 : decode cX10_agrees 24 = .ok (.getfield 15, 3) := by decide +kernel
theorem dX10_agrees_27 : decode cX10_agrees 27 = .ok (.iload_n 2, 1) := by decide +kernel
theorem dX10_agrees_28 : decode cX10_agrees 28 = .ok (.iaload, 1) := by decide +kernel
theorem dX10_agrees_29 : decode cX10_agrees 29 = .ok (.aload_n 0, 1) := by decide +kernel
theorem dX10_agrees_30 : decode cX10_agrees 30 = .ok (.getfield 3, 3) := by decide +kernel
theorem dX10_agrees_33 : decode cX10_agrees 33 = .ok (.getfield 64, 3) := by decide +kernel
theorem dX10_agrees_36 : decode cX10_agrees 36 = .ok (.getfield 83, 3) := by decide +kernel
theorem dX10_agrees_39 : decode cX10_agrees 39 = .ok (.iload_n 1, 1) := by decide +kernel
theorem dX10_agrees_40 : decode cX10_agrees 40 = .ok (.iaload, 1) := by decide +kernel
theorem dX10_agrees_41 : decode cX10_agrees 41 = .ok (.iadd, 1) := by decide +kernel
theorem dX10_agrees_42 : decode cX10_agrees 42 = .ok (.iconst 0, 1) := by decide +kernel
theorem dX10_agrees_43 : decode cX10_agrees 43 = .ok (.bipush 99, 2) := by decide +kernel
theorem dX10_agrees_45 : decode cX10_agrees 45 = .ok (.invokestatic 86, 3) := by decide +kernel
theorem dX10_agrees_48 : decode cX10_agrees 48 = .ok (.ifCond .eq 7, 3) := by decide +kernel
theorem dX10_agrees_51 : decode cX10_agrees 51 = .ok (.iconst 1, 1) := by decide +kernel
theorem dX10_agrees_52 : decode cX10_agrees 52 = .ok (.goto 4, 3) := by decide +kernel
theorem dX10_agrees_55 : decode cX10_agrees 55 = .ok (.iconst 0, 1) := by decide +kernel
theorem dX10_agrees_56 : decode cX10_agrees 56 = .ok (.ireturn, 1) := by decide +kernel
theorem dX10_allAgree_0 : decode cX10_allAgree 0 = .ok (.iconst 0, 1) := by decide +kernel
theorem dX10_allAgree_1 : decode cX10_allAgree 1 = .ok (.istore_n 2, 1) := by decide +kernel
theorem dX10_allAgree_2 : decode cX10_allAgree 2 = .ok (.iload_n 2, 1) := by decide +kernel
theorem dX10_allAgree_3 : decode cX10_allAgree 3 = .ok (.aload_n 0, 1) := by decide +kernel
theorem dX10_allAgree_4 : decode cX10_allAgree 4 = .ok (.getfield 3, 3) := by decide +kernel
theorem dX10_allAgree_7 : decode cX10_allAgree 7 = .ok (.getfield 64, 3) := by decide +kernel
theorem dX10_allAgree_10 : decode cX10_allAgree 10 = .ok (.getfield 77, 3) := by decide +kernel
theorem dX10_allAgree_13 : decode cX10_allAgree 13 = .ok (.iload_n 1, 1) := by decide +kernel
theorem dX10_allAgree_14 : decode cX10_allAgree 14 = .ok (.iaload, 1) := by decide +kernel
theorem dX10_allAgree_15 : decode cX10_allAgree 15 = .ok (.if_icmp .ge 24, 3) := by decide +kernel
theorem dX10_allAgree_18 : decode cX10_allAgree 18 = .ok (.aload_n 0, 1) := by decide +kernel
theorem dX10_allAgree_19 : decode cX10_allAgree 19 = .ok (.bipush 6, 2) := by decide +kernel
theorem dX10_allAgree_21 : decode cX10_allAgree 21 = .ok (.iload_n 1, 1) := by decide +kernel
theorem dX10_allAgree_22 : decode cX10_allAgree 22 = .ok (.imul, 1) := by decide +kernel
theorem dX10_allAgree_23 : decode cX10_allAgree 23 = .ok (.iload_n 2, 1) := by decide +kernel
theorem dX10_allAgree_24 : decode cX10_allAgree 24 = .ok (.iadd, 1) := by decide +kernel
theorem dX10_allAgree_25 : decode cX10_allAgree 25 = .ok (.invokevirtual 90, 3) := by decide +kernel
theorem dX10_allAgree_28 : decode cX10_allAgree 28 = .ok (.ifCond .ne 5, 3) := by decide +kernel
theorem dX10_allAgree_31 : decode cX10_allAgree 31 = .ok (.iconst 0, 1) := by decide +kernel
theorem dX10_allAgree_32 : decode cX10_allAgree 32 = .ok (.ireturn, 1) := by decide +kernel
theorem dX10_allAgree_33 : decode cX10_allAgree 33 = .ok (.iinc 2 1, 3) := by decide +kernel
theorem dX10_allAgree_36 : decode cX10_allAgree 36 = .ok (.goto (-34), 3) := by decide +kernel
theorem dX10_allAgree_39 : decode cX10_allAgree 39 = .ok (.iconst 1, 1) := by decide +kernel
theorem dX10_allAgree_40 : decode cX10_allAgree 40 = .ok (.ireturn, 1) := by decide +kernel
theorem dX10_canBegin_0 : decode cX10_canBegin 0 = .ok (.aload_n 0, 1) := by decide +kernel
theorem dX10_canBegin_1 : decode cX10_canBegin 1 = .ok (.getfield 25, 3) := by decide +kernel
theorem dX10_canBegin_4 : decode cX10_canBegin 4 = .ok (.bipush 8, 2) := by decide +kernel
theorem dX10_canBegin_6 : decode cX10_canBegin 6 = .ok (.baload, 1) := by decide +kernel
theorem dX10_canBegin_7 : decode cX10_canBegin 7 = .ok (.ifCond .ne 46, 3) := by decide +kernel
theorem dX10_canBegin_10 : decode cX10_canBegin 10 = .ok (.aload_n 0, 1) := by decide +kernel
theorem dX10_canBegin_11 : decode cX10_canBegin 11 = .ok (.getfield 29, 3) := by decide +kernel
theorem dX10_canBegin_14 : decode cX10_canBegin 14 = .ok (.iload_n 1, 1) := by decide +kernel
theorem dX10_canBegin_15 : decode cX10_canBegin 15 = .ok (.iaload, 1) := by decide +kernel
theorem dX10_canBegin_16 : decode cX10_canBegin 16 = .ok (.ifCond .eq 33, 3) := by decide +kernel
theorem dX10_canBegin_19 : decode cX10_canBegin 19 = .ok (.aload_n 0, 1) := by decide +kernel
theorem dX10_canBegin_20 : decode cX10_canBegin 20 = .ok (.getfield 29, 3) := by decide +kernel
theorem dX10_canBegin_23 : decode cX10_canBegin 23 = .ok (.iload_n 1, 1) := by decide +kernel
theorem dX10_canBegin_24 : decode cX10_canBegin 24 = .ok (.iaload, 1) := by decide +kernel
theorem dX10_canBegin_25 : decode cX10_canBegin 25 = .ok (.iconst 1, 1) := by decide +kernel
theorem dX10_canBegin_26 : decode cX10_canBegin 26 = .ok (.if_icmp .eq 27, 3) := by decide +kernel
theorem dX10_canBegin_29 : decode cX10_canBegin 29 = .ok (.aload_n 0, 1) := by decide +kernel
theorem dX10_canBegin_30 : decode cX10_canBegin 30 = .ok (.iload_n 1, 1) := by decide +kernel
theorem dX10_canBegin_31 : decode cX10_canBegin 31 = .ok (.invokevirtual 94, 3) := by decide +kernel
theorem dX10_canBegin_34 : decode cX10_canBegin 34 = .ok (.aload_n 0, 1) := by decide +kernel
theorem dX10_canBegin_35 : decode cX10_canBegin 35 = .ok (.getfield 3, 3) := by decide +kernel
theorem dX10_canBegin_38 : decode cX10_canBegin 38 = .ok (.getfield 64, 3) := by decide +kernel
theorem dX10_canBegin_41 : decode cX10_canBegin 41 = .ok (.getfield 77, 3) := by decide +kernel
theorem dX10_canBegin_44 : decode cX10_canBegin 44 = .ok (.iload_n 1, 1) := by decide +kernel
theorem dX10_canBegin_45 : decode cX10_canBegin 45 = .ok (.iaload, 1) := by decide +kernel
theorem dX10_canBegin_46 : decode cX10_canBegin 46 = .ok (.if_icmp .ne 7, 3) := by decide +kernel
theorem dX10_canBegin_49 : decode cX10_canBegin 49 = .ok (.iconst 1, 1) := by decide +kernel
theorem dX10_canBegin_50 : decode cX10_canBegin 50 = .ok (.goto 4, 3) := by decide +kernel
theorem dX10_canBegin_53 : decode cX10_canBegin 53 = .ok (.iconst 0, 1) := by decide +kernel
theorem dX10_canBegin_54 : decode cX10_canBegin 54 = .ok (.ireturn, 1) := by decide +kernel
theorem dX10_beginDeal_0 : decode cX10_beginDeal 0 = .ok (.aload_n 0, 1) := by decide +kernel
theorem dX10_beginDeal_1 : decode cX10_beginDeal 1 = .ok (.getfield 29, 3) := by decide +kernel
theorem dX10_beginDeal_4 : decode cX10_beginDeal 4 = .ok (.iload_n 1, 1) := by decide +kernel
theorem dX10_beginDeal_5 : decode cX10_beginDeal 5 = .ok (.iconst 1, 1) := by decide +kernel
theorem dX10_beginDeal_6 : decode cX10_beginDeal 6 = .ok (.iastore, 1) := by decide +kernel
theorem dX10_beginDeal_7 : decode cX10_beginDeal 7 = .ok (.aload_n 0, 1) := by decide +kernel
theorem dX10_beginDeal_8 : decode cX10_beginDeal 8 = .ok (.getfield 32, 3) := by decide +kernel
theorem dX10_beginDeal_11 : decode cX10_beginDeal 11 = .ok (.iload_n 1, 1) := by decide +kernel
theorem dX10_beginDeal_12 : decode cX10_beginDeal 12 = .ok (.aload_n 0, 1) := by decide +kernel
theorem dX10_beginDeal_13 : decode cX10_beginDeal 13 = .ok (.getfield 41, 3) := by decide +kernel
theorem dX10_beginDeal_16 : decode cX10_beginDeal 16 = .ok (.iastore, 1) := by decide +kernel
theorem dX10_beginDeal_17 : decode cX10_beginDeal 17 = .ok (.bipush 6, 2) := by decide +kernel
theorem dX10_beginDeal_19 : decode cX10_beginDeal 19 = .ok (.iload_n 1, 1) := by decide +kernel
theorem dX10_beginDeal_20 : decode cX10_beginDeal 20 = .ok (.imul, 1) := by decide +kernel
theorem dX10_beginDeal_21 : decode cX10_beginDeal 21 = .ok (.istore_n 2, 1) := by decide +kernel
theorem dX10_beginDeal_22 : decode cX10_beginDeal 22 = .ok (.iload_n 2, 1) := by decide +kernel
theorem dX10_beginDeal_23 : decode cX10_beginDeal 23 = .ok (.bipush 6, 2) := by decide +kernel
theorem dX10_beginDeal_25 : decode cX10_beginDeal 25 = .ok (.iload_n 1, 1) := by decide +kernel
theorem dX10_beginDeal_26 : decode cX10_beginDeal 26 = .ok (.iconst 1, 1) := by decide +kernel
theorem dX10_beginDeal_27 : decode cX10_beginDeal 27 = .ok (.iadd, 1) := by decide +kernel
theorem dX10_beginDeal_28 : decode cX10_beginDeal 28 = .ok (.imul, 1) := by decide +kernel
theorem dX10_beginDeal_29 : decode cX10_beginDeal 29 = .ok (.if_icmp .ge 23, 3) := by decide +kernel
theorem dX10_beginDeal_32 : decode cX10_beginDeal 32 = .ok (.aload_n 0, 1) := by decide +kernel
theorem dX10_beginDeal_33 : decode cX10_beginDeal 33 = .ok (.getfield 35, 3) := by decide +kernel
theorem dX10_beginDeal_36 : decode cX10_beginDeal 36 = .ok (.iload_n 2, 1) := by decide +kernel
theorem dX10_beginDeal_37 : decode cX10_beginDeal 37 = .ok (.iconst 0, 1) := by decide +kernel
theorem dX10_beginDeal_38 : decode cX10_beginDeal 38 = .ok (.iastore, 1) := by decide +kernel
theorem dX10_beginDeal_39 : decode cX10_beginDeal 39 = .ok (.aload_n 0, 1) := by decide +kernel
theorem dX10_beginDeal_40 : decode cX10_beginDeal 40 = .ok (.getfield 38, 3) := by decide +kernel
theorem dX10_beginDeal_43 : decode cX10_beginDeal 43 = .ok (.iload_n 2, 1) := by decide +kernel
theorem dX10_beginDeal_44 : decode cX10_beginDeal 44 = .ok (.iconst 0, 1) := by decide +kernel
theorem dX10_beginDeal_45 : decode cX10_beginDeal 45 = .ok (.bastore, 1) := by decide +kernel
theorem dX10_beginDeal_46 : decode cX10_beginDeal 46 = .ok (.iinc 2 1, 3) := by decide +kernel
theorem dX10_beginDeal_49 : decode cX10_beginDeal 49 = .ok (.goto (-27), 3) := by decide +kernel
theorem dX10_beginDeal_52 : decode cX10_beginDeal 52 = .ok (.return_, 1) := by decide +kernel
theorem dX10_turn_0 : decode cX10_turn 0 = .ok (.aload_n 0, 1) := by decide +kernel
theorem dX10_turn_1 : decode cX10_turn 1 = .ok (.getfield 25, 3) := by decide +kernel
theorem dX10_turn_4 : decode cX10_turn 4 = .ok (.iload_n 1, 1) := by decide +kernel
theorem dX10_turn_5 : decode cX10_turn 5 = .ok (.aload_n 0, 1) := by decide +kernel
theorem dX10_turn_6 : decode cX10_turn 6 = .ok (.getfield 25, 3) := by decide +kernel
theorem dX10_turn_9 : decode cX10_turn 9 = .ok (.iload_n 1, 1) := by decide +kernel
theorem dX10_turn_10 : decode cX10_turn 10 = .ok (.baload, 1) := by decide +kernel
theorem dX10_turn_11 : decode cX10_turn 11 = .ok (.ifCond .ne 7, 3) := by decide +kernel
theorem dX10_turn_14 : decode cX10_turn 14 = .ok (.iconst 1, 1) := by decide +kernel
theorem dX10_turn_15 : decode cX10_turn 15 = .ok (.goto 4, 3) := by decide +kernel
theorem dX10_turn_18 : decode cX10_turn 18 = .ok (.iconst 0, 1) := by decide +kernel
theorem dX10_turn_19 : decode cX10_turn 19 = .ok (.bastore, 1) := by decide +kernel
theorem dX10_turn_20 : decode cX10_turn 20 = .ok (.iconst 0, 1) := by decide +kernel
theorem dX10_turn_21 : decode cX10_turn 21 = .ok (.istore_n 2, 1) := by decide +kernel
theorem dX10_turn_22 : decode cX10_turn 22 = .ok (.iconst 0, 1) := by decide +kernel
theorem dX10_turn_23 : decode cX10_turn 23 = .ok (.istore_n 3, 1) := by decide +kernel
theorem dX10_turn_24 : decode cX10_turn 24 = .ok (.iload_n 3, 1) := by decide +kernel
theorem dX10_turn_25 : decode cX10_turn 25 = .ok (.aload_n 0, 1) := by decide +kernel
theorem dX10_turn_26 : decode cX10_turn 26 = .ok (.getfield 3, 3) := by decide +kernel
theorem dX10_turn_29 : decode cX10_turn 29 = .ok (.getfield 64, 3) := by decide +kernel
theorem dX10_turn_32 : decode cX10_turn 32 = .ok (.getfield 74, 3) := by decide +kernel
theorem dX10_turn_35 : decode cX10_turn 35 = .ok (.if_icmp .ge 47, 3) := by decide +kernel
theorem dX10_turn_38 : decode cX10_turn 38 = .ok (.iload_n 1, 1) := by decide +kernel
theorem dX10_turn_39 : decode cX10_turn 39 = .ok (.bipush 8, 2) := by decide +kernel
theorem dX10_turn_41 : decode cX10_turn 41 = .ok (.if_icmp .ne 41, 3) := by decide +kernel
theorem dX10_turn_44 : decode cX10_turn 44 = .ok (.aload_n 0, 1) := by decide +kernel
theorem dX10_turn_45 : decode cX10_turn 45 = .ok (.getfield 25, 3) := by decide +kernel
theorem dX10_turn_48 : decode cX10_turn 48 = .ok (.iload_n 1, 1) := by decide +kernel
theorem dX10_turn_49 : decode cX10_turn 49 = .ok (.baload, 1) := by decide +kernel
theorem dX10_turn_50 : decode cX10_turn 50 = .ok (.ifCond .ne 32, 3) := by decide +kernel
theorem dX10_turn_53 : decode cX10_turn 53 = .ok (.aload_n 0, 1) := by decide +kernel
theorem dX10_turn_54 : decode cX10_turn 54 = .ok (.getfield 29, 3) := by decide +kernel
theorem dX10_turn_57 : decode cX10_turn 57 = .ok (.iload_n 3, 1) := by decide +kernel
theorem dX10_turn_58 : decode cX10_turn 58 = .ok (.iaload, 1) := by decide +kernel
theorem dX10_turn_59 : decode cX10_turn 59 = .ok (.iconst 1, 1) := by decide +kernel
theorem dX10_turn_60 : decode cX10_turn 60 = .ok (.if_icmp .eq 6, 3) := by decide +kernel
theorem dX10_turn_63 : decode cX10_turn 63 = .ok (.goto 13, 3) := by decide +kernel
theorem dX10_turn_66 : decode cX10_turn 66 = .ok (.aload_n 0, 1) := by decide +kernel
theorem dX10_turn_67 : decode cX10_turn 67 = .ok (.getfield 29, 3) := by decide +kernel
theorem dX10_turn_70 : decode cX10_turn 70 = .ok (.iload_n 3, 1) := by decide +kernel
theorem dX10_turn_71 : decode cX10_turn 71 = .ok (.iconst 3, 1) := by decide +kernel
theorem dX10_turn_72 : decode cX10_turn 72 = .ok (.iastore, 1) := by decide +kernel
theorem dX10_turn_73 : decode cX10_turn 73 = .ok (.iinc 2 1, 3) := by decide +kernel
theorem dX10_turn_76 : decode cX10_turn 76 = .ok (.iinc 3 1, 3) := by decide +kernel
theorem dX10_turn_79 : decode cX10_turn 79 = .ok (.goto (-55), 3) := by decide +kernel
theorem dX10_turn_82 : decode cX10_turn 82 = .ok (.iload_n 2, 1) := by decide +kernel
theorem dX10_turn_83 : decode cX10_turn 83 = .ok (.ireturn, 1) := by decide +kernel
theorem dX10_carry_0 : decode cX10_carry 0 = .ok (.aload_n 0, 1) := by decide +kernel
theorem dX10_carry_1 : decode cX10_carry 1 = .ok (.getfield 3, 3) := by decide +kernel
theorem dX10_carry_4 : decode cX10_carry 4 = .ok (.getfield 64, 3) := by decide +kernel
theorem dX10_carry_7 : decode cX10_carry 7 = .ok (.getfield 98, 3) := by decide +kernel
theorem dX10_carry_10 : decode cX10_carry 10 = .ok (.iload_n 1, 1) := by decide +kernel
theorem dX10_carry_11 : decode cX10_carry 11 = .ok (.iaload, 1) := by decide +kernel
theorem dX10_carry_12 : decode cX10_carry 12 = .ok (.istore_n 2, 1) := by decide +kernel
theorem dX10_carry_13 : decode cX10_carry 13 = .ok (.aload_n 0, 1) := by decide +kernel
theorem dX10_carry_14 : decode cX10_carry 14 = .ok (.getfield 3, 3) := by decide +kernel
theorem dX10_carry_17 : decode cX10_carry 17 = .ok (.getfield 64, 3) := by decide +kernel
theorem dX10_carry_20 : decode cX10_carry 20 = .ok (.getfield 101, 3) := by decide +kernel
theorem dX10_carry_23 : decode cX10_carry 23 = .ok (.iload_n 1, 1) := by decide +kernel
theorem dX10_carry_24 : decode cX10_carry 24 = .ok (.iaload, 1) := by decide +kernel
theorem dX10_carry_25 : decode cX10_carry 25 = .ok (.istore_n 3, 1) := by decide +kernel
theorem dX10_carry_26 : decode cX10_carry 26 = .ok (.iload_n 2, 1) := by decide +kernel
theorem dX10_carry_27 : decode cX10_carry 27 = .ok (.bipush 6, 2) := by decide +kernel
theorem dX10_carry_29 : decode cX10_carry 29 = .ok (.if_icmp .ne 11, 3) := by decide +kernel
theorem dX10_carry_32 : decode cX10_carry 32 = .ok (.aload_n 0, 1) := by decide +kernel
theorem dX10_carry_33 : decode cX10_carry 33 = .ok (.iload_n 3, 1) := by decide +kernel
theorem dX10_carry_34 : decode cX10_carry 34 = .ok (.invokevirtual 104, 3) := by decide +kernel
theorem dX10_carry_37 : decode cX10_carry 37 = .ok (.goto 28, 3) := by decide +kernel
theorem dX10_carry_40 : decode cX10_carry 40 = .ok (.aload_n 0, 1) := by decide +kernel
theorem dX10_carry_41 : decode cX10_carry 41 = .ok (.getfield 25, 3) := by decide +kernel
theorem dX10_carry_44 : decode cX10_carry 44 = .ok (.iload_n 3, 1) := by decide +kernel
theorem dX10_carry_45 : decode cX10_carry 45 = .ok (.baload, 1) := by decide +kernel
theorem dX10_carry_46 : decode cX10_carry 46 = .ok (.iload_n 2, 1) := by decide +kernel
theorem dX10_carry_47 : decode cX10_carry 47 = .ok (.bipush 8, 2) := by decide +kernel
theorem dX10_carry_49 : decode cX10_carry 49 = .ok (.if_icmp .ne 7, 3) := by decide +kernel
theorem dX10_carry_52 : decode cX10_carry 52 = .ok (.iconst 1, 1) := by decide +kernel
theorem dX10_carry_53 : decode cX10_carry 53 = .ok (.goto 4, 3) := by decide +kernel
theorem dX10_carry_56 : decode cX10_carry 56 = .ok (.iconst 0, 1) := by decide +kernel
theorem dX10_carry_57 : decode cX10_carry 57 = .ok (.if_icmp .ne 7, 3) := by decide +kernel
theorem dX10_carry_60 : decode cX10_carry 60 = .ok (.iconst 1, 1) := by decide +kernel
theorem dX10_carry_61 : decode cX10_carry 61 = .ok (.goto 4, 3) := by decide +kernel
theorem dX10_carry_64 : decode cX10_carry 64 = .ok (.iconst 0, 1) := by decide +kernel
theorem dX10_carry_65 : decode cX10_carry 65 = .ok (.istore 4, 2) := by decide +kernel
theorem dX10_carry_67 : decode cX10_carry 67 = .ok (.iload 4, 2) := by decide +kernel
theorem dX10_carry_69 : decode cX10_carry 69 = .ok (.ifCond .eq 17, 3) := by decide +kernel
theorem dX10_carry_72 : decode cX10_carry 72 = .ok (.iload_n 2, 1) := by decide +kernel
theorem dX10_carry_73 : decode cX10_carry 73 = .ok (.bipush 6, 2) := by decide +kernel
theorem dX10_carry_75 : decode cX10_carry 75 = .ok (.if_icmp .ne 11, 3) := by decide +kernel
theorem dX10_carry_78 : decode cX10_carry 78 = .ok (.aload_n 0, 1) := by decide +kernel
theorem dX10_carry_79 : decode cX10_carry 79 = .ok (.iload_n 3, 1) := by decide +kernel
theorem dX10_carry_80 : decode cX10_carry 80 = .ok (.invokevirtual 107, 3) := by decide +kernel
theorem dX10_carry_83 : decode cX10_carry 83 = .ok (.goto 14, 3) := by decide +kernel
theorem dX10_carry_86 : decode cX10_carry 86 = .ok (.iload 4, 2) := by decide +kernel
theorem dX10_carry_88 : decode cX10_carry 88 = .ok (.ifCond .eq 9, 3) := by decide +kernel
theorem dX10_carry_91 : decode cX10_carry 91 = .ok (.aload_n 0, 1) := by decide +kernel
theorem dX10_carry_92 : decode cX10_carry 92 = .ok (.iload_n 3, 1) := by decide +kernel
theorem dX10_carry_93 : decode cX10_carry 93 = .ok (.invokevirtual 111, 3) := by decide +kernel
theorem dX10_carry_96 : decode cX10_carry 96 = .ok (.pop, 1) := by decide +kernel
theorem dX10_carry_97 : decode cX10_carry 97 = .ok (.iload 4, 2) := by decide +kernel
theorem dX10_carry_99 : decode cX10_carry 99 = .ok (.ireturn, 1) := by decide +kernel
theorem dX10_told_0 : decode cX10_told 0 = .ok (.iload_n 1, 1) := by decide +kernel
theorem dX10_told_1 : decode cX10_told 1 = .ok (.tableswitch 99 1 14 #[92, 99, 99, 99, 99, 99, 99, 99, 99, 99, 71, 76, 81, 86], 71) := by decide +kernel
theorem dX10_told_72 : decode cX10_told 72 = .ok (.aload_n 0, 1) := by decide +kernel
theorem dX10_told_73 : decode cX10_told 73 = .ok (.getfield 41, 3) := by decide +kernel
theorem dX10_told_76 : decode cX10_told 76 = .ok (.ireturn, 1) := by decide +kernel
theorem dX10_told_77 : decode cX10_told 77 = .ok (.aload_n 0, 1) := by decide +kernel
theorem dX10_told_78 : decode cX10_told 78 = .ok (.getfield 45, 3) := by decide +kernel
theorem dX10_told_81 : decode cX10_told 81 = .ok (.ireturn, 1) := by decide +kernel
theorem dX10_told_82 : decode cX10_told 82 = .ok (.aload_n 0, 1) := by decide +kernel
theorem dX10_told_83 : decode cX10_told 83 = .ok (.invokevirtual 114, 3) := by decide +kernel
theorem dX10_told_86 : decode cX10_told 86 = .ok (.ireturn, 1) := by decide +kernel
theorem dX10_told_87 : decode cX10_told 87 = .ok (.aload_n 0, 1) := by decide +kernel
theorem dX10_told_88 : decode cX10_told 88 = .ok (.iload_n 2, 1) := by decide +kernel
theorem dX10_told_89 : decode cX10_told 89 = .ok (.invokevirtual 118, 3) := by decide +kernel
theorem dX10_told_92 : decode cX10_told 92 = .ok (.ireturn, 1) := by decide +kernel
theorem dX10_told_93 : decode cX10_told 93 = .ok (.aload_n 0, 1) := by decide +kernel
theorem dX10_told_94 : decode cX10_told 94 = .ok (.getfield 15, 3) := by decide +kernel
theorem dX10_told_97 : decode cX10_told 97 = .ok (.iload_n 2, 1) := by decide +kernel
theorem dX10_told_98 : decode cX10_told 98 = .ok (.iaload, 1) := by decide +kernel
theorem dX10_told_99 : decode cX10_told 99 = .ok (.ireturn, 1) := by decide +kernel
theorem dX10_told_100 : decode cX10_told 100 = .ok (.aload_n 0, 1) := by decide +kernel
theorem dX10_told_101 : decode cX10_told 101 = .ok (.getfield 25, 3) := by decide +kernel
theorem dX10_told_104 : decode cX10_told 104 = .ok (.iload_n 2, 1) := by decide +kernel
theorem dX10_told_105 : decode cX10_told 105 = .ok (.baload, 1) := by decide +kernel
theorem dX10_told_106 : decode cX10_told 106 = .ok (.ifCond .eq 7, 3) := by decide +kernel
theorem dX10_told_109 : decode cX10_told 109 = .ok (.iconst 0, 1) := by decide +kernel
theorem dX10_told_110 : decode cX10_told 110 = .ok (.goto 4, 3) := by decide +kernel
theorem dX10_told_113 : decode cX10_told 113 = .ok (.iconst 1, 1) := by decide +kernel
theorem dX10_told_114 : decode cX10_told 114 = .ok (.ireturn, 1) := by decide +kernel
theorem dX10_reckon_0 : decode cX10_reckon 0 = .ok (.iconst 0, 1) := by decide +kernel
theorem dX10_reckon_1 : decode cX10_reckon 1 = .ok (.istore_n 3, 1) := by decide +kernel
theorem dX10_reckon_2 : decode cX10_reckon 2 = .ok (.iload_n 1, 1) := by decide +kernel
theorem dX10_reckon_3 : decode cX10_reckon 3 = .ok (.istore 4, 2) := by decide +kernel
theorem dX10_reckon_5 : decode cX10_reckon 5 = .ok (.iload 4, 2) := by decide +kernel
theorem dX10_reckon_7 : decode cX10_reckon 7 = .ok (.iload_n 2, 1) := by decide +kernel
theorem dX10_reckon_8 : decode cX10_reckon 8 = .ok (.if_icmp .ge 275, 3) := by decide +kernel
theorem dX10_reckon_11 : decode cX10_reckon 11 = .ok (.aload_n 0, 1) := by decide +kernel
theorem dX10_reckon_12 : decode cX10_reckon 12 = .ok (.getfield 3, 3) := by decide +kernel
theorem dX10_reckon_15 : decode cX10_reckon 15 = .ok (.getfield 64, 3) := by decide +kernel
theorem dX10_reckon_18 : decode cX10_reckon 18 = .ok (.getfield 121, 3) := by decide +kernel
theorem dX10_reckon_21 : decode cX10_reckon 21 = .ok (.iload 4, 2) := by decide +kernel
theorem dX10_reckon_23 : decode cX10_reckon 23 = .ok (.iaload, 1) := by decide +kernel
theorem dX10_reckon_24 : decode cX10_reckon 24 = .ok (.istore 5, 2) := by decide +kernel
theorem dX10_reckon_26 : decode cX10_reckon 26 = .ok (.iinc 4 1, 3) := by decide +kernel
theorem dX10_reckon_29 : decode cX10_reckon 29 = .ok (.iload 5, 2) := by decide +kernel
theorem dX10_reckon_31 : decode cX10_reckon 31 = .ok (.bipush 32, 2) := by decide +kernel
theorem dX10_reckon_33 : decode cX10_reckon 33 = .ok (.if_icmp .eq 30, 3) := by decide +kernel
theorem dX10_reckon_36 : decode cX10_reckon 36 = .ok (.iload 5, 2) := by decide +kernel
theorem dX10_reckon_38 : decode cX10_reckon 38 = .ok (.iconst 1, 1) := by decide +kernel
theorem dX10_reckon_39 : decode cX10_reckon 39 = .ok (.if_icmp .eq 24, 3) := by decide +kernel
theorem dX10_reckon_42 : decode cX10_reckon 42 = .ok (.iload 5, 2) := by decide +kernel
theorem dX10_reckon_44 : decode cX10_reckon 44 = .ok (.bipush 11, 2) := by decide +kernel
theorem dX10_reckon_46 : decode cX10_reckon 46 = .ok (.if_icmp .lt 10, 3) := by decide +kernel
theorem dX10_reckon_49 : decode cX10_reckon 49 = .ok (.iload 5, 2) := by decide +kernel
theorem dX10_reckon_51 : decode cX10_reckon 51 = .ok (.bipush 14, 2) := by decide +kernel
theorem dX10_reckon_53 : decode cX10_reckon 53 = .ok (.if_icmp .le 10, 3) := by decide +kernel
theorem dX10_reckon_56 : decode cX10_reckon 56 = .ok (.iload 5, 2) := by decide +kernel
theorem dX10_reckon_58 : decode cX10_reckon 58 = .ok (.bipush 16, 2) := by decide +kernel
theorem dX10_reckon_60 : decode cX10_reckon 60 = .ok (.if_icmp .ne 118, 3) := by decide +kernel
theorem dX10_reckon_63 : decode cX10_reckon 63 = .ok (.iload 5, 2) := by decide +kernel
theorem dX10_reckon_65 : decode cX10_reckon 65 = .ok (.iconst 1, 1) := by decide +kernel
theorem dX10_reckon_66 : decode cX10_reckon 66 = .ok (.if_icmp .eq 17, 3) := by decide +kernel
theorem dX10_reckon_69 : decode cX10_reckon 69 = .ok (.iload 5, 2) := by decide +kernel
theorem dX10_reckon_71 : decode cX10_reckon 71 = .ok (.bipush 14, 2) := by decide +kernel
theorem dX10_reckon_73 : decode cX10_reckon 73 = .ok (.if_icmp .eq 10, 3) := by decide +kernel
theorem dX10_reckon_76 : decode cX10_reckon 76 = .ok (.iload 5, 2) := by decide +kernel
theorem dX10_reckon_78 : decode cX10_reckon 78 = .ok (.bipush 16, 2) := by decide +kernel
theorem dX10_reckon_80 : decode cX10_reckon 80 = .ok (.if_icmp .ne 7, 3) := by decide +kernel
theorem dX10_reckon_83 : decode cX10_reckon 83 = .ok (.iconst 1, 1) := by decide +kernel
theorem dX10_reckon_84 : decode cX10_reckon 84 = .ok (.goto 4, 3) := by decide +kernel
theorem dX10_reckon_87 : decode cX10_reckon 87 = .ok (.iconst 0, 1) := by decide +kernel
theorem dX10_reckon_88 : decode cX10_reckon 88 = .ok (.istore 6, 2) := by decide +kernel
theorem dX10_reckon_90 : decode cX10_reckon 90 = .ok (.aload_n 0, 1) := by decide +kernel
theorem dX10_reckon_91 : decode cX10_reckon 91 = .ok (.getfield 3, 3) := by decide +kernel
theorem dX10_reckon_94 : decode cX10_reckon 94 = .ok (.getfield 124, 3) := by decide +kernel
theorem dX10_reckon_97 : decode cX10_reckon 97 = .ok (.iload_n 3, 1) := by decide +kernel
theorem dX10_reckon_98 : decode cX10_reckon 98 = .ok (.iload 5, 2) := by decide +kernel
theorem dX10_reckon_100 : decode cX10_reckon 100 = .ok (.bipush 32, 2) := by decide +kernel
theorem dX10_reckon_102 : decode cX10_reckon 102 = .ok (.if_icmp .ne 19, 3) := by decide +kernel
theorem dX10_reckon_105 : decode cX10_reckon 105 = .ok (.aload_n 0, 1) := by decide +kernel
theorem dX10_reckon_106 : decode cX10_reckon 106 = .ok (.getfield 3, 3) := by decide +kernel
theorem dX10_reckon_109 : decode cX10_reckon 109 = .ok (.getfield 64, 3) := by decide +kernel
theorem dX10_reckon_112 : decode cX10_reckon 112 = .ok (.getfield 121, 3) := by decide +kernel
theorem dX10_reckon_115 : decode cX10_reckon 115 = .ok (.iload 4, 2) := by decide +kernel
theorem dX10_reckon_117 : decode cX10_reckon 117 = .ok (.iaload, 1) := by decide +kernel
theorem dX10_reckon_118 : decode cX10_reckon 118 = .ok (.goto 31, 3) := by decide +kernel
theorem dX10_reckon_121 : decode cX10_reckon 121 = .ok (.aload_n 0, 1) := by decide +kernel
theorem dX10_reckon_122 : decode cX10_reckon 122 = .ok (.iload 5, 2) := by decide +kernel
theorem dX10_reckon_124 : decode cX10_reckon 124 = .ok (.iload 6, 2) := by decide +kernel
theorem dX10_reckon_126 : decode cX10_reckon 126 = .ok (.ifCond .eq 19, 3) := by decide +kernel
theorem dX10_reckon_129 : decode cX10_reckon 129 = .ok (.aload_n 0, 1) := by decide +kernel
theorem dX10_reckon_130 : decode cX10_reckon 130 = .ok (.getfield 3, 3) := by decide +kernel
theorem dX10_reckon_133 : decode cX10_reckon 133 = .ok (.getfield 64, 3) := by decide +kernel
theorem dX10_reckon_136 : decode cX10_reckon 136 = .ok (.getfield 121, 3) := by decide +kernel
theorem dX10_reckon_139 : decode cX10_reckon 139 = .ok (.iload 4, 2) := by decide +kernel
theorem dX10_reckon_141 : decode cX10_reckon 141 = .ok (.iaload, 1) := by decide +kernel
theorem dX10_reckon_142 : decode cX10_reckon 142 = .ok (.goto 4, 3) := by decide +kernel
theorem dX10_reckon_145 : decode cX10_reckon 145 = .ok (.iconst 0, 1) := by decide +kernel
theorem dX10_reckon_146 : decode cX10_reckon 146 = .ok (.invokevirtual 127, 3) := by decide +kernel
theorem dX10_reckon_149 : decode cX10_reckon 149 = .ok (.iastore, 1) := by decide +kernel
theorem dX10_reckon_150 : decode cX10_reckon 150 = .ok (.iload 4, 2) := by decide +kernel
theorem dX10_reckon_152 : decode cX10_reckon 152 = .ok (.iload 6, 2) := by decide +kernel
theorem dX10_reckon_154 : decode cX10_reckon 154 = .ok (.ifCond .ne 10, 3) := by decide +kernel
theorem dX10_reckon_157 : decode cX10_reckon 157 = .ok (.iload 5, 2) := by decide +kernel
theorem dX10_reckon_159 : decode cX10_reckon 159 = .ok (.bipush 32, 2) := by decide +kernel
theorem dX10_reckon_161 : decode cX10_reckon 161 = .ok (.if_icmp .ne 7, 3) := by decide +kernel
theorem dX10_reckon_164 : decode cX10_reckon 164 = .ok (.iconst 1, 1) := by decide +kernel
theorem dX10_reckon_165 : decode cX10_reckon 165 = .ok (.goto 4, 3) := by decide +kernel
theorem dX10_reckon_168 : decode cX10_reckon 168 = .ok (.iconst 0, 1) := by decide +kernel
theorem dX10_reckon_169 : decode cX10_reckon 169 = .ok (.iadd, 1) := by decide +kernel
theorem dX10_reckon_170 : decode cX10_reckon 170 = .ok (.istore 4, 2) := by decide +kernel
theorem dX10_reckon_172 : decode cX10_reckon 172 = .ok (.iinc 3 1, 3) := by decide +kernel
theorem dX10_reckon_175 : decode cX10_reckon 175 = .ok (.goto 105, 3) := by decide +kernel
theorem dX10_reckon_178 : decode cX10_reckon 178 = .ok (.iload 5, 2) := by decide +kernel
theorem dX10_reckon_180 : decode cX10_reckon 180 = .ok (.bipush 17, 2) := by decide +kernel
theorem dX10_reckon_182 : decode cX10_reckon 182 = .ok (.if_icmp .eq 10, 3) := by decide +kernel
theorem dX10_reckon_185 : decode cX10_reckon 185 = .ok (.iload 5, 2) := by decide +kernel
theorem dX10_reckon_187 : decode cX10_reckon 187 = .ok (.bipush 33, 2) := by decide +kernel
theorem dX10_reckon_189 : decode cX10_reckon 189 = .ok (.if_icmp .ne 52, 3) := by decide +kernel
theorem dX10_reckon_192 : decode cX10_reckon 192 = .ok (.aload_n 0, 1) := by decide +kernel
theorem dX10_reckon_193 : decode cX10_reckon 193 = .ok (.getfield 3, 3) := by decide +kernel
theorem dX10_reckon_196 : decode cX10_reckon 196 = .ok (.getfield 124, 3) := by decide +kernel
theorem dX10_reckon_199 : decode cX10_reckon 199 = .ok (.iload_n 3, 1) := by decide +kernel
theorem dX10_reckon_200 : decode cX10_reckon 200 = .ok (.iconst 1, 1) := by decide +kernel
theorem dX10_reckon_201 : decode cX10_reckon 201 = .ok (.isub, 1) := by decide +kernel
theorem dX10_reckon_202 : decode cX10_reckon 202 = .ok (.iload 5, 2) := by decide +kernel
theorem dX10_reckon_204 : decode cX10_reckon 204 = .ok (.bipush 17, 2) := by decide +kernel
theorem dX10_reckon_206 : decode cX10_reckon 206 = .ok (.if_icmp .ne 19, 3) := by decide +kernel
theorem dX10_reckon_209 : decode cX10_reckon 209 = .ok (.iconst 1, 1) := by decide +kernel
theorem dX10_reckon_210 : decode cX10_reckon 210 = .ok (.aload_n 0, 1) := by decide +kernel
theorem dX10_reckon_211 : decode cX10_reckon 211 = .ok (.getfield 3, 3) := by decide +kernel
theorem dX10_reckon_214 : decode cX10_reckon 214 = .ok (.getfield 124, 3) := by decide +kernel
theorem dX10_reckon_217 : decode cX10_reckon 217 = .ok (.iload_n 3, 1) := by decide +kernel
theorem dX10_reckon_218 : decode cX10_reckon 218 = .ok (.iconst 1, 1) := by decide +kernel
theorem dX10_reckon_219 : decode cX10_reckon 219 = .ok (.isub, 1) := by decide +kernel
theorem dX10_reckon_220 : decode cX10_reckon 220 = .ok (.iaload, 1) := by decide +kernel
theorem dX10_reckon_221 : decode cX10_reckon 221 = .ok (.isub, 1) := by decide +kernel
theorem dX10_reckon_222 : decode cX10_reckon 222 = .ok (.goto 15, 3) := by decide +kernel
theorem dX10_reckon_225 : decode cX10_reckon 225 = .ok (.aload_n 0, 1) := by decide +kernel
theorem dX10_reckon_226 : decode cX10_reckon 226 = .ok (.getfield 3, 3) := by decide +kernel
theorem dX10_reckon_229 : decode cX10_reckon 229 = .ok (.getfield 124, 3) := by decide +kernel
theorem dX10_reckon_232 : decode cX10_reckon 232 = .ok (.iload_n 3, 1) := by decide +kernel
theorem dX10_reckon_233 : decode cX10_reckon 233 = .ok (.iconst 1, 1) := by decide +kernel
theorem dX10_reckon_234 : decode cX10_reckon 234 = .ok (.isub, 1) := by decide +kernel
theorem dX10_reckon_235 : decode cX10_reckon 235 = .ok (.iaload, 1) := by decide +kernel
theorem dX10_reckon_236 : decode cX10_reckon 236 = .ok (.ineg, 1) := by decide +kernel
theorem dX10_reckon_237 : decode cX10_reckon 237 = .ok (.iastore, 1) := by decide +kernel
theorem dX10_reckon_238 : decode cX10_reckon 238 = .ok (.goto 42, 3) := by decide +kernel
theorem dX10_reckon_241 : decode cX10_reckon 241 = .ok (.iinc 3 (-1), 3) := by decide +kernel
theorem dX10_reckon_244 : decode cX10_reckon 244 = .ok (.aload_n 0, 1) := by decide +kernel
theorem dX10_reckon_245 : decode cX10_reckon 245 = .ok (.getfield 3, 3) := by decide +kernel
theorem dX10_reckon_248 : decode cX10_reckon 248 = .ok (.getfield 124, 3) := by decide +kernel
theorem dX10_reckon_251 : decode cX10_reckon 251 = .ok (.iload_n 3, 1) := by decide +kernel
theorem dX10_reckon_252 : decode cX10_reckon 252 = .ok (.iconst 1, 1) := by decide +kernel
theorem dX10_reckon_253 : decode cX10_reckon 253 = .ok (.isub, 1) := by decide +kernel
theorem dX10_reckon_254 : decode cX10_reckon 254 = .ok (.iload 5, 2) := by decide +kernel
theorem dX10_reckon_256 : decode cX10_reckon 256 = .ok (.aload_n 0, 1) := by decide +kernel
theorem dX10_reckon_257 : decode cX10_reckon 257 = .ok (.getfield 3, 3) := by decide +kernel
theorem dX10_reckon_260 : decode cX10_reckon 260 = .ok (.getfield 124, 3) := by decide +kernel
theorem dX10_reckon_263 : decode cX10_reckon 263 = .ok (.iload_n 3, 1) := by decide +kernel
theorem dX10_reckon_264 : decode cX10_reckon 264 = .ok (.iconst 1, 1) := by decide +kernel
theorem dX10_reckon_265 : decode cX10_reckon 265 = .ok (.isub, 1) := by decide +kernel
theorem dX10_reckon_266 : decode cX10_reckon 266 = .ok (.iaload, 1) := by decide +kernel
theorem dX10_reckon_267 : decode cX10_reckon 267 = .ok (.aload_n 0, 1) := by decide +kernel
theorem dX10_reckon_268 : decode cX10_reckon 268 = .ok (.getfield 3, 3) := by decide +kernel
theorem dX10_reckon_271 : decode cX10_reckon 271 = .ok (.getfield 124, 3) := by decide +kernel
theorem dX10_reckon_274 : decode cX10_reckon 274 = .ok (.iload_n 3, 1) := by decide +kernel
theorem dX10_reckon_275 : decode cX10_reckon 275 = .ok (.iaload, 1) := by decide +kernel
theorem dX10_reckon_276 : decode cX10_reckon 276 = .ok (.invokestatic 131, 3) := by decide +kernel
theorem dX10_reckon_279 : decode cX10_reckon 279 = .ok (.iastore, 1) := by decide +kernel
theorem dX10_reckon_280 : decode cX10_reckon 280 = .ok (.goto (-275), 3) := by decide +kernel
theorem dX10_reckon_283 : decode cX10_reckon 283 = .ok (.aload_n 0, 1) := by decide +kernel
theorem dX10_reckon_284 : decode cX10_reckon 284 = .ok (.getfield 3, 3) := by decide +kernel
theorem dX10_reckon_287 : decode cX10_reckon 287 = .ok (.getfield 124, 3) := by decide +kernel
theorem dX10_reckon_290 : decode cX10_reckon 290 = .ok (.iconst 0, 1) := by decide +kernel
theorem dX10_reckon_291 : decode cX10_reckon 291 = .ok (.iaload, 1) := by decide +kernel
theorem dX10_reckon_292 : decode cX10_reckon 292 = .ok (.ireturn, 1) := by decide +kernel
theorem dX10_ask_0 : decode cX10_ask 0 = .ok (.aload_n 0, 1) := by decide +kernel
theorem dX10_ask_1 : decode cX10_ask 1 = .ok (.getfield 3, 3) := by decide +kernel
theorem dX10_ask_4 : decode cX10_ask 4 = .ok (.getfield 64, 3) := by decide +kernel
theorem dX10_ask_7 : decode cX10_ask 7 = .ok (.getfield 80, 3) := by decide +kernel
theorem dX10_ask_10 : decode cX10_ask 10 = .ok (.iload_n 1, 1) := by decide +kernel
theorem dX10_ask_11 : decode cX10_ask 11 = .ok (.iaload, 1) := by decide +kernel
theorem dX10_ask_12 : decode cX10_ask 12 = .ok (.istore_n 3, 1) := by decide +kernel
theorem dX10_ask_13 : decode cX10_ask 13 = .ok (.aload_n 0, 1) := by decide +kernel
theorem dX10_ask_14 : decode cX10_ask 14 = .ok (.getfield 35, 3) := by decide +kernel
theorem dX10_ask_17 : decode cX10_ask 17 = .ok (.iload_n 1, 1) := by decide +kernel
theorem dX10_ask_18 : decode cX10_ask 18 = .ok (.iaload, 1) := by decide +kernel
theorem dX10_ask_19 : decode cX10_ask 19 = .ok (.ifCond .ne 12, 3) := by decide +kernel
theorem dX10_ask_22 : decode cX10_ask 22 = .ok (.aload_n 0, 1) := by decide +kernel
theorem dX10_ask_23 : decode cX10_ask 23 = .ok (.getfield 25, 3) := by decide +kernel
theorem dX10_ask_26 : decode cX10_ask 26 = .ok (.iload_n 3, 1) := by decide +kernel
theorem dX10_ask_27 : decode cX10_ask 27 = .ok (.baload, 1) := by decide +kernel
theorem dX10_ask_28 : decode cX10_ask 28 = .ok (.ifCond .eq 4, 3) := by decide +kernel
theorem dX10_ask_31 : decode cX10_ask 31 = .ok (.return_, 1) := by decide +kernel
theorem dX10_ask_32 : decode cX10_ask 32 = .ok (.aload_n 0, 1) := by decide +kernel
theorem dX10_ask_33 : decode cX10_ask 33 = .ok (.getfield 35, 3) := by decide +kernel
theorem dX10_ask_36 : decode cX10_ask 36 = .ok (.iload_n 1, 1) := by decide +kernel
theorem dX10_ask_37 : decode cX10_ask 37 = .ok (.aload_n 0, 1) := by decide +kernel
theorem dX10_ask_38 : decode cX10_ask 38 = .ok (.iload_n 1, 1) := by decide +kernel
theorem dX10_ask_39 : decode cX10_ask 39 = .ok (.invokevirtual 90, 3) := by decide +kernel
theorem dX10_ask_42 : decode cX10_ask 42 = .ok (.ifCond .eq 7, 3) := by decide +kernel
theorem dX10_ask_45 : decode cX10_ask 45 = .ok (.iconst 1, 1) := by decide +kernel
theorem dX10_ask_46 : decode cX10_ask 46 = .ok (.goto 4, 3) := by decide +kernel
theorem dX10_ask_49 : decode cX10_ask 49 = .ok (.iconst 2, 1) := by decide +kernel
theorem dX10_ask_50 : decode cX10_ask 50 = .ok (.iastore, 1) := by decide +kernel
theorem dX10_ask_51 : decode cX10_ask 51 = .ok (.aload_n 0, 1) := by decide +kernel
theorem dX10_ask_52 : decode cX10_ask 52 = .ok (.getfield 35, 3) := by decide +kernel
theorem dX10_ask_55 : decode cX10_ask 55 = .ok (.iload_n 1, 1) := by decide +kernel
theorem dX10_ask_56 : decode cX10_ask 56 = .ok (.iaload, 1) := by decide +kernel
theorem dX10_ask_57 : decode cX10_ask 57 = .ok (.iconst 2, 1) := by decide +kernel
theorem dX10_ask_58 : decode cX10_ask 58 = .ok (.if_icmp .ne 4, 3) := by decide +kernel
theorem dX10_ask_61 : decode cX10_ask 61 = .ok (.return_, 1) := by decide +kernel
theorem dX10_ask_62 : decode cX10_ask 62 = .ok (.aload_n 0, 1) := by decide +kernel
theorem dX10_ask_63 : decode cX10_ask 63 = .ok (.getfield 19, 3) := by decide +kernel
theorem dX10_ask_66 : decode cX10_ask 66 = .ok (.iload_n 3, 1) := by decide +kernel
theorem dX10_ask_67 : decode cX10_ask 67 = .ok (.iload_n 2, 1) := by decide +kernel
theorem dX10_ask_68 : decode cX10_ask 68 = .ok (.iastore, 1) := by decide +kernel
theorem dX10_ask_69 : decode cX10_ask 69 = .ok (.aload_n 0, 1) := by decide +kernel
theorem dX10_ask_70 : decode cX10_ask 70 = .ok (.getfield 22, 3) := by decide +kernel
theorem dX10_ask_73 : decode cX10_ask 73 = .ok (.iload_n 3, 1) := by decide +kernel
theorem dX10_ask_74 : decode cX10_ask 74 = .ok (.dup2, 1) := by decide +kernel
theorem dX10_ask_75 : decode cX10_ask 75 = .ok (.iaload, 1) := by decide +kernel
theorem dX10_ask_76 : decode cX10_ask 76 = .ok (.iconst 1, 1) := by decide +kernel
theorem dX10_ask_77 : decode cX10_ask 77 = .ok (.iadd, 1) := by decide +kernel
theorem dX10_ask_78 : decode cX10_ask 78 = .ok (.iastore, 1) := by decide +kernel
theorem dX10_ask_79 : decode cX10_ask 79 = .ok (.return_, 1) := by decide +kernel
theorem dX10_settle_0 : decode cX10_settle 0 = .ok (.aload_n 0, 1) := by decide +kernel
theorem dX10_settle_1 : decode cX10_settle 1 = .ok (.iload_n 1, 1) := by decide +kernel
theorem dX10_settle_2 : decode cX10_settle 2 = .ok (.iconst 2, 1) := by decide +kernel
theorem dX10_settle_3 : decode cX10_settle 3 = .ok (.invokevirtual 135, 3) := by decide +kernel
theorem dX10_settle_6 : decode cX10_settle 6 = .ok (.ifCond .le 13, 3) := by decide +kernel
theorem dX10_settle_9 : decode cX10_settle 9 = .ok (.aload_n 0, 1) := by decide +kernel
theorem dX10_settle_10 : decode cX10_settle 10 = .ok (.getfield 29, 3) := by decide +kernel
theorem dX10_settle_13 : decode cX10_settle 13 = .ok (.iload_n 1, 1) := by decide +kernel
theorem dX10_settle_14 : decode cX10_settle 14 = .ok (.iconst 3, 1) := by decide +kernel
theorem dX10_settle_15 : decode cX10_settle 15 = .ok (.iastore, 1) := by decide +kernel
theorem dX10_settle_16 : decode cX10_settle 16 = .ok (.goto 56, 3) := by decide +kernel
theorem dX10_settle_19 : decode cX10_settle 19 = .ok (.aload_n 0, 1) := by decide +kernel
theorem dX10_settle_20 : decode cX10_settle 20 = .ok (.iload_n 1, 1) := by decide +kernel
theorem dX10_settle_21 : decode cX10_settle 21 = .ok (.iconst 1, 1) := by decide +kernel
theorem dX10_settle_22 : decode cX10_settle 22 = .ok (.invokevirtual 135, 3) := by decide +kernel
theorem dX10_settle_25 : decode cX10_settle 25 = .ok (.aload_n 0, 1) := by decide +kernel
theorem dX10_settle_26 : decode cX10_settle 26 = .ok (.getfield 3, 3) := by decide +kernel
theorem dX10_settle_29 : decode cX10_settle 29 = .ok (.getfield 64, 3) := by decide +kernel
theorem dX10_settle_32 : decode cX10_settle 32 = .ok (.getfield 77, 3) := by decide +kernel
theorem dX10_settle_35 : decode cX10_settle 35 = .ok (.iload_n 1, 1) := by decide +kernel
theorem dX10_settle_36 : decode cX10_settle 36 = .ok (.iaload, 1) := by decide +kernel
theorem dX10_settle_37 : decode cX10_settle 37 = .ok (.if_icmp .ne 13, 3) := by decide +kernel
theorem dX10_settle_40 : decode cX10_settle 40 = .ok (.aload_n 0, 1) := by decide +kernel
theorem dX10_settle_41 : decode cX10_settle 41 = .ok (.getfield 29, 3) := by decide +kernel
theorem dX10_settle_44 : decode cX10_settle 44 = .ok (.iload_n 1, 1) := by decide +kernel
theorem dX10_settle_45 : decode cX10_settle 45 = .ok (.iconst 2, 1) := by decide +kernel
theorem dX10_settle_46 : decode cX10_settle 46 = .ok (.iastore, 1) := by decide +kernel
theorem dX10_settle_47 : decode cX10_settle 47 = .ok (.goto 25, 3) := by decide +kernel
theorem dX10_settle_50 : decode cX10_settle 50 = .ok (.aload_n 0, 1) := by decide +kernel
theorem dX10_settle_51 : decode cX10_settle 51 = .ok (.getfield 41, 3) := by decide +kernel
theorem dX10_settle_54 : decode cX10_settle 54 = .ok (.aload_n 0, 1) := by decide +kernel
theorem dX10_settle_55 : decode cX10_settle 55 = .ok (.getfield 32, 3) := by decide +kernel
theorem dX10_settle_58 : decode cX10_settle 58 = .ok (.iload_n 1, 1) := by decide +kernel
theorem dX10_settle_59 : decode cX10_settle 59 = .ok (.iaload, 1) := by decide +kernel
theorem dX10_settle_60 : decode cX10_settle 60 = .ok (.isub, 1) := by decide +kernel
theorem dX10_settle_61 : decode cX10_settle 61 = .ok (.iconst 3, 1) := by decide +kernel
theorem dX10_settle_62 : decode cX10_settle 62 = .ok (.if_icmp .lt 10, 3) := by decide +kernel
theorem dX10_settle_65 : decode cX10_settle 65 = .ok (.aload_n 0, 1) := by decide +kernel
theorem dX10_settle_66 : decode cX10_settle 66 = .ok (.getfield 29, 3) := by decide +kernel
theorem dX10_settle_69 : decode cX10_settle 69 = .ok (.iload_n 1, 1) := by decide +kernel
theorem dX10_settle_70 : decode cX10_settle 70 = .ok (.iconst 3, 1) := by decide +kernel
theorem dX10_settle_71 : decode cX10_settle 71 = .ok (.iastore, 1) := by decide +kernel
theorem dX10_settle_72 : decode cX10_settle 72 = .ok (.return_, 1) := by decide +kernel
theorem dX10_isTold_0 : decode cX10_isTold 0 = .ok (.aload_n 0, 1) := by decide +kernel
theorem dX10_isTold_1 : decode cX10_isTold 1 = .ok (.getfield 25, 3) := by decide +kernel
theorem dX10_isTold_4 : decode cX10_isTold 4 = .ok (.bipush 8, 2) := by decide +kernel
theorem dX10_isTold_6 : decode cX10_isTold 6 = .ok (.baload, 1) := by decide +kernel
theorem dX10_isTold_7 : decode cX10_isTold 7 = .ok (.ifCond .ne 7, 3) := by decide +kernel
theorem dX10_isTold_10 : decode cX10_isTold 10 = .ok (.iconst 1, 1) := by decide +kernel
theorem dX10_isTold_11 : decode cX10_isTold 11 = .ok (.goto 4, 3) := by decide +kernel
theorem dX10_isTold_14 : decode cX10_isTold 14 = .ok (.iconst 0, 1) := by decide +kernel
theorem dX10_isTold_15 : decode cX10_isTold 15 = .ok (.istore_n 3, 1) := by decide +kernel
theorem dX10_isTold_16 : decode cX10_isTold 16 = .ok (.bipush 6, 2) := by decide +kernel
theorem dX10_isTold_18 : decode cX10_isTold 18 = .ok (.iload_n 1, 1) := by decide +kernel
theorem dX10_isTold_19 : decode cX10_isTold 19 = .ok (.imul, 1) := by decide +kernel
theorem dX10_isTold_20 : decode cX10_isTold 20 = .ok (.istore 4, 2) := by decide +kernel
theorem dX10_isTold_22 : decode cX10_isTold 22 = .ok (.iload 4, 2) := by decide +kernel
theorem dX10_isTold_24 : decode cX10_isTold 24 = .ok (.bipush 6, 2) := by decide +kernel
theorem dX10_isTold_26 : decode cX10_isTold 26 = .ok (.iload_n 1, 1) := by decide +kernel
theorem dX10_isTold_27 : decode cX10_isTold 27 = .ok (.imul, 1) := by decide +kernel
theorem dX10_isTold_28 : decode cX10_isTold 28 = .ok (.aload_n 0, 1) := by decide +kernel
theorem dX10_isTold_29 : decode cX10_isTold 29 = .ok (.getfield 3, 3) := by decide +kernel
theorem dX10_isTold_32 : decode cX10_isTold 32 = .ok (.getfield 64, 3) := by decide +kernel
theorem dX10_isTold_35 : decode cX10_isTold 35 = .ok (.getfield 77, 3) := by decide +kernel
theorem dX10_isTold_38 : decode cX10_isTold 38 = .ok (.iload_n 1, 1) := by decide +kernel
theorem dX10_isTold_39 : decode cX10_isTold 39 = .ok (.iaload, 1) := by decide +kernel
theorem dX10_isTold_40 : decode cX10_isTold 40 = .ok (.iadd, 1) := by decide +kernel
theorem dX10_isTold_41 : decode cX10_isTold 41 = .ok (.if_icmp .ge 54, 3) := by decide +kernel
theorem dX10_isTold_44 : decode cX10_isTold 44 = .ok (.iload_n 3, 1) := by decide +kernel
theorem dX10_isTold_45 : decode cX10_isTold 45 = .ok (.iload 4, 2) := by decide +kernel
theorem dX10_isTold_47 : decode cX10_isTold 47 = .ok (.iload_n 2, 1) := by decide +kernel
theorem dX10_isTold_48 : decode cX10_isTold 48 = .ok (.if_icmp .eq 38, 3) := by decide +kernel
theorem dX10_isTold_51 : decode cX10_isTold 51 = .ok (.aload_n 0, 1) := by decide +kernel
theorem dX10_isTold_52 : decode cX10_isTold 52 = .ok (.getfield 38, 3) := by decide +kernel
theorem dX10_isTold_55 : decode cX10_isTold 55 = .ok (.iload 4, 2) := by decide +kernel
theorem dX10_isTold_57 : decode cX10_isTold 57 = .ok (.baload, 1) := by decide +kernel
theorem dX10_isTold_58 : decode cX10_isTold 58 = .ok (.ifCond .eq 28, 3) := by decide +kernel
theorem dX10_isTold_61 : decode cX10_isTold 61 = .ok (.aload_n 0, 1) := by decide +kernel
theorem dX10_isTold_62 : decode cX10_isTold 62 = .ok (.getfield 25, 3) := by decide +kernel
theorem dX10_isTold_65 : decode cX10_isTold 65 = .ok (.aload_n 0, 1) := by decide +kernel
theorem dX10_isTold_66 : decode cX10_isTold 66 = .ok (.getfield 3, 3) := by decide +kernel
theorem dX10_isTold_69 : decode cX10_isTold 69 = .ok (.getfield 64, 3) := by decide +kernel
theorem dX10_isTold_72 : decode cX10_isTold 72 = .ok (.getfield 80, 3) := by decide +kernel
theorem dX10_isTold_75 : decode cX10_isTold 75 = .ok (.iload 4, 2) := by decide +kernel
theorem dX10_isTold_77 : decode cX10_isTold 77 = .ok (.iaload, 1) := by decide +kernel
theorem dX10_isTold_78 : decode cX10_isTold 78 = .ok (.baload, 1) := by decide +kernel
theorem dX10_isTold_79 : decode cX10_isTold 79 = .ok (.ifCond .ne 7, 3) := by decide +kernel
theorem dX10_isTold_82 : decode cX10_isTold 82 = .ok (.iconst 1, 1) := by decide +kernel
theorem dX10_isTold_83 : decode cX10_isTold 83 = .ok (.goto 4, 3) := by decide +kernel
theorem dX10_isTold_86 : decode cX10_isTold 86 = .ok (.iconst 0, 1) := by decide +kernel
theorem dX10_isTold_87 : decode cX10_isTold 87 = .ok (.ior, 1) := by decide +kernel
theorem dX10_isTold_88 : decode cX10_isTold 88 = .ok (.istore_n 3, 1) := by decide +kernel
theorem dX10_isTold_89 : decode cX10_isTold 89 = .ok (.iinc 4 1, 3) := by decide +kernel
theorem dX10_isTold_92 : decode cX10_isTold 92 = .ok (.goto (-70), 3) := by decide +kernel
theorem dX10_isTold_95 : decode cX10_isTold 95 = .ok (.iload_n 3, 1) := by decide +kernel
theorem dX10_isTold_96 : decode cX10_isTold 96 = .ok (.ireturn, 1) := by decide +kernel
theorem dX10_hear_0 : decode cX10_hear 0 = .ok (.aload_n 0, 1) := by decide +kernel
theorem dX10_hear_1 : decode cX10_hear 1 = .ok (.getfield 3, 3) := by decide +kernel
theorem dX10_hear_4 : decode cX10_hear 4 = .ok (.getfield 64, 3) := by decide +kernel
theorem dX10_hear_7 : decode cX10_hear 7 = .ok (.getfield 80, 3) := by decide +kernel
theorem dX10_hear_10 : decode cX10_hear 10 = .ok (.iload_n 2, 1) := by decide +kernel
theorem dX10_hear_11 : decode cX10_hear 11 = .ok (.iaload, 1) := by decide +kernel
theorem dX10_hear_12 : decode cX10_hear 12 = .ok (.istore_n 3, 1) := by decide +kernel
theorem dX10_hear_13 : decode cX10_hear 13 = .ok (.aload_n 0, 1) := by decide +kernel
theorem dX10_hear_14 : decode cX10_hear 14 = .ok (.getfield 25, 3) := by decide +kernel
theorem dX10_hear_17 : decode cX10_hear 17 = .ok (.iload_n 3, 1) := by decide +kernel
theorem dX10_hear_18 : decode cX10_hear 18 = .ok (.baload, 1) := by decide +kernel
theorem dX10_hear_19 : decode cX10_hear 19 = .ok (.ifCond .ne 21, 3) := by decide +kernel
theorem dX10_hear_22 : decode cX10_hear 22 = .ok (.aload_n 0, 1) := by decide +kernel
theorem dX10_hear_23 : decode cX10_hear 23 = .ok (.getfield 38, 3) := by decide +kernel
theorem dX10_hear_26 : decode cX10_hear 26 = .ok (.iload_n 2, 1) := by decide +kernel
theorem dX10_hear_27 : decode cX10_hear 27 = .ok (.baload, 1) := by decide +kernel
theorem dX10_hear_28 : decode cX10_hear 28 = .ok (.ifCond .ne 12, 3) := by decide +kernel
theorem dX10_hear_31 : decode cX10_hear 31 = .ok (.aload_n 0, 1) := by decide +kernel
theorem dX10_hear_32 : decode cX10_hear 32 = .ok (.iload_n 1, 1) := by decide +kernel
theorem dX10_hear_33 : decode cX10_hear 33 = .ok (.iload_n 2, 1) := by decide +kernel
theorem dX10_hear_34 : decode cX10_hear 34 = .ok (.invokevirtual 138, 3) := by decide +kernel
theorem dX10_hear_37 : decode cX10_hear 37 = .ok (.ifCond .ne 4, 3) := by decide +kernel
theorem dX10_hear_40 : decode cX10_hear 40 = .ok (.return_, 1) := by decide +kernel
theorem dX10_hear_41 : decode cX10_hear 41 = .ok (.aload_n 0, 1) := by decide +kernel
theorem dX10_hear_42 : decode cX10_hear 42 = .ok (.getfield 38, 3) := by decide +kernel
theorem dX10_hear_45 : decode cX10_hear 45 = .ok (.iload_n 2, 1) := by decide +kernel
theorem dX10_hear_46 : decode cX10_hear 46 = .ok (.iconst 1, 1) := by decide +kernel
theorem dX10_hear_47 : decode cX10_hear 47 = .ok (.bastore, 1) := by decide +kernel
theorem dX10_hear_48 : decode cX10_hear 48 = .ok (.aload_n 0, 1) := by decide +kernel
theorem dX10_hear_49 : decode cX10_hear 49 = .ok (.dup, 1) := by decide +kernel
theorem dX10_hear_50 : decode cX10_hear 50 = .ok (.getfield 48, 3) := by decide +kernel
theorem dX10_hear_53 : decode cX10_hear 53 = .ok (.iconst 1, 1) := by decide +kernel
theorem dX10_hear_54 : decode cX10_hear 54 = .ok (.iadd, 1) := by decide +kernel
theorem dX10_hear_55 : decode cX10_hear 55 = .ok (.putfield 48, 3) := by decide +kernel
theorem dX10_hear_58 : decode cX10_hear 58 = .ok (.aload_n 0, 1) := by decide +kernel
theorem dX10_hear_59 : decode cX10_hear 59 = .ok (.getfield 22, 3) := by decide +kernel
theorem dX10_hear_62 : decode cX10_hear 62 = .ok (.iload_n 3, 1) := by decide +kernel
theorem dX10_hear_63 : decode cX10_hear 63 = .ok (.dup2, 1) := by decide +kernel
theorem dX10_hear_64 : decode cX10_hear 64 = .ok (.iaload, 1) := by decide +kernel
theorem dX10_hear_65 : decode cX10_hear 65 = .ok (.iconst 1, 1) := by decide +kernel
theorem dX10_hear_66 : decode cX10_hear 66 = .ok (.iadd, 1) := by decide +kernel
theorem dX10_hear_67 : decode cX10_hear 67 = .ok (.iastore, 1) := by decide +kernel
theorem dX10_hear_68 : decode cX10_hear 68 = .ok (.aload_n 0, 1) := by decide +kernel
theorem dX10_hear_69 : decode cX10_hear 69 = .ok (.getfield 29, 3) := by decide +kernel
theorem dX10_hear_72 : decode cX10_hear 72 = .ok (.iload_n 1, 1) := by decide +kernel
theorem dX10_hear_73 : decode cX10_hear 73 = .ok (.iaload, 1) := by decide +kernel
theorem dX10_hear_74 : decode cX10_hear 74 = .ok (.iconst 2, 1) := by decide +kernel
theorem dX10_hear_75 : decode cX10_hear 75 = .ok (.if_icmp .ne 24, 3) := by decide +kernel
theorem dX10_hear_78 : decode cX10_hear 78 = .ok (.aload_n 0, 1) := by decide +kernel
theorem dX10_hear_79 : decode cX10_hear 79 = .ok (.getfield 15, 3) := by decide +kernel
theorem dX10_hear_82 : decode cX10_hear 82 = .ok (.iload_n 3, 1) := by decide +kernel
theorem dX10_hear_83 : decode cX10_hear 83 = .ok (.dup2, 1) := by decide +kernel
theorem dX10_hear_84 : decode cX10_hear 84 = .ok (.iaload, 1) := by decide +kernel
theorem dX10_hear_85 : decode cX10_hear 85 = .ok (.aload_n 0, 1) := by decide +kernel
theorem dX10_hear_86 : decode cX10_hear 86 = .ok (.getfield 3, 3) := by decide +kernel
theorem dX10_hear_89 : decode cX10_hear 89 = .ok (.getfield 64, 3) := by decide +kernel
theorem dX10_hear_92 : decode cX10_hear 92 = .ok (.getfield 83, 3) := by decide +kernel
theorem dX10_hear_95 : decode cX10_hear 95 = .ok (.iload_n 2, 1) := by decide +kernel
theorem dX10_hear_96 : decode cX10_hear 96 = .ok (.iaload, 1) := by decide +kernel
theorem dX10_hear_97 : decode cX10_hear 97 = .ok (.iadd, 1) := by decide +kernel
theorem dX10_hear_98 : decode cX10_hear 98 = .ok (.iastore, 1) := by decide +kernel
theorem dX10_hear_99 : decode cX10_hear 99 = .ok (.aload_n 0, 1) := by decide +kernel
theorem dX10_hear_100 : decode cX10_hear 100 = .ok (.getfield 19, 3) := by decide +kernel
theorem dX10_hear_103 : decode cX10_hear 103 = .ok (.iload_n 3, 1) := by decide +kernel
theorem dX10_hear_104 : decode cX10_hear 104 = .ok (.iaload, 1) := by decide +kernel
theorem dX10_hear_105 : decode cX10_hear 105 = .ok (.iload_n 1, 1) := by decide +kernel
theorem dX10_hear_106 : decode cX10_hear 106 = .ok (.if_icmp .ne 10, 3) := by decide +kernel
theorem dX10_hear_109 : decode cX10_hear 109 = .ok (.aload_n 0, 1) := by decide +kernel
theorem dX10_hear_110 : decode cX10_hear 110 = .ok (.getfield 19, 3) := by decide +kernel
theorem dX10_hear_113 : decode cX10_hear 113 = .ok (.iload_n 3, 1) := by decide +kernel
theorem dX10_hear_114 : decode cX10_hear 114 = .ok (.iconst (-1), 1) := by decide +kernel
theorem dX10_hear_115 : decode cX10_hear 115 = .ok (.iastore, 1) := by decide +kernel
theorem dX10_hear_116 : decode cX10_hear 116 = .ok (.return_, 1) := by decide +kernel
theorem dX10_dayOn_0 : decode cX10_dayOn 0 = .ok (.iconst 0, 1) := by decide +kernel
theorem dX10_dayOn_1 : decode cX10_dayOn 1 = .ok (.istore_n 1, 1) := by decide +kernel
theorem dX10_dayOn_2 : decode cX10_dayOn 2 = .ok (.iload_n 1, 1) := by decide +kernel
theorem dX10_dayOn_3 : decode cX10_dayOn 3 = .ok (.aload_n 0, 1) := by decide +kernel
theorem dX10_dayOn_4 : decode cX10_dayOn 4 = .ok (.getfield 3, 3) := by decide +kernel
theorem dX10_dayOn_7 : decode cX10_dayOn 7 = .ok (.getfield 64, 3) := by decide +kernel
theorem dX10_dayOn_10 : decode cX10_dayOn 10 = .ok (.getfield 142, 3) := by decide +kernel
theorem dX10_dayOn_13 : decode cX10_dayOn 13 = .ok (.if_icmp .ge 96, 3) := by decide +kernel
theorem dX10_dayOn_16 : decode cX10_dayOn 16 = .ok (.aload_n 0, 1) := by decide +kernel
theorem dX10_dayOn_17 : decode cX10_dayOn 17 = .ok (.getfield 3, 3) := by decide +kernel
theorem dX10_dayOn_20 : decode cX10_dayOn 20 = .ok (.getfield 64, 3) := by decide +kernel
theorem dX10_dayOn_23 : decode cX10_dayOn 23 = .ok (.getfield 145, 3) := by decide +kernel
theorem dX10_dayOn_26 : decode cX10_dayOn 26 = .ok (.iload_n 1, 1) := by decide +kernel
theorem dX10_dayOn_27 : decode cX10_dayOn 27 = .ok (.iaload, 1) := by decide +kernel
theorem dX10_dayOn_28 : decode cX10_dayOn 28 = .ok (.aload_n 0, 1) := by decide +kernel
theorem dX10_dayOn_29 : decode cX10_dayOn 29 = .ok (.getfield 3, 3) := by decide +kernel
theorem dX10_dayOn_32 : decode cX10_dayOn 32 = .ok (.getfield 64, 3) := by decide +kernel
theorem dX10_dayOn_35 : decode cX10_dayOn 35 = .ok (.getfield 148, 3) := by decide +kernel
theorem dX10_dayOn_38 : decode cX10_dayOn 38 = .ok (.iload_n 1, 1) := by decide +kernel
theorem dX10_dayOn_39 : decode cX10_dayOn 39 = .ok (.iaload, 1) := by decide +kernel
theorem dX10_dayOn_40 : decode cX10_dayOn 40 = .ok (.if_icmp .eq 35, 3) := by decide +kernel
theorem dX10_dayOn_43 : decode cX10_dayOn 43 = .ok (.aload_n 0, 1) := by decide +kernel
theorem dX10_dayOn_44 : decode cX10_dayOn 44 = .ok (.aload_n 0, 1) := by decide +kernel
theorem dX10_dayOn_45 : decode cX10_dayOn 45 = .ok (.getfield 3, 3) := by decide +kernel
theorem dX10_dayOn_48 : decode cX10_dayOn 48 = .ok (.getfield 64, 3) := by decide +kernel
theorem dX10_dayOn_51 : decode cX10_dayOn 51 = .ok (.getfield 145, 3) := by decide +kernel
theorem dX10_dayOn_54 : decode cX10_dayOn 54 = .ok (.iload_n 1, 1) := by decide +kernel
theorem dX10_dayOn_55 : decode cX10_dayOn 55 = .ok (.iaload, 1) := by decide +kernel
theorem dX10_dayOn_56 : decode cX10_dayOn 56 = .ok (.aload_n 0, 1) := by decide +kernel
theorem dX10_dayOn_57 : decode cX10_dayOn 57 = .ok (.getfield 3, 3) := by decide +kernel
theorem dX10_dayOn_60 : decode cX10_dayOn 60 = .ok (.getfield 64, 3) := by decide +kernel
theorem dX10_dayOn_63 : decode cX10_dayOn 63 = .ok (.getfield 148, 3) := by decide +kernel
theorem dX10_dayOn_66 : decode cX10_dayOn 66 = .ok (.iload_n 1, 1) := by decide +kernel
theorem dX10_dayOn_67 : decode cX10_dayOn 67 = .ok (.iaload, 1) := by decide +kernel
theorem dX10_dayOn_68 : decode cX10_dayOn 68 = .ok (.invokevirtual 151, 3) := by decide +kernel
theorem dX10_dayOn_71 : decode cX10_dayOn 71 = .ok (.iconst 1, 1) := by decide +kernel
theorem dX10_dayOn_72 : decode cX10_dayOn 72 = .ok (.if_icmp .ne 7, 3) := by decide +kernel
theorem dX10_dayOn_75 : decode cX10_dayOn 75 = .ok (.iconst 1, 1) := by decide +kernel
theorem dX10_dayOn_76 : decode cX10_dayOn 76 = .ok (.goto 4, 3) := by decide +kernel
theorem dX10_dayOn_79 : decode cX10_dayOn 79 = .ok (.iconst 0, 1) := by decide +kernel
theorem dX10_dayOn_80 : decode cX10_dayOn 80 = .ok (.istore_n 2, 1) := by decide +kernel
theorem dX10_dayOn_81 : decode cX10_dayOn 81 = .ok (.iload_n 2, 1) := by decide +kernel
theorem dX10_dayOn_82 : decode cX10_dayOn 82 = .ok (.ifCond .eq 21, 3) := by decide +kernel
theorem dX10_dayOn_85 : decode cX10_dayOn 85 = .ok (.aload_n 0, 1) := by decide +kernel
theorem dX10_dayOn_86 : decode cX10_dayOn 86 = .ok (.iload_n 1, 1) := by decide +kernel
theorem dX10_dayOn_87 : decode cX10_dayOn 87 = .ok (.invokevirtual 154, 3) := by decide +kernel
theorem dX10_dayOn_90 : decode cX10_dayOn 90 = .ok (.ifCond .eq 13, 3) := by decide +kernel
theorem dX10_dayOn_93 : decode cX10_dayOn 93 = .ok (.aload_n 0, 1) := by decide +kernel
theorem dX10_dayOn_94 : decode cX10_dayOn 94 = .ok (.dup, 1) := by decide +kernel
theorem dX10_dayOn_95 : decode cX10_dayOn 95 = .ok (.getfield 45, 3) := by decide +kernel
theorem dX10_dayOn_98 : decode cX10_dayOn 98 = .ok (.iconst 1, 1) := by decide +kernel
theorem dX10_dayOn_99 : decode cX10_dayOn 99 = .ok (.iadd, 1) := by decide +kernel
theorem dX10_dayOn_100 : decode cX10_dayOn 100 = .ok (.putfield 45, 3) := by decide +kernel
theorem dX10_dayOn_103 : decode cX10_dayOn 103 = .ok (.iinc 1 1, 3) := by decide +kernel
theorem dX10_dayOn_106 : decode cX10_dayOn 106 = .ok (.goto (-104), 3) := by decide +kernel
theorem dX10_dayOn_109 : decode cX10_dayOn 109 = .ok (.iconst 0, 1) := by decide +kernel
theorem dX10_dayOn_110 : decode cX10_dayOn 110 = .ok (.istore_n 1, 1) := by decide +kernel
theorem dX10_dayOn_111 : decode cX10_dayOn 111 = .ok (.iload_n 1, 1) := by decide +kernel
theorem dX10_dayOn_112 : decode cX10_dayOn 112 = .ok (.aload_n 0, 1) := by decide +kernel
theorem dX10_dayOn_113 : decode cX10_dayOn 113 = .ok (.getfield 3, 3) := by decide +kernel
theorem dX10_dayOn_116 : decode cX10_dayOn 116 = .ok (.getfield 64, 3) := by decide +kernel
theorem dX10_dayOn_119 : decode cX10_dayOn 119 = .ok (.getfield 74, 3) := by decide +kernel
theorem dX10_dayOn_122 : decode cX10_dayOn 122 = .ok (.if_icmp .ge 64, 3) := by decide +kernel
theorem dX10_dayOn_125 : decode cX10_dayOn 125 = .ok (.aload_n 0, 1) := by decide +kernel
theorem dX10_dayOn_126 : decode cX10_dayOn 126 = .ok (.getfield 25, 3) := by decide +kernel
theorem dX10_dayOn_129 : decode cX10_dayOn 129 = .ok (.bipush 8, 2) := by decide +kernel
theorem dX10_dayOn_131 : decode cX10_dayOn 131 = .ok (.baload, 1) := by decide +kernel
theorem dX10_dayOn_132 : decode cX10_dayOn 132 = .ok (.ifCond .ne 54, 3) := by decide +kernel
theorem dX10_dayOn_135 : decode cX10_dayOn 135 = .ok (.iconst 0, 1) := by decide +kernel
theorem dX10_dayOn_136 : decode cX10_dayOn 136 = .ok (.istore_n 2, 1) := by decide +kernel
theorem dX10_dayOn_137 : decode cX10_dayOn 137 = .ok (.iload_n 2, 1) := by decide +kernel
theorem dX10_dayOn_138 : decode cX10_dayOn 138 = .ok (.aload_n 0, 1) := by decide +kernel
theorem dX10_dayOn_139 : decode cX10_dayOn 139 = .ok (.getfield 3, 3) := by decide +kernel
theorem dX10_dayOn_142 : decode cX10_dayOn 142 = .ok (.getfield 64, 3) := by decide +kernel
theorem dX10_dayOn_145 : decode cX10_dayOn 145 = .ok (.getfield 77, 3) := by decide +kernel
theorem dX10_dayOn_148 : decode cX10_dayOn 148 = .ok (.iload_n 1, 1) := by decide +kernel
theorem dX10_dayOn_149 : decode cX10_dayOn 149 = .ok (.iaload, 1) := by decide +kernel
theorem dX10_dayOn_150 : decode cX10_dayOn 150 = .ok (.if_icmp .ge 30, 3) := by decide +kernel
theorem dX10_dayOn_153 : decode cX10_dayOn 153 = .ok (.aload_n 0, 1) := by decide +kernel
theorem dX10_dayOn_154 : decode cX10_dayOn 154 = .ok (.getfield 29, 3) := by decide +kernel
theorem dX10_dayOn_157 : decode cX10_dayOn 157 = .ok (.iload_n 1, 1) := by decide +kernel
theorem dX10_dayOn_158 : decode cX10_dayOn 158 = .ok (.iaload, 1) := by decide +kernel
theorem dX10_dayOn_159 : decode cX10_dayOn 159 = .ok (.iconst 1, 1) := by decide +kernel
theorem dX10_dayOn_160 : decode cX10_dayOn 160 = .ok (.if_icmp .ne 20, 3) := by decide +kernel
theorem dX10_dayOn_163 : decode cX10_dayOn 163 = .ok (.aload_n 0, 1) := by decide +kernel
theorem dX10_dayOn_164 : decode cX10_dayOn 164 = .ok (.bipush 6, 2) := by decide +kernel
theorem dX10_dayOn_166 : decode cX10_dayOn 166 = .ok (.iload_n 1, 1) := by decide +kernel
theorem dX10_dayOn_167 : decode cX10_dayOn 167 = .ok (.imul, 1) := by decide +kernel
theorem dX10_dayOn_168 : decode cX10_dayOn 168 = .ok (.iload_n 2, 1) := by decide +kernel
theorem dX10_dayOn_169 : decode cX10_dayOn 169 = .ok (.iadd, 1) := by decide +kernel
theorem dX10_dayOn_170 : decode cX10_dayOn 170 = .ok (.iload_n 1, 1) := by decide +kernel
theorem dX10_dayOn_171 : decode cX10_dayOn 171 = .ok (.invokevirtual 157, 3) := by decide +kernel
theorem dX10_dayOn_174 : decode cX10_dayOn 174 = .ok (.iinc 2 1, 3) := by decide +kernel
theorem dX10_dayOn_177 : decode cX10_dayOn 177 = .ok (.goto (-40), 3) := by decide +kernel
theorem dX10_dayOn_180 : decode cX10_dayOn 180 = .ok (.iinc 1 1, 3) := by decide +kernel
theorem dX10_dayOn_183 : decode cX10_dayOn 183 = .ok (.goto (-72), 3) := by decide +kernel
theorem dX10_dayOn_186 : decode cX10_dayOn 186 = .ok (.iconst 0, 1) := by decide +kernel
theorem dX10_dayOn_187 : decode cX10_dayOn 187 = .ok (.istore_n 1, 1) := by decide +kernel
theorem dX10_dayOn_188 : decode cX10_dayOn 188 = .ok (.iload_n 1, 1) := by decide +kernel
theorem dX10_dayOn_189 : decode cX10_dayOn 189 = .ok (.aload_n 0, 1) := by decide +kernel
theorem dX10_dayOn_190 : decode cX10_dayOn 190 = .ok (.getfield 3, 3) := by decide +kernel
theorem dX10_dayOn_193 : decode cX10_dayOn 193 = .ok (.getfield 64, 3) := by decide +kernel
theorem dX10_dayOn_196 : decode cX10_dayOn 196 = .ok (.getfield 74, 3) := by decide +kernel
theorem dX10_dayOn_199 : decode cX10_dayOn 199 = .ok (.if_icmp .ge 34, 3) := by decide +kernel
theorem dX10_dayOn_202 : decode cX10_dayOn 202 = .ok (.aload_n 0, 1) := by decide +kernel
theorem dX10_dayOn_203 : decode cX10_dayOn 203 = .ok (.getfield 25, 3) := by decide +kernel
theorem dX10_dayOn_206 : decode cX10_dayOn 206 = .ok (.bipush 8, 2) := by decide +kernel
theorem dX10_dayOn_208 : decode cX10_dayOn 208 = .ok (.baload, 1) := by decide +kernel
theorem dX10_dayOn_209 : decode cX10_dayOn 209 = .ok (.ifCond .ne 24, 3) := by decide +kernel
theorem dX10_dayOn_212 : decode cX10_dayOn 212 = .ok (.aload_n 0, 1) := by decide +kernel
theorem dX10_dayOn_213 : decode cX10_dayOn 213 = .ok (.getfield 29, 3) := by decide +kernel
theorem dX10_dayOn_216 : decode cX10_dayOn 216 = .ok (.iload_n 1, 1) := by decide +kernel
theorem dX10_dayOn_217 : decode cX10_dayOn 217 = .ok (.iaload, 1) := by decide +kernel
theorem dX10_dayOn_218 : decode cX10_dayOn 218 = .ok (.iconst 1, 1) := by decide +kernel
theorem dX10_dayOn_219 : decode cX10_dayOn 219 = .ok (.if_icmp .ne 8, 3) := by decide +kernel
theorem dX10_dayOn_222 : decode cX10_dayOn 222 = .ok (.aload_n 0, 1) := by decide +kernel
theorem dX10_dayOn_223 : decode cX10_dayOn 223 = .ok (.iload_n 1, 1) := by decide +kernel
theorem dX10_dayOn_224 : decode cX10_dayOn 224 = .ok (.invokevirtual 161, 3) := by decide +kernel
theorem dX10_dayOn_227 : decode cX10_dayOn 227 = .ok (.iinc 1 1, 3) := by decide +kernel
theorem dX10_dayOn_230 : decode cX10_dayOn 230 = .ok (.goto (-42), 3) := by decide +kernel
theorem dX10_dayOn_233 : decode cX10_dayOn 233 = .ok (.iconst 0, 1) := by decide +kernel
theorem dX10_dayOn_234 : decode cX10_dayOn 234 = .ok (.istore_n 1, 1) := by decide +kernel
theorem dX10_dayOn_235 : decode cX10_dayOn 235 = .ok (.iload_n 1, 1) := by decide +kernel
theorem dX10_dayOn_236 : decode cX10_dayOn 236 = .ok (.aload_n 0, 1) := by decide +kernel
theorem dX10_dayOn_237 : decode cX10_dayOn 237 = .ok (.getfield 3, 3) := by decide +kernel
theorem dX10_dayOn_240 : decode cX10_dayOn 240 = .ok (.getfield 64, 3) := by decide +kernel
theorem dX10_dayOn_243 : decode cX10_dayOn 243 = .ok (.getfield 74, 3) := by decide +kernel
theorem dX10_dayOn_246 : decode cX10_dayOn 246 = .ok (.if_icmp .ge 54, 3) := by decide +kernel
theorem dX10_dayOn_249 : decode cX10_dayOn 249 = .ok (.iconst 0, 1) := by decide +kernel
theorem dX10_dayOn_250 : decode cX10_dayOn 250 = .ok (.istore_n 2, 1) := by decide +kernel
theorem dX10_dayOn_251 : decode cX10_dayOn 251 = .ok (.iload_n 2, 1) := by decide +kernel
theorem dX10_dayOn_252 : decode cX10_dayOn 252 = .ok (.aload_n 0, 1) := by decide +kernel
theorem dX10_dayOn_253 : decode cX10_dayOn 253 = .ok (.getfield 3, 3) := by decide +kernel
theorem dX10_dayOn_256 : decode cX10_dayOn 256 = .ok (.getfield 64, 3) := by decide +kernel
theorem dX10_dayOn_259 : decode cX10_dayOn 259 = .ok (.getfield 77, 3) := by decide +kernel
theorem dX10_dayOn_262 : decode cX10_dayOn 262 = .ok (.iload_n 1, 1) := by decide +kernel
theorem dX10_dayOn_263 : decode cX10_dayOn 263 = .ok (.iaload, 1) := by decide +kernel
theorem dX10_dayOn_264 : decode cX10_dayOn 264 = .ok (.if_icmp .ge 30, 3) := by decide +kernel
theorem dX10_dayOn_267 : decode cX10_dayOn 267 = .ok (.aload_n 0, 1) := by decide +kernel
theorem dX10_dayOn_268 : decode cX10_dayOn 268 = .ok (.getfield 29, 3) := by decide +kernel
theorem dX10_dayOn_271 : decode cX10_dayOn 271 = .ok (.iload_n 1, 1) := by decide +kernel
theorem dX10_dayOn_272 : decode cX10_dayOn 272 = .ok (.iaload, 1) := by decide +kernel
theorem dX10_dayOn_273 : decode cX10_dayOn 273 = .ok (.iconst 1, 1) := by decide +kernel
theorem dX10_dayOn_274 : decode cX10_dayOn 274 = .ok (.if_icmp .le 20, 3) := by decide +kernel
theorem dX10_dayOn_277 : decode cX10_dayOn 277 = .ok (.aload_n 0, 1) := by decide +kernel
theorem dX10_dayOn_278 : decode cX10_dayOn 278 = .ok (.iload_n 1, 1) := by decide +kernel
theorem dX10_dayOn_279 : decode cX10_dayOn 279 = .ok (.bipush 6, 2) := by decide +kernel
theorem dX10_dayOn_281 : decode cX10_dayOn 281 = .ok (.iload_n 1, 1) := by decide +kernel
theorem dX10_dayOn_282 : decode cX10_dayOn 282 = .ok (.imul, 1) := by decide +kernel
theorem dX10_dayOn_283 : decode cX10_dayOn 283 = .ok (.iload_n 2, 1) := by decide +kernel
theorem dX10_dayOn_284 : decode cX10_dayOn 284 = .ok (.iadd, 1) := by decide +kernel
theorem dX10_dayOn_285 : decode cX10_dayOn 285 = .ok (.invokevirtual 164, 3) := by decide +kernel
theorem dX10_dayOn_288 : decode cX10_dayOn 288 = .ok (.iinc 2 1, 3) := by decide +kernel
theorem dX10_dayOn_291 : decode cX10_dayOn 291 = .ok (.goto (-40), 3) := by decide +kernel
theorem dX10_dayOn_294 : decode cX10_dayOn 294 = .ok (.iinc 1 1, 3) := by decide +kernel
theorem dX10_dayOn_297 : decode cX10_dayOn 297 = .ok (.goto (-62), 3) := by decide +kernel
theorem dX10_dayOn_300 : decode cX10_dayOn 300 = .ok (.aload_n 0, 1) := by decide +kernel
theorem dX10_dayOn_301 : decode cX10_dayOn 301 = .ok (.dup, 1) := by decide +kernel
theorem dX10_dayOn_302 : decode cX10_dayOn 302 = .ok (.getfield 41, 3) := by decide +kernel
theorem dX10_dayOn_305 : decode cX10_dayOn 305 = .ok (.iconst 1, 1) := by decide +kernel
theorem dX10_dayOn_306 : decode cX10_dayOn 306 = .ok (.iadd, 1) := by decide +kernel
theorem dX10_dayOn_307 : decode cX10_dayOn 307 = .ok (.putfield 41, 3) := by decide +kernel
theorem dX10_dayOn_310 : decode cX10_dayOn 310 = .ok (.return_, 1) := by decide +kernel
theorem dX10_pass_0 : decode cX10_pass 0 = .ok (.iconst 0, 1) := by decide +kernel
theorem dX10_pass_1 : decode cX10_pass 1 = .ok (.istore_n 2, 1) := by decide +kernel
theorem dX10_pass_2 : decode cX10_pass 2 = .ok (.iload_n 2, 1) := by decide +kernel
theorem dX10_pass_3 : decode cX10_pass 3 = .ok (.iload_n 1, 1) := by decide +kernel
theorem dX10_pass_4 : decode cX10_pass 4 = .ok (.if_icmp .ge 13, 3) := by decide +kernel
theorem dX10_pass_7 : decode cX10_pass 7 = .ok (.aload_n 0, 1) := by decide +kernel
theorem dX10_pass_8 : decode cX10_pass 8 = .ok (.invokevirtual 167, 3) := by decide +kernel
theorem dX10_pass_11 : decode cX10_pass 11 = .ok (.iinc 2 1, 3) := by decide +kernel
theorem dX10_pass_14 : decode cX10_pass 14 = .ok (.goto (-12), 3) := by decide +kernel
theorem dX10_pass_17 : decode cX10_pass 17 = .ok (.aload_n 0, 1) := by decide +kernel
theorem dX10_pass_18 : decode cX10_pass 18 = .ok (.areturn, 1) := by decide +kernel
theorem dX10_untilFree_0 : decode cX10_untilFree 0 = .ok (.iconst 0, 1) := by decide +kernel
theorem dX10_untilFree_1 : decode cX10_untilFree 1 = .ok (.istore_n 2, 1) := by decide +kernel
theorem dX10_untilFree_2 : decode cX10_untilFree 2 = .ok (.iload_n 2, 1) := by decide +kernel
theorem dX10_untilFree_3 : decode cX10_untilFree 3 = .ok (.bipush 40, 2) := by decide +kernel
theorem dX10_untilFree_5 : decode cX10_untilFree 5 = .ok (.if_icmp .gt 25, 3) := by decide +kernel
theorem dX10_untilFree_8 : decode cX10_untilFree 8 = .ok (.aload_n 0, 1) := by decide +kernel
theorem dX10_untilFree_9 : decode cX10_untilFree 9 = .ok (.getfield 19, 3) := by decide +kernel
theorem dX10_untilFree_12 : decode cX10_untilFree 12 = .ok (.iload_n 1, 1) := by decide +kernel
theorem dX10_untilFree_13 : decode cX10_untilFree 13 = .ok (.iaload, 1) := by decide +kernel
theorem dX10_untilFree_14 : decode cX10_untilFree 14 = .ok (.iconst (-1), 1) := by decide +kernel
theorem dX10_untilFree_15 : decode cX10_untilFree 15 = .ok (.if_icmp .ne 5, 3) := by decide +kernel
theorem dX10_untilFree_18 : decode cX10_untilFree 18 = .ok (.iload_n 2, 1) := by decide +kernel
theorem dX10_untilFree_19 : decode cX10_untilFree 19 = .ok (.ireturn, 1) := by decide +kernel
theorem dX10_untilFree_20 : decode cX10_untilFree 20 = .ok (.aload_n 0, 1) := by decide +kernel
theorem dX10_untilFree_21 : decode cX10_untilFree 21 = .ok (.invokevirtual 167, 3) := by decide +kernel
theorem dX10_untilFree_24 : decode cX10_untilFree 24 = .ok (.iinc 2 1, 3) := by decide +kernel
theorem dX10_untilFree_27 : decode cX10_untilFree 27 = .ok (.goto (-25), 3) := by decide +kernel
theorem dX10_untilFree_30 : decode cX10_untilFree 30 = .ok (.iconst (-1), 1) := by decide +kernel
theorem dX10_untilFree_31 : decode cX10_untilFree 31 = .ok (.ireturn, 1) := by decide +kernel
