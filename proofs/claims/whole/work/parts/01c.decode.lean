theorem dX8_on_170 : decode cX8_on 170 = .ok (.goto 10, 3) := by decide +kernel
theorem dX8_on_173 : decode cX8_on 173 = .ok (.aload_n 0, 1) := by decide +kernel
theorem dX8_on_174 : decode cX8_on 174 = .ok (.getfield 18, 3) := by decide +kernel
theorem dX8_on_177 : decode cX8_on 177 = .ok (.getfield 194, 3) := by decide +kernel
theorem dX8_on_180 : decode cX8_on 180 = .ok (.ireturn, 1) := by decide +kernel
theorem dX8_clear_0 : decode cX8_clear 0 = .ok (.aload_n 0, 1) := by decide +kernel
theorem dX8_clear_1 : decode cX8_clear 1 = .ok (.getfield 18, 3) := by decide +kernel
theorem dX8_clear_4 : decode cX8_clear 4 = .ok (.aload_n 0, 1) := by decide +kernel
theorem dX8_clear_5 : decode cX8_clear 5 = .ok (.getfield 12, 3) := by decide +kernel
theorem dX8_clear_8 : decode cX8_clear 8 = .ok (.invokevirtual 210, 3) := by decide +kernel
theorem dX8_clear_11 : decode cX8_clear 11 = .ok (.iconst 0, 1) := by decide +kernel
theorem dX8_clear_12 : decode cX8_clear 12 = .ok (.istore_n 1, 1) := by decide +kernel
theorem dX8_clear_13 : decode cX8_clear 13 = .ok (.iload_n 1, 1) := by decide +kernel
theorem dX8_clear_14 : decode cX8_clear 14 = .ok (.bipush 99, 2) := by decide +kernel
theorem dX8_clear_16 : decode cX8_clear 16 = .ok (.if_icmp .gt 28, 3) := by decide +kernel
theorem dX8_clear_19 : decode cX8_clear 19 = .ok (.aload_n 0, 1) := by decide +kernel
theorem dX8_clear_20 : decode cX8_clear 20 = .ok (.getfield 18, 3) := by decide +kernel
theorem dX8_clear_23 : decode cX8_clear 23 = .ok (.invokevirtual 214, 3) := by decide +kernel
theorem dX8_clear_26 : decode cX8_clear 26 = .ok (.ifCond .ne 5, 3) := by decide +kernel
theorem dX8_clear_29 : decode cX8_clear 29 = .ok (.iload_n 1, 1) := by decide +kernel
theorem dX8_clear_30 : decode cX8_clear 30 = .ok (.ireturn, 1) := by decide +kernel
theorem dX8_clear_31 : decode cX8_clear 31 = .ok (.aload_n 0, 1) := by decide +kernel
theorem dX8_clear_32 : decode cX8_clear 32 = .ok (.getfield 18, 3) := by decide +kernel
theorem dX8_clear_35 : decode cX8_clear 35 = .ok (.invokevirtual 217, 3) := by decide +kernel
theorem dX8_clear_38 : decode cX8_clear 38 = .ok (.iinc 1 1, 3) := by decide +kernel
theorem dX8_clear_41 : decode cX8_clear 41 = .ok (.goto (-28), 3) := by decide +kernel
theorem dX8_clear_44 : decode cX8_clear 44 = .ok (.bipush (-5), 2) := by decide +kernel
theorem dX8_clear_46 : decode cX8_clear 46 = .ok (.ireturn, 1) := by decide +kernel
theorem dX8_stay_0 : decode cX8_stay 0 = .ok (.aload_n 0, 1) := by decide +kernel
theorem dX8_stay_1 : decode cX8_stay 1 = .ok (.getfield 18, 3) := by decide +kernel
theorem dX8_stay_4 : decode cX8_stay 4 = .ok (.aload_n 0, 1) := by decide +kernel
theorem dX8_stay_5 : decode cX8_stay 5 = .ok (.getfield 12, 3) := by decide +kernel
theorem dX8_stay_8 : decode cX8_stay 8 = .ok (.invokevirtual 210, 3) := by decide +kernel
theorem dX8_stay_11 : decode cX8_stay 11 = .ok (.aload_n 0, 1) := by decide +kernel
theorem dX8_stay_12 : decode cX8_stay 12 = .ok (.getfield 18, 3) := by decide +kernel
theorem dX8_stay_15 : decode cX8_stay 15 = .ok (.bipush 99, 2) := by decide +kernel
theorem dX8_stay_17 : decode cX8_stay 17 = .ok (.invokevirtual 207, 3) := by decide +kernel
theorem dX8_stay_20 : decode cX8_stay 20 = .ok (.iconst 1, 1) := by decide +kernel
theorem dX8_stay_21 : decode cX8_stay 21 = .ok (.aload_n 0, 1) := by decide +kernel
theorem dX8_stay_22 : decode cX8_stay 22 = .ok (.getfield 18, 3) := by decide +kernel
theorem dX8_stay_25 : decode cX8_stay 25 = .ok (.getfield 86, 3) := by decide +kernel
theorem dX8_stay_28 : decode cX8_stay 28 = .ok (.ishl, 1) := by decide +kernel
theorem dX8_stay_29 : decode cX8_stay 29 = .ok (.iconst 1, 1) := by decide +kernel
theorem dX8_stay_30 : decode cX8_stay 30 = .ok (.isub, 1) := by decide +kernel
theorem dX8_stay_31 : decode cX8_stay 31 = .ok (.istore_n 1, 1) := by decide +kernel
theorem dX8_stay_32 : decode cX8_stay 32 = .ok (.iload_n 1, 1) := by decide +kernel
theorem dX8_stay_33 : decode cX8_stay 33 = .ok (.aload_n 0, 1) := by decide +kernel
theorem dX8_stay_34 : decode cX8_stay 34 = .ok (.getfield 18, 3) := by decide +kernel
theorem dX8_stay_37 : decode cX8_stay 37 = .ok (.invokevirtual 203, 3) := by decide +kernel
theorem dX8_stay_40 : decode cX8_stay 40 = .ok (.iconst (-1), 1) := by decide +kernel
theorem dX8_stay_41 : decode cX8_stay 41 = .ok (.ixor, 1) := by decide +kernel
theorem dX8_stay_42 : decode cX8_stay 42 = .ok (.iand, 1) := by decide +kernel
theorem dX8_stay_43 : decode cX8_stay 43 = .ok (.ireturn, 1) := by decide +kernel
theorem dX8_best_0 : decode cX8_best 0 = .ok (.iload_n 1, 1) := by decide +kernel
theorem dX8_best_1 : decode cX8_best 1 = .ok (.ifCond .lt 8, 3) := by decide +kernel
theorem dX8_best_4 : decode cX8_best 4 = .ok (.iload_n 1, 1) := by decide +kernel
theorem dX8_best_5 : decode cX8_best 5 = .ok (.iconst 5, 1) := by decide +kernel
theorem dX8_best_6 : decode cX8_best 6 = .ok (.if_icmp .le 5, 3) := by decide +kernel
theorem dX8_best_9 : decode cX8_best 9 = .ok (.iconst (-1), 1) := by decide +kernel
theorem dX8_best_10 : decode cX8_best 10 = .ok (.ireturn, 1) := by decide +kernel
theorem dX8_best_11 : decode cX8_best 11 = .ok (.aload_n 0, 1) := by decide +kernel
theorem dX8_best_12 : decode cX8_best 12 = .ok (.getfield 18, 3) := by decide +kernel
theorem dX8_best_15 : decode cX8_best 15 = .ok (.aload_n 0, 1) := by decide +kernel
theorem dX8_best_16 : decode cX8_best 16 = .ok (.getfield 12, 3) := by decide +kernel
theorem dX8_best_19 : decode cX8_best 19 = .ok (.invokevirtual 210, 3) := by decide +kernel
theorem dX8_best_22 : decode cX8_best 22 = .ok (.aload_n 0, 1) := by decide +kernel
theorem dX8_best_23 : decode cX8_best 23 = .ok (.getfield 18, 3) := by decide +kernel
theorem dX8_best_26 : decode cX8_best 26 = .ok (.invokevirtual 220, 3) := by decide +kernel
theorem dX8_best_29 : decode cX8_best 29 = .ok (.istore_n 2, 1) := by decide +kernel
theorem dX8_best_30 : decode cX8_best 30 = .ok (.iload_n 1, 1) := by decide +kernel
theorem dX8_best_31 : decode cX8_best 31 = .ok (.iconst 5, 1) := by decide +kernel
theorem dX8_best_32 : decode cX8_best 32 = .ok (.if_icmp .ne 5, 3) := by decide +kernel
theorem dX8_best_35 : decode cX8_best 35 = .ok (.iload_n 2, 1) := by decide +kernel
theorem dX8_best_36 : decode cX8_best 36 = .ok (.ireturn, 1) := by decide +kernel
theorem dX8_best_37 : decode cX8_best 37 = .ok (.iload_n 1, 1) := by decide +kernel
theorem dX8_best_38 : decode cX8_best 38 = .ok (.iconst 1, 1) := by decide +kernel
theorem dX8_best_39 : decode cX8_best 39 = .ok (.if_icmp .eq 8, 3) := by decide +kernel
theorem dX8_best_42 : decode cX8_best 42 = .ok (.iload_n 1, 1) := by decide +kernel
theorem dX8_best_43 : decode cX8_best 43 = .ok (.iconst 4, 1) := by decide +kernel
theorem dX8_best_44 : decode cX8_best 44 = .ok (.if_icmp .ne 7, 3) := by decide +kernel
theorem dX8_best_47 : decode cX8_best 47 = .ok (.iconst 1, 1) := by decide +kernel
theorem dX8_best_48 : decode cX8_best 48 = .ok (.goto 4, 3) := by decide +kernel
theorem dX8_best_51 : decode cX8_best 51 = .ok (.iconst 0, 1) := by decide +kernel
theorem dX8_best_52 : decode cX8_best 52 = .ok (.istore_n 3, 1) := by decide +kernel
theorem dX8_best_53 : decode cX8_best 53 = .ok (.aload_n 0, 1) := by decide +kernel
theorem dX8_best_54 : decode cX8_best 54 = .ok (.iload_n 1, 1) := by decide +kernel
theorem dX8_best_55 : decode cX8_best 55 = .ok (.iload_n 3, 1) := by decide +kernel
theorem dX8_best_56 : decode cX8_best 56 = .ok (.ifCond .eq 7, 3) := by decide +kernel
theorem dX8_best_59 : decode cX8_best 59 = .ok (.iload_n 2, 1) := by decide +kernel
theorem dX8_best_60 : decode cX8_best 60 = .ok (.goto 5, 3) := by decide +kernel
theorem dX8_best_63 : decode cX8_best 63 = .ok (.bipush 7, 2) := by decide +kernel
theorem dX8_best_65 : decode cX8_best 65 = .ok (.invokevirtual 223, 3) := by decide +kernel
theorem dX8_best_68 : decode cX8_best 68 = .ok (.ireturn, 1) := by decide +kernel
theorem dX8_bestChange_0 : decode cX8_bestChange 0 = .ok (.iload_n 2, 1) := by decide +kernel
theorem dX8_bestChange_1 : decode cX8_bestChange 1 = .ok (.istore_n 3, 1) := by decide +kernel
theorem dX8_bestChange_2 : decode cX8_bestChange 2 = .ok (.bipush (-5), 2) := by decide +kernel
theorem dX8_bestChange_4 : decode cX8_bestChange 4 = .ok (.istore 4, 2) := by decide +kernel
theorem dX8_bestChange_6 : decode cX8_bestChange 6 = .ok (.iconst 0, 1) := by decide +kernel
theorem dX8_bestChange_7 : decode cX8_bestChange 7 = .ok (.istore 5, 2) := by decide +kernel
theorem dX8_bestChange_9 : decode cX8_bestChange 9 = .ok (.iload 5, 2) := by decide +kernel
theorem dX8_bestChange_11 : decode cX8_bestChange 11 = .ok (.bipush 46, 2) := by decide +kernel
theorem dX8_bestChange_13 : decode cX8_bestChange 13 = .ok (.if_icmp .ge 63, 3) := by decide +kernel
theorem dX8_bestChange_16 : decode cX8_bestChange 16 = .ok (.iload_n 3, 1) := by decide +kernel
theorem dX8_bestChange_17 : decode cX8_bestChange 17 = .ok (.ifCond .le 59, 3) := by decide +kernel
theorem dX8_bestChange_20 : decode cX8_bestChange 20 = .ok (.aload_n 0, 1) := by decide +kernel
theorem dX8_bestChange_21 : decode cX8_bestChange 21 = .ok (.iload_n 1, 1) := by decide +kernel
theorem dX8_bestChange_22 : decode cX8_bestChange 22 = .ok (.iload 5, 2) := by decide +kernel
theorem dX8_bestChange_24 : decode cX8_bestChange 24 = .ok (.invokevirtual 227, 3) := by decide +kernel
theorem dX8_bestChange_27 : decode cX8_bestChange 27 = .ok (.ifCond .eq 43, 3) := by decide +kernel
theorem dX8_bestChange_30 : decode cX8_bestChange 30 = .ok (.aload_n 0, 1) := by decide +kernel
theorem dX8_bestChange_31 : decode cX8_bestChange 31 = .ok (.getfield 18, 3) := by decide +kernel
theorem dX8_bestChange_34 : decode cX8_bestChange 34 = .ok (.aload_n 0, 1) := by decide +kernel
theorem dX8_bestChange_35 : decode cX8_bestChange 35 = .ok (.getfield 12, 3) := by decide +kernel
theorem dX8_bestChange_38 : decode cX8_bestChange 38 = .ok (.invokevirtual 210, 3) := by decide +kernel
theorem dX8_bestChange_41 : decode cX8_bestChange 41 = .ok (.aload_n 0, 1) := by decide +kernel
theorem dX8_bestChange_42 : decode cX8_bestChange 42 = .ok (.iload_n 1, 1) := by decide +kernel
theorem dX8_bestChange_43 : decode cX8_bestChange 43 = .ok (.iload 5, 2) := by decide +kernel
theorem dX8_bestChange_45 : decode cX8_bestChange 45 = .ok (.invokevirtual 231, 3) := by decide +kernel
theorem dX8_bestChange_48 : decode cX8_bestChange 48 = .ok (.aload_n 0, 1) := by decide +kernel
theorem dX8_bestChange_49 : decode cX8_bestChange 49 = .ok (.getfield 18, 3) := by decide +kernel
theorem dX8_bestChange_52 : decode cX8_bestChange 52 = .ok (.invokevirtual 220, 3) := by decide +kernel
theorem dX8_bestChange_55 : decode cX8_bestChange 55 = .ok (.istore 6, 2) := by decide +kernel
theorem dX8_bestChange_57 : decode cX8_bestChange 57 = .ok (.iload 6, 2) := by decide +kernel
theorem dX8_bestChange_59 : decode cX8_bestChange 59 = .ok (.iload_n 3, 1) := by decide +kernel
theorem dX8_bestChange_60 : decode cX8_bestChange 60 = .ok (.if_icmp .ge 10, 3) := by decide +kernel
theorem dX8_bestChange_63 : decode cX8_bestChange 63 = .ok (.iload 6, 2) := by decide +kernel
theorem dX8_bestChange_65 : decode cX8_bestChange 65 = .ok (.istore_n 3, 1) := by decide +kernel
theorem dX8_bestChange_66 : decode cX8_bestChange 66 = .ok (.iload 5, 2) := by decide +kernel
theorem dX8_bestChange_68 : decode cX8_bestChange 68 = .ok (.istore 4, 2) := by decide +kernel
theorem dX8_bestChange_70 : decode cX8_bestChange 70 = .ok (.iinc 5 1, 3) := by decide +kernel
theorem dX8_bestChange_73 : decode cX8_bestChange 73 = .ok (.goto (-64), 3) := by decide +kernel
theorem dX8_bestChange_76 : decode cX8_bestChange 76 = .ok (.iload 4, 2) := by decide +kernel
theorem dX8_bestChange_78 : decode cX8_bestChange 78 = .ok (.ireturn, 1) := by decide +kernel
theorem dX8_canChange_0 : decode cX8_canChange 0 = .ok (.iload_n 1, 1) := by decide +kernel
theorem dX8_canChange_1 : decode cX8_canChange 1 = .ok (.tableswitch 108 0 3 #[31, 48, 79, 96], 31) := by decide +kernel
theorem dX8_canChange_32 : decode cX8_canChange 32 = .ok (.iload_n 2, 1) := by decide +kernel
theorem dX8_canChange_33 : decode cX8_canChange 33 = .ok (.aload_n 0, 1) := by decide +kernel
theorem dX8_canChange_34 : decode cX8_canChange 34 = .ok (.getfield 12, 3) := by decide +kernel
theorem dX8_canChange_37 : decode cX8_canChange 37 = .ok (.getfield 159, 3) := by decide +kernel
theorem dX8_canChange_40 : decode cX8_canChange 40 = .ok (.if_icmp .ge 7, 3) := by decide +kernel
theorem dX8_canChange_43 : decode cX8_canChange 43 = .ok (.iconst 1, 1) := by decide +kernel
theorem dX8_canChange_44 : decode cX8_canChange 44 = .ok (.goto 4, 3) := by decide +kernel
theorem dX8_canChange_47 : decode cX8_canChange 47 = .ok (.iconst 0, 1) := by decide +kernel
theorem dX8_canChange_48 : decode cX8_canChange 48 = .ok (.ireturn, 1) := by decide +kernel
theorem dX8_canChange_49 : decode cX8_canChange 49 = .ok (.iload_n 2, 1) := by decide +kernel
theorem dX8_canChange_50 : decode cX8_canChange 50 = .ok (.bipush 10, 2) := by decide +kernel
theorem dX8_canChange_52 : decode cX8_canChange 52 = .ok (.idiv, 1) := by decide +kernel
theorem dX8_canChange_53 : decode cX8_canChange 53 = .ok (.iload_n 2, 1) := by decide +kernel
theorem dX8_canChange_54 : decode cX8_canChange 54 = .ok (.bipush 10, 2) := by decide +kernel
theorem dX8_canChange_56 : decode cX8_canChange 56 = .ok (.irem, 1) := by decide +kernel
theorem dX8_canChange_57 : decode cX8_canChange 57 = .ok (.if_icmp .ge 21, 3) := by decide +kernel
theorem dX8_canChange_60 : decode cX8_canChange 60 = .ok (.iload_n 2, 1) := by decide +kernel
theorem dX8_canChange_61 : decode cX8_canChange 61 = .ok (.bipush 10, 2) := by decide +kernel
theorem dX8_canChange_63 : decode cX8_canChange 63 = .ok (.irem, 1) := by decide +kernel
theorem dX8_canChange_64 : decode cX8_canChange 64 = .ok (.aload_n 0, 1) := by decide +kernel
theorem dX8_canChange_65 : decode cX8_canChange 65 = .ok (.getfield 12, 3) := by decide +kernel
theorem dX8_canChange_68 : decode cX8_canChange 68 = .ok (.getfield 159, 3) := by decide +kernel
theorem dX8_canChange_71 : decode cX8_canChange 71 = .ok (.if_icmp .ge 7, 3) := by decide +kernel
theorem dX8_canChange_74 : decode cX8_canChange 74 = .ok (.iconst 1, 1) := by decide +kernel
theorem dX8_canChange_75 : decode cX8_canChange 75 = .ok (.goto 4, 3) := by decide +kernel
theorem dX8_canChange_78 : decode cX8_canChange 78 = .ok (.iconst 0, 1) := by decide +kernel
theorem dX8_canChange_79 : decode cX8_canChange 79 = .ok (.ireturn, 1) := by decide +kernel
theorem dX8_canChange_80 : decode cX8_canChange 80 = .ok (.iload_n 2, 1) := by decide +kernel
theorem dX8_canChange_81 : decode cX8_canChange 81 = .ok (.iconst 1, 1) := by decide +kernel
theorem dX8_canChange_82 : decode cX8_canChange 82 = .ok (.if_icmp .lt 13, 3) := by decide +kernel
theorem dX8_canChange_85 : decode cX8_canChange 85 = .ok (.iload_n 2, 1) := by decide +kernel
theorem dX8_canChange_86 : decode cX8_canChange 86 = .ok (.bipush 9, 2) := by decide +kernel
theorem dX8_canChange_88 : decode cX8_canChange 88 = .ok (.if_icmp .gt 7, 3) := by decide +kernel
theorem dX8_canChange_91 : decode cX8_canChange 91 = .ok (.iconst 1, 1) := by decide +kernel
theorem dX8_canChange_92 : decode cX8_canChange 92 = .ok (.goto 4, 3) := by decide +kernel
theorem dX8_canChange_95 : decode cX8_canChange 95 = .ok (.iconst 0, 1) := by decide +kernel
theorem dX8_canChange_96 : decode cX8_canChange 96 = .ok (.ireturn, 1) := by decide +kernel
theorem dX8_canChange_97 : decode cX8_canChange 97 = .ok (.iload_n 2, 1) := by decide +kernel
theorem dX8_canChange_98 : decode cX8_canChange 98 = .ok (.bipush 15, 2) := by decide +kernel
theorem dX8_canChange_100 : decode cX8_canChange 100 = .ok (.if_icmp .gt 7, 3) := by decide +kernel
theorem dX8_canChange_103 : decode cX8_canChange 103 = .ok (.iconst 1, 1) := by decide +kernel
theorem dX8_canChange_104 : decode cX8_canChange 104 = .ok (.goto 4, 3) := by decide +kernel
theorem dX8_canChange_107 : decode cX8_canChange 107 = .ok (.iconst 0, 1) := by decide +kernel
theorem dX8_canChange_108 : decode cX8_canChange 108 = .ok (.ireturn, 1) := by decide +kernel
theorem dX8_canChange_109 : decode cX8_canChange 109 = .ok (.iload_n 2, 1) := by decide +kernel
theorem dX8_canChange_110 : decode cX8_canChange 110 = .ok (.aload_n 0, 1) := by decide +kernel
theorem dX8_canChange_111 : decode cX8_canChange 111 = .ok (.getfield 12, 3) := by decide +kernel
theorem dX8_canChange_114 : decode cX8_canChange 114 = .ok (.getfield 75, 3) := by decide +kernel
theorem dX8_canChange_117 : decode cX8_canChange 117 = .ok (.if_icmp .ge 7, 3) := by decide +kernel
theorem dX8_canChange_120 : decode cX8_canChange 120 = .ok (.iconst 1, 1) := by decide +kernel
theorem dX8_canChange_121 : decode cX8_canChange 121 = .ok (.goto 4, 3) := by decide +kernel
theorem dX8_canChange_124 : decode cX8_canChange 124 = .ok (.iconst 0, 1) := by decide +kernel
theorem dX8_canChange_125 : decode cX8_canChange 125 = .ok (.ireturn, 1) := by decide +kernel
theorem dX8_makeChange_0 : decode cX8_makeChange 0 = .ok (.iload_n 1, 1) := by decide +kernel
theorem dX8_makeChange_1 : decode cX8_makeChange 1 = .ok (.tableswitch 82 0 3 #[31, 42, 60, 71], 31) := by decide +kernel
theorem dX8_makeChange_32 : decode cX8_makeChange 32 = .ok (.aload_n 0, 1) := by decide +kernel
theorem dX8_makeChange_33 : decode cX8_makeChange 33 = .ok (.getfield 18, 3) := by decide +kernel
theorem dX8_makeChange_36 : decode cX8_makeChange 36 = .ok (.iload_n 2, 1) := by decide +kernel
theorem dX8_makeChange_37 : decode cX8_makeChange 37 = .ok (.invokevirtual 234, 3) := by decide +kernel
theorem dX8_makeChange_40 : decode cX8_makeChange 40 = .ok (.goto 51, 3) := by decide +kernel
theorem dX8_makeChange_43 : decode cX8_makeChange 43 = .ok (.aload_n 0, 1) := by decide +kernel
theorem dX8_makeChange_44 : decode cX8_makeChange 44 = .ok (.getfield 18, 3) := by decide +kernel
theorem dX8_makeChange_47 : decode cX8_makeChange 47 = .ok (.iload_n 2, 1) := by decide +kernel
theorem dX8_makeChange_48 : decode cX8_makeChange 48 = .ok (.bipush 10, 2) := by decide +kernel
theorem dX8_makeChange_50 : decode cX8_makeChange 50 = .ok (.idiv, 1) := by decide +kernel
theorem dX8_makeChange_51 : decode cX8_makeChange 51 = .ok (.iload_n 2, 1) := by decide +kernel
theorem dX8_makeChange_52 : decode cX8_makeChange 52 = .ok (.bipush 10, 2) := by decide +kernel
theorem dX8_makeChange_54 : decode cX8_makeChange 54 = .ok (.irem, 1) := by decide +kernel
theorem dX8_makeChange_55 : decode cX8_makeChange 55 = .ok (.invokevirtual 237, 3) := by decide +kernel
theorem dX8_makeChange_58 : decode cX8_makeChange 58 = .ok (.goto 33, 3) := by decide +kernel
theorem dX8_makeChange_61 : decode cX8_makeChange 61 = .ok (.aload_n 0, 1) := by decide +kernel
theorem dX8_makeChange_62 : decode cX8_makeChange 62 = .ok (.getfield 18, 3) := by decide +kernel
theorem dX8_makeChange_65 : decode cX8_makeChange 65 = .ok (.iload_n 2, 1) := by decide +kernel
theorem dX8_makeChange_66 : decode cX8_makeChange 66 = .ok (.putfield 240, 3) := by decide +kernel
theorem dX8_makeChange_69 : decode cX8_makeChange 69 = .ok (.goto 22, 3) := by decide +kernel
theorem dX8_makeChange_72 : decode cX8_makeChange 72 = .ok (.aload_n 0, 1) := by decide +kernel
theorem dX8_makeChange_73 : decode cX8_makeChange 73 = .ok (.getfield 18, 3) := by decide +kernel
theorem dX8_makeChange_76 : decode cX8_makeChange 76 = .ok (.iload_n 2, 1) := by decide +kernel
theorem dX8_makeChange_77 : decode cX8_makeChange 77 = .ok (.putfield 243, 3) := by decide +kernel
theorem dX8_makeChange_80 : decode cX8_makeChange 80 = .ok (.goto 11, 3) := by decide +kernel
theorem dX8_makeChange_83 : decode cX8_makeChange 83 = .ok (.aload_n 0, 1) := by decide +kernel
theorem dX8_makeChange_84 : decode cX8_makeChange 84 = .ok (.getfield 18, 3) := by decide +kernel
theorem dX8_makeChange_87 : decode cX8_makeChange 87 = .ok (.iload_n 2, 1) := by decide +kernel
theorem dX8_makeChange_88 : decode cX8_makeChange 88 = .ok (.invokevirtual 246, 3) := by decide +kernel
theorem dX8_makeChange_91 : decode cX8_makeChange 91 = .ok (.return_, 1) := by decide +kernel
theorem dX8_hides_0 : decode cX8_hides 0 = .ok (.aload_n 0, 1) := by decide +kernel
theorem dX8_hides_1 : decode cX8_hides 1 = .ok (.getfield 12, 3) := by decide +kernel
theorem dX8_hides_4 : decode cX8_hides 4 = .ok (.iload_n 1, 1) := by decide +kernel
theorem dX8_hides_5 : decode cX8_hides 5 = .ok (.invokevirtual 93, 3) := by decide +kernel
theorem dX8_hides_8 : decode cX8_hides 8 = .ok (.ifCond .ne 5, 3) := by decide +kernel
theorem dX8_hides_11 : decode cX8_hides 11 = .ok (.iconst (-1), 1) := by decide +kernel
theorem dX8_hides_12 : decode cX8_hides 12 = .ok (.ireturn, 1) := by decide +kernel
theorem dX8_hides_13 : decode cX8_hides 13 = .ok (.iconst 0, 1) := by decide +kernel
theorem dX8_hides_14 : decode cX8_hides 14 = .ok (.istore_n 2, 1) := by decide +kernel
theorem dX8_hides_15 : decode cX8_hides 15 = .ok (.iconst 0, 1) := by decide +kernel
theorem dX8_hides_16 : decode cX8_hides 16 = .ok (.istore_n 3, 1) := by decide +kernel
theorem dX8_hides_17 : decode cX8_hides 17 = .ok (.iload_n 3, 1) := by decide +kernel
theorem dX8_hides_18 : decode cX8_hides 18 = .ok (.bipush 30, 2) := by decide +kernel
theorem dX8_hides_20 : decode cX8_hides 20 = .ok (.if_icmp .ge 67, 3) := by decide +kernel
theorem dX8_hides_23 : decode cX8_hides 23 = .ok (.aload_n 0, 1) := by decide +kernel
theorem dX8_hides_24 : decode cX8_hides 24 = .ok (.getfield 18, 3) := by decide +kernel
theorem dX8_hides_27 : decode cX8_hides 27 = .ok (.aload_n 0, 1) := by decide +kernel
theorem dX8_hides_28 : decode cX8_hides 28 = .ok (.getfield 12, 3) := by decide +kernel
theorem dX8_hides_31 : decode cX8_hides 31 = .ok (.invokevirtual 210, 3) := by decide +kernel
theorem dX8_hides_34 : decode cX8_hides 34 = .ok (.aload_n 0, 1) := by decide +kernel
theorem dX8_hides_35 : decode cX8_hides 35 = .ok (.getfield 18, 3) := by decide +kernel
theorem dX8_hides_38 : decode cX8_hides 38 = .ok (.iload_n 1, 1) := by decide +kernel
theorem dX8_hides_39 : decode cX8_hides 39 = .ok (.invokevirtual 249, 3) := by decide +kernel
theorem dX8_hides_42 : decode cX8_hides 42 = .ok (.aload_n 0, 1) := by decide +kernel
theorem dX8_hides_43 : decode cX8_hides 43 = .ok (.getfield 18, 3) := by decide +kernel
theorem dX8_hides_46 : decode cX8_hides 46 = .ok (.iload_n 1, 1) := by decide +kernel
theorem dX8_hides_47 : decode cX8_hides 47 = .ok (.iload_n 3, 1) := by decide +kernel
theorem dX8_hides_48 : decode cX8_hides 48 = .ok (.invokevirtual 138, 3) := by decide +kernel
theorem dX8_hides_51 : decode cX8_hides 51 = .ok (.aload_n 0, 1) := by decide +kernel
theorem dX8_hides_52 : decode cX8_hides 52 = .ok (.getfield 18, 3) := by decide +kernel
theorem dX8_hides_55 : decode cX8_hides 55 = .ok (.bipush 30, 2) := by decide +kernel
theorem dX8_hides_57 : decode cX8_hides 57 = .ok (.invokevirtual 207, 3) := by decide +kernel
theorem dX8_hides_60 : decode cX8_hides 60 = .ok (.aload_n 0, 1) := by decide +kernel
theorem dX8_hides_61 : decode cX8_hides 61 = .ok (.getfield 18, 3) := by decide +kernel
theorem dX8_hides_64 : decode cX8_hides 64 = .ok (.getfield 96, 3) := by decide +kernel
theorem dX8_hides_67 : decode cX8_hides 67 = .ok (.iload_n 1, 1) := by decide +kernel
theorem dX8_hides_68 : decode cX8_hides 68 = .ok (.aaload, 1) := by decide +kernel
theorem dX8_hides_69 : decode cX8_hides 69 = .ok (.getfield 122, 3) := by decide +kernel
theorem dX8_hides_72 : decode cX8_hides 72 = .ok (.ifCond .ne 9, 3) := by decide +kernel
theorem dX8_hides_75 : decode cX8_hides 75 = .ok (.iload_n 2, 1) := by decide +kernel
theorem dX8_hides_76 : decode cX8_hides 76 = .ok (.iconst 1, 1) := by decide +kernel
theorem dX8_hides_77 : decode cX8_hides 77 = .ok (.iload_n 3, 1) := by decide +kernel
theorem dX8_hides_78 : decode cX8_hides 78 = .ok (.ishl, 1) := by decide +kernel
theorem dX8_hides_79 : decode cX8_hides 79 = .ok (.ior, 1) := by decide +kernel
theorem dX8_hides_80 : decode cX8_hides 80 = .ok (.istore_n 2, 1) := by decide +kernel
theorem dX8_hides_81 : decode cX8_hides 81 = .ok (.iinc 3 1, 3) := by decide +kernel
theorem dX8_hides_84 : decode cX8_hides 84 = .ok (.goto (-67), 3) := by decide +kernel
theorem dX8_hides_87 : decode cX8_hides 87 = .ok (.iload_n 2, 1) := by decide +kernel
theorem dX8_hides_88 : decode cX8_hides 88 = .ok (.ireturn, 1) := by decide +kernel
theorem dX8_see_0 : decode cX8_see 0 = .ok (.iload_n 1, 1) := by decide +kernel
theorem dX8_see_1 : decode cX8_see 1 = .ok (.iconst (-1), 1) := by decide +kernel
theorem dX8_see_2 : decode cX8_see 2 = .ok (.if_icmp .ne 13, 3) := by decide +kernel
theorem dX8_see_5 : decode cX8_see 5 = .ok (.aload_n 0, 1) := by decide +kernel
theorem dX8_see_6 : decode cX8_see 6 = .ok (.getfield 26, 3) := by decide +kernel
theorem dX8_see_9 : decode cX8_see 9 = .ok (.iconst 0, 1) := by decide +kernel
theorem dX8_see_10 : decode cX8_see 10 = .ok (.putfield 252, 3) := by decide +kernel
theorem dX8_see_13 : decode cX8_see 13 = .ok (.iconst 0, 1) := by decide +kernel
theorem dX8_see_14 : decode cX8_see 14 = .ok (.ireturn, 1) := by decide +kernel
theorem dX8_see_15 : decode cX8_see 15 = .ok (.aload_n 0, 1) := by decide +kernel
theorem dX8_see_16 : decode cX8_see 16 = .ok (.getfield 12, 3) := by decide +kernel
theorem dX8_see_19 : decode cX8_see 19 = .ok (.iload_n 1, 1) := by decide +kernel
theorem dX8_see_20 : decode cX8_see 20 = .ok (.invokevirtual 93, 3) := by decide +kernel
theorem dX8_see_23 : decode cX8_see 23 = .ok (.ifCond .ne 5, 3) := by decide +kernel
theorem dX8_see_26 : decode cX8_see 26 = .ok (.iconst (-1), 1) := by decide +kernel
theorem dX8_see_27 : decode cX8_see 27 = .ok (.ireturn, 1) := by decide +kernel
theorem dX8_see_28 : decode cX8_see 28 = .ok (.iload_n 3, 1) := by decide +kernel
theorem dX8_see_29 : decode cX8_see 29 = .ok (.ifCond .lt 9, 3) := by decide +kernel
theorem dX8_see_32 : decode cX8_see 32 = .ok (.iload_n 3, 1) := by decide +kernel
theorem dX8_see_33 : decode cX8_see 33 = .ok (.bipush 20, 2) := by decide +kernel
theorem dX8_see_35 : decode cX8_see 35 = .ok (.if_icmp .le 6, 3) := by decide +kernel
theorem dX8_see_38 : decode cX8_see 38 = .ok (.bipush (-2), 2) := by decide +kernel
theorem dX8_see_40 : decode cX8_see 40 = .ok (.ireturn, 1) := by decide +kernel
theorem dX8_see_41 : decode cX8_see 41 = .ok (.aload_n 0, 1) := by decide +kernel
theorem dX8_see_42 : decode cX8_see 42 = .ok (.getfield 26, 3) := by decide +kernel
theorem dX8_see_45 : decode cX8_see 45 = .ok (.invokevirtual 255, 3) := by decide +kernel
theorem dX8_see_48 : decode cX8_see 48 = .ok (.ifCond .eq 8, 3) := by decide +kernel
theorem dX8_see_51 : decode cX8_see 51 = .ok (.bipush (-4), 2) := by decide +kernel
theorem dX8_see_53 : decode cX8_see 53 = .ok (.goto 16, 3) := by decide +kernel
theorem dX8_see_56 : decode cX8_see 56 = .ok (.aload_n 0, 1) := by decide +kernel
theorem dX8_see_57 : decode cX8_see 57 = .ok (.getfield 26, 3) := by decide +kernel
theorem dX8_see_60 : decode cX8_see 60 = .ok (.iload_n 1, 1) := by decide +kernel
theorem dX8_see_61 : decode cX8_see 61 = .ok (.iload_n 2, 1) := by decide +kernel
theorem dX8_see_62 : decode cX8_see 62 = .ok (.invokestatic 115, 3) := by decide +kernel
theorem dX8_see_65 : decode cX8_see 65 = .ok (.iload_n 3, 1) := by decide +kernel
theorem dX8_see_66 : decode cX8_see 66 = .ok (.invokevirtual 259, 3) := by decide +kernel
theorem dX8_see_69 : decode cX8_see 69 = .ok (.ireturn, 1) := by decide +kernel
theorem dX8_where_0 : decode cX8_where 0 = .ok (.aload_n 0, 1) := by decide +kernel
theorem dX8_where_1 : decode cX8_where 1 = .ok (.getfield 12, 3) := by decide +kernel
theorem dX8_where_4 : decode cX8_where 4 = .ok (.iload_n 1, 1) := by decide +kernel
theorem dX8_where_5 : decode cX8_where 5 = .ok (.invokevirtual 93, 3) := by decide +kernel
theorem dX8_where_8 : decode cX8_where 8 = .ok (.ifCond .eq 10, 3) := by decide +kernel
theorem dX8_where_11 : decode cX8_where 11 = .ok (.iload_n 2, 1) := by decide +kernel
theorem dX8_where_12 : decode cX8_where 12 = .ok (.invokestatic 262, 3) := by decide +kernel
theorem dX8_where_15 : decode cX8_where 15 = .ok (.ifCond .ne 5, 3) := by decide +kernel
theorem dX8_where_18 : decode cX8_where 18 = .ok (.iconst (-1), 1) := by decide +kernel
theorem dX8_where_19 : decode cX8_where 19 = .ok (.ireturn, 1) := by decide +kernel
theorem dX8_where_20 : decode cX8_where 20 = .ok (.iconst 0, 1) := by decide +kernel
theorem dX8_where_21 : decode cX8_where 21 = .ok (.istore_n 3, 1) := by decide +kernel
theorem dX8_where_22 : decode cX8_where 22 = .ok (.iconst 0, 1) := by decide +kernel
theorem dX8_where_23 : decode cX8_where 23 = .ok (.istore 4, 2) := by decide +kernel
theorem dX8_where_25 : decode cX8_where 25 = .ok (.iload 4, 2) := by decide +kernel
theorem dX8_where_27 : decode cX8_where 27 = .ok (.bipush 30, 2) := by decide +kernel
theorem dX8_where_29 : decode cX8_where 29 = .ok (.if_icmp .ge 44, 3) := by decide +kernel
theorem dX8_where_32 : decode cX8_where 32 = .ok (.aload_n 0, 1) := by decide +kernel
theorem dX8_where_33 : decode cX8_where 33 = .ok (.getfield 18, 3) := by decide +kernel
theorem dX8_where_36 : decode cX8_where 36 = .ok (.aload_n 0, 1) := by decide +kernel
theorem dX8_where_37 : decode cX8_where 37 = .ok (.getfield 12, 3) := by decide +kernel
theorem dX8_where_40 : decode cX8_where 40 = .ok (.invokevirtual 210, 3) := by decide +kernel
theorem dX8_where_43 : decode cX8_where 43 = .ok (.aload_n 0, 1) := by decide +kernel
theorem dX8_where_44 : decode cX8_where 44 = .ok (.getfield 18, 3) := by decide +kernel
theorem dX8_where_47 : decode cX8_where 47 = .ok (.iload_n 1, 1) := by decide +kernel
theorem dX8_where_48 : decode cX8_where 48 = .ok (.iload 4, 2) := by decide +kernel
theorem dX8_where_50 : decode cX8_where 50 = .ok (.invokevirtual 138, 3) := by decide +kernel
theorem dX8_where_53 : decode cX8_where 53 = .ok (.aload_n 0, 1) := by decide +kernel
theorem dX8_where_54 : decode cX8_where 54 = .ok (.invokevirtual 265, 3) := by decide +kernel
theorem dX8_where_57 : decode cX8_where 57 = .ok (.ifCond .eq 10, 3) := by decide +kernel
theorem dX8_where_60 : decode cX8_where 60 = .ok (.iload_n 3, 1) := by decide +kernel
theorem dX8_where_61 : decode cX8_where 61 = .ok (.iconst 1, 1) := by decide +kernel
theorem dX8_where_62 : decode cX8_where 62 = .ok (.iload 4, 2) := by decide +kernel
theorem dX8_where_64 : decode cX8_where 64 = .ok (.ishl, 1) := by decide +kernel
theorem dX8_where_65 : decode cX8_where 65 = .ok (.ior, 1) := by decide +kernel
theorem dX8_where_66 : decode cX8_where 66 = .ok (.istore_n 3, 1) := by decide +kernel
theorem dX8_where_67 : decode cX8_where 67 = .ok (.iinc 4 1, 3) := by decide +kernel
theorem dX8_where_70 : decode cX8_where 70 = .ok (.goto (-45), 3) := by decide +kernel
theorem dX8_where_73 : decode cX8_where 73 = .ok (.iload_n 2, 1) := by decide +kernel
theorem dX8_where_74 : decode cX8_where 74 = .ok (.ifCond .ne 10, 3) := by decide +kernel
theorem dX8_where_77 : decode cX8_where 77 = .ok (.iload_n 3, 1) := by decide +kernel
theorem dX8_where_78 : decode cX8_where 78 = .ok (.invokestatic 268, 3) := by decide +kernel
theorem dX8_where_81 : decode cX8_where 81 = .ok (.goto 7, 3) := by decide +kernel
theorem dX8_where_84 : decode cX8_where 84 = .ok (.iload_n 3, 1) := by decide +kernel
theorem dX8_where_85 : decode cX8_where 85 = .ok (.invokestatic 273, 3) := by decide +kernel
theorem dX8_where_88 : decode cX8_where 88 = .ok (.ireturn, 1) := by decide +kernel
theorem dX8_can_0 : decode cX8_can 0 = .ok (.aload_n 0, 1) := by decide +kernel
theorem dX8_can_1 : decode cX8_can 1 = .ok (.getfield 12, 3) := by decide +kernel
theorem dX8_can_4 : decode cX8_can 4 = .ok (.iload_n 1, 1) := by decide +kernel
theorem dX8_can_5 : decode cX8_can 5 = .ok (.invokevirtual 93, 3) := by decide +kernel
theorem dX8_can_8 : decode cX8_can 8 = .ok (.ifCond .eq 10, 3) := by decide +kernel
theorem dX8_can_11 : decode cX8_can 11 = .ok (.iload_n 2, 1) := by decide +kernel
theorem dX8_can_12 : decode cX8_can 12 = .ok (.invokestatic 262, 3) := by decide +kernel
theorem dX8_can_15 : decode cX8_can 15 = .ok (.ifCond .ne 5, 3) := by decide +kernel
theorem dX8_can_18 : decode cX8_can 18 = .ok (.iconst (-1), 1) := by decide +kernel
theorem dX8_can_19 : decode cX8_can 19 = .ok (.ireturn, 1) := by decide +kernel
theorem dX8_can_20 : decode cX8_can 20 = .ok (.iconst 0, 1) := by decide +kernel
theorem dX8_can_21 : decode cX8_can 21 = .ok (.istore_n 3, 1) := by decide +kernel
theorem dX8_can_22 : decode cX8_can 22 = .ok (.iconst 0, 1) := by decide +kernel
theorem dX8_can_23 : decode cX8_can 23 = .ok (.istore 4, 2) := by decide +kernel
theorem dX8_can_25 : decode cX8_can 25 = .ok (.iload 4, 2) := by decide +kernel
theorem dX8_can_27 : decode cX8_can 27 = .ok (.bipush 10, 2) := by decide +kernel
theorem dX8_can_29 : decode cX8_can 29 = .ok (.if_icmp .ge 48, 3) := by decide +kernel
theorem dX8_can_32 : decode cX8_can 32 = .ok (.aload_n 0, 1) := by decide +kernel
theorem dX8_can_33 : decode cX8_can 33 = .ok (.getfield 18, 3) := by decide +kernel
theorem dX8_can_36 : decode cX8_can 36 = .ok (.aload_n 0, 1) := by decide +kernel
theorem dX8_can_37 : decode cX8_can 37 = .ok (.getfield 12, 3) := by decide +kernel
theorem dX8_can_40 : decode cX8_can 40 = .ok (.invokevirtual 210, 3) := by decide +kernel
theorem dX8_can_43 : decode cX8_can 43 = .ok (.aload_n 0, 1) := by decide +kernel
theorem dX8_can_44 : decode cX8_can 44 = .ok (.getfield 18, 3) := by decide +kernel
theorem dX8_can_47 : decode cX8_can 47 = .ok (.getfield 96, 3) := by decide +kernel
theorem dX8_can_50 : decode cX8_can 50 = .ok (.iload_n 1, 1) := by decide +kernel
theorem dX8_can_51 : decode cX8_can 51 = .ok (.aaload, 1) := by decide +kernel
theorem dX8_can_52 : decode cX8_can 52 = .ok (.iload 4, 2) := by decide +kernel
theorem dX8_can_54 : decode cX8_can 54 = .ok (.putfield 105, 3) := by decide +kernel
theorem dX8_can_57 : decode cX8_can 57 = .ok (.aload_n 0, 1) := by decide +kernel
theorem dX8_can_58 : decode cX8_can 58 = .ok (.invokevirtual 265, 3) := by decide +kernel
theorem dX8_can_61 : decode cX8_can 61 = .ok (.ifCond .eq 10, 3) := by decide +kernel
theorem dX8_can_64 : decode cX8_can 64 = .ok (.iload_n 3, 1) := by decide +kernel
theorem dX8_can_65 : decode cX8_can 65 = .ok (.iconst 1, 1) := by decide +kernel
theorem dX8_can_66 : decode cX8_can 66 = .ok (.iload 4, 2) := by decide +kernel
theorem dX8_can_68 : decode cX8_can 68 = .ok (.ishl, 1) := by decide +kernel
theorem dX8_can_69 : decode cX8_can 69 = .ok (.ior, 1) := by decide +kernel
theorem dX8_can_70 : decode cX8_can 70 = .ok (.istore_n 3, 1) := by decide +kernel
theorem dX8_can_71 : decode cX8_can 71 = .ok (.iinc 4 1, 3) := by decide +kernel
theorem dX8_can_74 : decode cX8_can 74 = .ok (.goto (-49), 3) := by decide +kernel
theorem dX8_can_77 : decode cX8_can 77 = .ok (.iload_n 2, 1) := by decide +kernel
theorem dX8_can_78 : decode cX8_can 78 = .ok (.ifCond .ne 10, 3) := by decide +kernel
theorem dX8_can_81 : decode cX8_can 81 = .ok (.iload_n 3, 1) := by decide +kernel
theorem dX8_can_82 : decode cX8_can 82 = .ok (.invokestatic 268, 3) := by decide +kernel
theorem dX8_can_85 : decode cX8_can 85 = .ok (.goto 7, 3) := by decide +kernel
theorem dX8_can_88 : decode cX8_can 88 = .ok (.iload_n 3, 1) := by decide +kernel
theorem dX8_can_89 : decode cX8_can 89 = .ok (.invokestatic 273, 3) := by decide +kernel
theorem dX8_can_92 : decode cX8_can 92 = .ok (.ireturn, 1) := by decide +kernel
theorem dX8_trialIsAsSeen_0 : decode cX8_trialIsAsSeen 0 = .ok (.iconst 0, 1) := by decide +kernel
theorem dX8_trialIsAsSeen_1 : decode cX8_trialIsAsSeen 1 = .ok (.istore_n 1, 1) := by decide +kernel
theorem dX8_trialIsAsSeen_2 : decode cX8_trialIsAsSeen 2 = .ok (.iconst 0, 1) := by decide +kernel
theorem dX8_trialIsAsSeen_3 : decode cX8_trialIsAsSeen 3 = .ok (.istore_n 2, 1) := by decide +kernel
theorem dX8_trialIsAsSeen_4 : decode cX8_trialIsAsSeen 4 = .ok (.iload_n 2, 1) := by decide +kernel
theorem dX8_trialIsAsSeen_5 : decode cX8_trialIsAsSeen 5 = .ok (.aload_n 0, 1) := by decide +kernel
theorem dX8_trialIsAsSeen_6 : decode cX8_trialIsAsSeen 6 = .ok (.getfield 26, 3) := by decide +kernel
theorem dX8_trialIsAsSeen_9 : decode cX8_trialIsAsSeen 9 = .ok (.getfield 252, 3) := by decide +kernel
theorem dX8_trialIsAsSeen_12 : decode cX8_trialIsAsSeen 12 = .ok (.if_icmp .ge 23, 3) := by decide +kernel
theorem dX8_trialIsAsSeen_15 : decode cX8_trialIsAsSeen 15 = .ok (.iload_n 1, 1) := by decide +kernel
theorem dX8_trialIsAsSeen_16 : decode cX8_trialIsAsSeen 16 = .ok (.aload_n 0, 1) := by decide +kernel
theorem dX8_trialIsAsSeen_17 : decode cX8_trialIsAsSeen 17 = .ok (.getfield 26, 3) := by decide +kernel
theorem dX8_trialIsAsSeen_20 : decode cX8_trialIsAsSeen 20 = .ok (.getfield 276, 3) := by decide +kernel
theorem dX8_trialIsAsSeen_23 : decode cX8_trialIsAsSeen 23 = .ok (.iload_n 2, 1) := by decide +kernel
theorem dX8_trialIsAsSeen_24 : decode cX8_trialIsAsSeen 24 = .ok (.iaload, 1) := by decide +kernel
theorem dX8_trialIsAsSeen_25 : decode cX8_trialIsAsSeen 25 = .ok (.invokestatic 279, 3) := by decide +kernel
theorem dX8_trialIsAsSeen_28 : decode cX8_trialIsAsSeen 28 = .ok (.istore_n 1, 1) := by decide +kernel
theorem dX8_trialIsAsSeen_29 : decode cX8_trialIsAsSeen 29 = .ok (.iinc 2 1, 3) := by decide +kernel
theorem dX8_trialIsAsSeen_32 : decode cX8_trialIsAsSeen 32 = .ok (.goto (-28), 3) := by decide +kernel
theorem dX8_trialIsAsSeen_35 : decode cX8_trialIsAsSeen 35 = .ok (.iconst 0, 1) := by decide +kernel
theorem dX8_trialIsAsSeen_36 : decode cX8_trialIsAsSeen 36 = .ok (.istore_n 2, 1) := by decide +kernel
theorem dX8_trialIsAsSeen_37 : decode cX8_trialIsAsSeen 37 = .ok (.iload_n 2, 1) := by decide +kernel
theorem dX8_trialIsAsSeen_38 : decode cX8_trialIsAsSeen 38 = .ok (.iload_n 1, 1) := by decide +kernel
theorem dX8_trialIsAsSeen_39 : decode cX8_trialIsAsSeen 39 = .ok (.if_icmp .gt 85, 3) := by decide +kernel
theorem dX8_trialIsAsSeen_42 : decode cX8_trialIsAsSeen 42 = .ok (.iconst 0, 1) := by decide +kernel
theorem dX8_trialIsAsSeen_43 : decode cX8_trialIsAsSeen 43 = .ok (.istore_n 3, 1) := by decide +kernel
theorem dX8_trialIsAsSeen_44 : decode cX8_trialIsAsSeen 44 = .ok (.iload_n 3, 1) := by decide +kernel
theorem dX8_trialIsAsSeen_45 : decode cX8_trialIsAsSeen 45 = .ok (.aload_n 0, 1) := by decide +kernel
theorem dX8_trialIsAsSeen_46 : decode cX8_trialIsAsSeen 46 = .ok (.getfield 26, 3) := by decide +kernel
theorem dX8_trialIsAsSeen_49 : decode cX8_trialIsAsSeen 49 = .ok (.getfield 252, 3) := by decide +kernel
theorem dX8_trialIsAsSeen_52 : decode cX8_trialIsAsSeen 52 = .ok (.if_icmp .ge 59, 3) := by decide +kernel
theorem dX8_trialIsAsSeen_55 : decode cX8_trialIsAsSeen 55 = .ok (.aload_n 0, 1) := by decide +kernel
theorem dX8_trialIsAsSeen_56 : decode cX8_trialIsAsSeen 56 = .ok (.getfield 26, 3) := by decide +kernel
theorem dX8_trialIsAsSeen_59 : decode cX8_trialIsAsSeen 59 = .ok (.getfield 276, 3) := by decide +kernel
theorem dX8_trialIsAsSeen_62 : decode cX8_trialIsAsSeen 62 = .ok (.iload_n 3, 1) := by decide +kernel
theorem dX8_trialIsAsSeen_63 : decode cX8_trialIsAsSeen 63 = .ok (.iaload, 1) := by decide +kernel
theorem dX8_trialIsAsSeen_64 : decode cX8_trialIsAsSeen 64 = .ok (.iload_n 2, 1) := by decide +kernel
theorem dX8_trialIsAsSeen_65 : decode cX8_trialIsAsSeen 65 = .ok (.if_icmp .ne 40, 3) := by decide +kernel
theorem dX8_trialIsAsSeen_68 : decode cX8_trialIsAsSeen 68 = .ok (.aload_n 0, 1) := by decide +kernel
theorem dX8_trialIsAsSeen_69 : decode cX8_trialIsAsSeen 69 = .ok (.getfield 18, 3) := by decide +kernel
theorem dX8_trialIsAsSeen_72 : decode cX8_trialIsAsSeen 72 = .ok (.getfield 96, 3) := by decide +kernel
theorem dX8_trialIsAsSeen_75 : decode cX8_trialIsAsSeen 75 = .ok (.aload_n 0, 1) := by decide +kernel
theorem dX8_trialIsAsSeen_76 : decode cX8_trialIsAsSeen 76 = .ok (.getfield 26, 3) := by decide +kernel
theorem dX8_trialIsAsSeen_79 : decode cX8_trialIsAsSeen 79 = .ok (.getfield 284, 3) := by decide +kernel
theorem dX8_trialIsAsSeen_82 : decode cX8_trialIsAsSeen 82 = .ok (.iload_n 3, 1) := by decide +kernel
theorem dX8_trialIsAsSeen_83 : decode cX8_trialIsAsSeen 83 = .ok (.iaload, 1) := by decide +kernel
theorem dX8_trialIsAsSeen_84 : decode cX8_trialIsAsSeen 84 = .ok (.aaload, 1) := by decide +kernel
theorem dX8_trialIsAsSeen_85 : decode cX8_trialIsAsSeen 85 = .ok (.getfield 122, 3) := by decide +kernel
theorem dX8_trialIsAsSeen_88 : decode cX8_trialIsAsSeen 88 = .ok (.invokestatic 115, 3) := by decide +kernel
theorem dX8_trialIsAsSeen_91 : decode cX8_trialIsAsSeen 91 = .ok (.aload_n 0, 1) := by decide +kernel
theorem dX8_trialIsAsSeen_92 : decode cX8_trialIsAsSeen 92 = .ok (.getfield 26, 3) := by decide +kernel
theorem dX8_trialIsAsSeen_95 : decode cX8_trialIsAsSeen 95 = .ok (.getfield 287, 3) := by decide +kernel
theorem dX8_trialIsAsSeen_98 : decode cX8_trialIsAsSeen 98 = .ok (.iload_n 3, 1) := by decide +kernel
theorem dX8_trialIsAsSeen_99 : decode cX8_trialIsAsSeen 99 = .ok (.iaload, 1) := by decide +kernel
theorem dX8_trialIsAsSeen_100 : decode cX8_trialIsAsSeen 100 = .ok (.if_icmp .eq 5, 3) := by decide +kernel
theorem dX8_trialIsAsSeen_103 : decode cX8_trialIsAsSeen 103 = .ok (.iconst 0, 1) := by decide +kernel
theorem dX8_trialIsAsSeen_104 : decode cX8_trialIsAsSeen 104 = .ok (.ireturn, 1) := by decide +kernel
theorem dX8_trialIsAsSeen_105 : decode cX8_trialIsAsSeen 105 = .ok (.iinc 3 1, 3) := by decide +kernel
theorem dX8_trialIsAsSeen_108 : decode cX8_trialIsAsSeen 108 = .ok (.goto (-64), 3) := by decide +kernel
theorem dX8_trialIsAsSeen_111 : decode cX8_trialIsAsSeen 111 = .ok (.aload_n 0, 1) := by decide +kernel
theorem dX8_trialIsAsSeen_112 : decode cX8_trialIsAsSeen 112 = .ok (.getfield 18, 3) := by decide +kernel
theorem dX8_trialIsAsSeen_115 : decode cX8_trialIsAsSeen 115 = .ok (.invokevirtual 217, 3) := by decide +kernel
theorem dX8_trialIsAsSeen_118 : decode cX8_trialIsAsSeen 118 = .ok (.iinc 2 1, 3) := by decide +kernel
theorem dX8_trialIsAsSeen_121 : decode cX8_trialIsAsSeen 121 = .ok (.goto (-84), 3) := by decide +kernel
theorem dX8_trialIsAsSeen_124 : decode cX8_trialIsAsSeen 124 = .ok (.iconst 1, 1) := by decide +kernel
theorem dX8_trialIsAsSeen_125 : decode cX8_trialIsAsSeen 125 = .ok (.ireturn, 1) := by decide +kernel
theorem dX8_leastOf_0 : decode cX8_leastOf 0 = .ok (.iload_n 0, 1) := by decide +kernel
theorem dX8_leastOf_1 : decode cX8_leastOf 1 = .ok (.ifCond .ne 8, 3) := by decide +kernel
theorem dX8_leastOf_4 : decode cX8_leastOf 4 = .ok (.bipush (-5), 2) := by decide +kernel
theorem dX8_leastOf_6 : decode cX8_leastOf 6 = .ok (.goto 7, 3) := by decide +kernel
theorem dX8_leastOf_9 : decode cX8_leastOf 9 = .ok (.iload_n 0, 1) := by decide +kernel
theorem dX8_leastOf_10 : decode cX8_leastOf 10 = .ok (.invokestatic 290, 3) := by decide +kernel
theorem dX8_leastOf_13 : decode cX8_leastOf 13 = .ok (.ireturn, 1) := by decide +kernel
theorem dX8_odds_0 : decode cX8_odds 0 = .ok (.iload_n 1, 1) := by decide +kernel
theorem dX8_odds_1 : decode cX8_odds 1 = .ok (.ifCond .lt 26, 3) := by decide +kernel
theorem dX8_odds_4 : decode cX8_odds 4 = .ok (.iload_n 1, 1) := by decide +kernel
theorem dX8_odds_5 : decode cX8_odds 5 = .ok (.bipush 99, 2) := by decide +kernel
theorem dX8_odds_7 : decode cX8_odds 7 = .ok (.if_icmp .gt 20, 3) := by decide +kernel
theorem dX8_odds_10 : decode cX8_odds 10 = .ok (.iload_n 2, 1) := by decide +kernel
theorem dX8_odds_11 : decode cX8_odds 11 = .ok (.invokestatic 262, 3) := by decide +kernel
theorem dX8_odds_14 : decode cX8_odds 14 = .ok (.ifCond .eq 13, 3) := by decide +kernel
theorem dX8_odds_17 : decode cX8_odds 17 = .ok (.aload_n 0, 1) := by decide +kernel
theorem dX8_odds_18 : decode cX8_odds 18 = .ok (.getfield 12, 3) := by decide +kernel
theorem dX8_odds_21 : decode cX8_odds 21 = .ok (.getfield 86, 3) := by decide +kernel
theorem dX8_odds_24 : decode cX8_odds 24 = .ok (.ifCond .ne 7, 3) := by decide +kernel
theorem dX8_odds_27 : decode cX8_odds 27 = .ok (.ldc2_w 293, 3) := by decide +kernel
theorem dX8_odds_30 : decode cX8_odds 30 = .ok (.lreturn, 1) := by decide +kernel
theorem dX8_odds_31 : decode cX8_odds 31 = .ok (.iconst 0, 1) := by decide +kernel
theorem dX8_odds_32 : decode cX8_odds 32 = .ok (.istore_n 3, 1) := by decide +kernel
theorem dX8_odds_33 : decode cX8_odds 33 = .ok (.iconst 0, 1) := by decide +kernel
theorem dX8_odds_34 : decode cX8_odds 34 = .ok (.istore 4, 2) := by decide +kernel
theorem dX8_odds_36 : decode cX8_odds 36 = .ok (.iload 4, 2) := by decide +kernel
theorem dX8_odds_38 : decode cX8_odds 38 = .ok (.aload_n 0, 1) := by decide +kernel
theorem dX8_odds_39 : decode cX8_odds 39 = .ok (.getfield 12, 3) := by decide +kernel
theorem dX8_odds_42 : decode cX8_odds 42 = .ok (.getfield 86, 3) := by decide +kernel
theorem dX8_odds_45 : decode cX8_odds 45 = .ok (.if_icmp .ge 55, 3) := by decide +kernel
theorem dX8_odds_48 : decode cX8_odds 48 = .ok (.aload_n 0, 1) := by decide +kernel
theorem dX8_odds_49 : decode cX8_odds 49 = .ok (.getfield 18, 3) := by decide +kernel
theorem dX8_odds_52 : decode cX8_odds 52 = .ok (.aload_n 0, 1) := by decide +kernel
theorem dX8_odds_53 : decode cX8_odds 53 = .ok (.getfield 12, 3) := by decide +kernel
theorem dX8_odds_56 : decode cX8_odds 56 = .ok (.invokevirtual 210, 3) := by decide +kernel
theorem dX8_odds_59 : decode cX8_odds 59 = .ok (.aload_n 0, 1) := by decide +kernel
theorem dX8_odds_60 : decode cX8_odds 60 = .ok (.getfield 18, 3) := by decide +kernel
theorem dX8_odds_63 : decode cX8_odds 63 = .ok (.getfield 96, 3) := by decide +kernel
theorem dX8_odds_66 : decode cX8_odds 66 = .ok (.iload 4, 2) := by decide +kernel
theorem dX8_odds_68 : decode cX8_odds 68 = .ok (.aaload, 1) := by decide +kernel
theorem dX8_odds_69 : decode cX8_odds 69 = .ok (.iconst 1, 1) := by decide +kernel
theorem dX8_odds_70 : decode cX8_odds 70 = .ok (.putfield 111, 3) := by decide +kernel
theorem dX8_odds_73 : decode cX8_odds 73 = .ok (.aload_n 0, 1) := by decide +kernel
theorem dX8_odds_74 : decode cX8_odds 74 = .ok (.getfield 18, 3) := by decide +kernel
theorem dX8_odds_77 : decode cX8_odds 77 = .ok (.iload_n 1, 1) := by decide +kernel
theorem dX8_odds_78 : decode cX8_odds 78 = .ok (.invokevirtual 207, 3) := by decide +kernel
theorem dX8_odds_81 : decode cX8_odds 81 = .ok (.aload_n 0, 1) := by decide +kernel
theorem dX8_odds_82 : decode cX8_odds 82 = .ok (.getfield 18, 3) := by decide +kernel
theorem dX8_odds_85 : decode cX8_odds 85 = .ok (.invokevirtual 214, 3) := by decide +kernel
theorem dX8_odds_88 : decode cX8_odds 88 = .ok (.ifCond .ne 6, 3) := by decide +kernel
theorem dX8_odds_91 : decode cX8_odds 91 = .ok (.iinc 3 1, 3) := by decide +kernel
theorem dX8_odds_94 : decode cX8_odds 94 = .ok (.iinc 4 1, 3) := by decide +kernel
theorem dX8_odds_97 : decode cX8_odds 97 = .ok (.goto (-61), 3) := by decide +kernel
theorem dX8_odds_100 : decode cX8_odds 100 = .ok (.iload_n 3, 1) := by decide +kernel
theorem dX8_odds_101 : decode cX8_odds 101 = .ok (.aload_n 0, 1) := by decide +kernel
theorem dX8_odds_102 : decode cX8_odds 102 = .ok (.getfield 12, 3) := by decide +kernel
theorem dX8_odds_105 : decode cX8_odds 105 = .ok (.getfield 86, 3) := by decide +kernel
theorem dX8_odds_108 : decode cX8_odds 108 = .ok (.iload_n 2, 1) := by decide +kernel
theorem dX8_odds_109 : decode cX8_odds 109 = .ok (.invokestatic 295, 3) := by decide +kernel
theorem dX8_odds_112 : decode cX8_odds 112 = .ok (.lreturn, 1) := by decide +kernel
theorem dX8_mean_0 : decode cX8_mean 0 = .ok (.iload_n 1, 1) := by decide +kernel
theorem dX8_mean_1 : decode cX8_mean 1 = .ok (.iconst 1, 1) := by decide +kernel
theorem dX8_mean_2 : decode cX8_mean 2 = .ok (.if_icmp .lt 16, 3) := by decide +kernel
theorem dX8_mean_5 : decode cX8_mean 5 = .ok (.iload_n 1, 1) := by decide +kernel
theorem dX8_mean_6 : decode cX8_mean 6 = .ok (.bipush 60, 2) := by decide +kernel
theorem dX8_mean_8 : decode cX8_mean 8 = .ok (.if_icmp .gt 10, 3) := by decide +kernel
theorem dX8_mean_11 : decode cX8_mean 11 = .ok (.iload_n 2, 1) := by decide +kernel
theorem dX8_mean_12 : decode cX8_mean 12 = .ok (.invokestatic 262, 3) := by decide +kernel
theorem dX8_mean_15 : decode cX8_mean 15 = .ok (.ifCond .ne 7, 3) := by decide +kernel
theorem dX8_mean_18 : decode cX8_mean 18 = .ok (.ldc2_w 293, 3) := by decide +kernel
theorem dX8_mean_21 : decode cX8_mean 21 = .ok (.lreturn, 1) := by decide +kernel
theorem dX8_mean_22 : decode cX8_mean 22 = .ok (.aload_n 0, 1) := by decide +kernel
theorem dX8_mean_23 : decode cX8_mean 23 = .ok (.getfield 18, 3) := by decide +kernel
theorem dX8_mean_26 : decode cX8_mean 26 = .ok (.aload_n 0, 1) := by decide +kernel
theorem dX8_mean_27 : decode cX8_mean 27 = .ok (.getfield 12, 3) := by decide +kernel
theorem dX8_mean_30 : decode cX8_mean 30 = .ok (.invokevirtual 210, 3) := by decide +kernel
theorem dX8_mean_33 : decode cX8_mean 33 = .ok (.iconst 0, 1) := by decide +kernel
theorem dX8_mean_34 : decode cX8_mean 34 = .ok (.istore_n 3, 1) := by decide +kernel
theorem dX8_mean_35 : decode cX8_mean 35 = .ok (.iconst 1, 1) := by decide +kernel
theorem dX8_mean_36 : decode cX8_mean 36 = .ok (.istore 4, 2) := by decide +kernel
theorem dX8_mean_38 : decode cX8_mean 38 = .ok (.iload 4, 2) := by decide +kernel
theorem dX8_mean_40 : decode cX8_mean 40 = .ok (.iload_n 1, 1) := by decide +kernel
theorem dX8_mean_41 : decode cX8_mean 41 = .ok (.if_icmp .gt 34, 3) := by decide +kernel
theorem dX8_mean_44 : decode cX8_mean 44 = .ok (.aload_n 0, 1) := by decide +kernel
theorem dX8_mean_45 : decode cX8_mean 45 = .ok (.getfield 18, 3) := by decide +kernel
theorem dX8_mean_48 : decode cX8_mean 48 = .ok (.invokevirtual 217, 3) := by decide +kernel
theorem dX8_mean_51 : decode cX8_mean 51 = .ok (.iload_n 3, 1) := by decide +kernel
theorem dX8_mean_52 : decode cX8_mean 52 = .ok (.aload_n 0, 1) := by decide +kernel
theorem dX8_mean_53 : decode cX8_mean 53 = .ok (.getfield 18, 3) := by decide +kernel
theorem dX8_mean_56 : decode cX8_mean 56 = .ok (.getfield 86, 3) := by decide +kernel
theorem dX8_mean_59 : decode cX8_mean 59 = .ok (.aload_n 0, 1) := by decide +kernel
theorem dX8_mean_60 : decode cX8_mean 60 = .ok (.getfield 18, 3) := by decide +kernel
theorem dX8_mean_63 : decode cX8_mean 63 = .ok (.invokevirtual 214, 3) := by decide +kernel
theorem dX8_mean_66 : decode cX8_mean 66 = .ok (.isub, 1) := by decide +kernel
theorem dX8_mean_67 : decode cX8_mean 67 = .ok (.iadd, 1) := by decide +kernel
theorem dX8_mean_68 : decode cX8_mean 68 = .ok (.istore_n 3, 1) := by decide +kernel
theorem dX8_mean_69 : decode cX8_mean 69 = .ok (.iinc 4 1, 3) := by decide +kernel
theorem dX8_mean_72 : decode cX8_mean 72 = .ok (.goto (-34), 3) := by decide +kernel
theorem dX8_mean_75 : decode cX8_mean 75 = .ok (.iload_n 3, 1) := by decide +kernel
theorem dX8_mean_76 : decode cX8_mean 76 = .ok (.iload_n 1, 1) := by decide +kernel
theorem dX8_mean_77 : decode cX8_mean 77 = .ok (.iload_n 2, 1) := by decide +kernel
theorem dX8_mean_78 : decode cX8_mean 78 = .ok (.invokestatic 295, 3) := by decide +kernel
theorem dX8_mean_81 : decode cX8_mean 81 = .ok (.lreturn, 1) := by decide +kernel
theorem dX8_fractionPart_0 : decode cX8_fractionPart 0 = .ok (.iload_n 0, 1) := by decide +kernel
theorem dX8_fractionPart_1 : decode cX8_fractionPart 1 = .ok (.iload_n 1, 1) := by decide +kernel
theorem dX8_fractionPart_2 : decode cX8_fractionPart 2 = .ok (.invokestatic 299, 3) := by decide +kernel
theorem dX8_fractionPart_5 : decode cX8_fractionPart 5 = .ok (.istore_n 3, 1) := by decide +kernel
theorem dX8_fractionPart_6 : decode cX8_fractionPart 6 = .ok (.iload_n 3, 1) := by decide +kernel
theorem dX8_fractionPart_7 : decode cX8_fractionPart 7 = .ok (.iconst 1, 1) := by decide +kernel
theorem dX8_fractionPart_8 : decode cX8_fractionPart 8 = .ok (.if_icmp .ge 7, 3) := by decide +kernel
theorem dX8_fractionPart_11 : decode cX8_fractionPart 11 = .ok (.ldc2_w 293, 3) := by decide +kernel
theorem dX8_fractionPart_14 : decode cX8_fractionPart 14 = .ok (.lreturn, 1) := by decide +kernel
theorem dX8_fractionPart_15 : decode cX8_fractionPart 15 = .ok (.iload_n 2, 1) := by decide +kernel
theorem dX8_fractionPart_16 : decode cX8_fractionPart 16 = .ok (.ifCond .ne 10, 3) := by decide +kernel
theorem dX8_fractionPart_19 : decode cX8_fractionPart 19 = .ok (.iload_n 0, 1) := by decide +kernel
theorem dX8_fractionPart_20 : decode cX8_fractionPart 20 = .ok (.iload_n 3, 1) := by decide +kernel
theorem dX8_fractionPart_21 : decode cX8_fractionPart 21 = .ok (.idiv, 1) := by decide +kernel
theorem dX8_fractionPart_22 : decode cX8_fractionPart 22 = .ok (.i2l, 1) := by decide +kernel
theorem dX8_fractionPart_23 : decode cX8_fractionPart 23 = .ok (.goto 7, 3) := by decide +kernel
theorem dX8_fractionPart_26 : decode cX8_fractionPart 26 = .ok (.iload_n 1, 1) := by decide +kernel
theorem dX8_fractionPart_27 : decode cX8_fractionPart 27 = .ok (.iload_n 3, 1) := by decide +kernel
theorem dX8_fractionPart_28 : decode cX8_fractionPart 28 = .ok (.idiv, 1) := by decide +kernel
theorem dX8_fractionPart_29 : decode cX8_fractionPart 29 = .ok (.i2l, 1) := by decide +kernel
theorem dX8_fractionPart_30 : decode cX8_fractionPart 30 = .ok (.lreturn, 1) := by decide +kernel
theorem dX8_commonDivisor_0 : decode cX8_commonDivisor 0 = .ok (.iload_n 0, 1) := by decide +kernel
theorem dX8_commonDivisor_1 : decode cX8_commonDivisor 1 = .ok (.istore_n 2, 1) := by decide +kernel
theorem dX8_commonDivisor_2 : decode cX8_commonDivisor 2 = .ok (.iload_n 1, 1) := by decide +kernel
theorem dX8_commonDivisor_3 : decode cX8_commonDivisor 3 = .ok (.istore_n 3, 1) := by decide +kernel
theorem dX8_commonDivisor_4 : decode cX8_commonDivisor 4 = .ok (.iconst 0, 1) := by decide +kernel
theorem dX8_commonDivisor_5 : decode cX8_commonDivisor 5 = .ok (.istore 4, 2) := by decide +kernel
theorem dX8_commonDivisor_7 : decode cX8_commonDivisor 7 = .ok (.iload 4, 2) := by decide +kernel
theorem dX8_commonDivisor_9 : decode cX8_commonDivisor 9 = .ok (.bipush 100, 2) := by decide +kernel
theorem dX8_commonDivisor_11 : decode cX8_commonDivisor 11 = .ok (.if_icmp .ge 23, 3) := by decide +kernel
theorem dX8_commonDivisor_14 : decode cX8_commonDivisor 14 = .ok (.iload_n 3, 1) := by decide +kernel
theorem dX8_commonDivisor_15 : decode cX8_commonDivisor 15 = .ok (.ifCond .eq 19, 3) := by decide +kernel
theorem dX8_commonDivisor_18 : decode cX8_commonDivisor 18 = .ok (.iload_n 2, 1) := by decide +kernel
theorem dX8_commonDivisor_19 : decode cX8_commonDivisor 19 = .ok (.iload_n 3, 1) := by decide +kernel
theorem dX8_commonDivisor_20 : decode cX8_commonDivisor 20 = .ok (.irem, 1) := by decide +kernel
theorem dX8_commonDivisor_21 : decode cX8_commonDivisor 21 = .ok (.istore 5, 2) := by decide +kernel
theorem dX8_commonDivisor_23 : decode cX8_commonDivisor 23 = .ok (.iload_n 3, 1) := by decide +kernel
theorem dX8_commonDivisor_24 : decode cX8_commonDivisor 24 = .ok (.istore_n 2, 1) := by decide +kernel
theorem dX8_commonDivisor_25 : decode cX8_commonDivisor 25 = .ok (.iload 5, 2) := by decide +kernel
theorem dX8_commonDivisor_27 : decode cX8_commonDivisor 27 = .ok (.istore_n 3, 1) := by decide +kernel
theorem dX8_commonDivisor_28 : decode cX8_commonDivisor 28 = .ok (.iinc 4 1, 3) := by decide +kernel
theorem dX8_commonDivisor_31 : decode cX8_commonDivisor 31 = .ok (.goto (-24), 3) := by decide +kernel
theorem dX8_commonDivisor_34 : decode cX8_commonDivisor 34 = .ok (.iload_n 2, 1) := by decide +kernel
theorem dX8_commonDivisor_35 : decode cX8_commonDivisor 35 = .ok (.ireturn, 1) := by decide +kernel
theorem dX8_evening_0 : decode cX8_evening 0 = .ok (.iload_n 1, 1) := by decide +kernel
theorem dX8_evening_1 : decode cX8_evening 1 = .ok (.iconst (-1), 1) := by decide +kernel
theorem dX8_evening_2 : decode cX8_evening 2 = .ok (.if_icmp .ne 13, 3) := by decide +kernel
theorem dX8_evening_5 : decode cX8_evening 5 = .ok (.aload_n 0, 1) := by decide +kernel
theorem dX8_evening_6 : decode cX8_evening 6 = .ok (.getfield 30, 3) := by decide +kernel
theorem dX8_evening_9 : decode cX8_evening 9 = .ok (.iconst 0, 1) := by decide +kernel
theorem dX8_evening_10 : decode cX8_evening 10 = .ok (.putfield 252, 3) := by decide +kernel
theorem dX8_evening_13 : decode cX8_evening 13 = .ok (.iconst 0, 1) := by decide +kernel
theorem dX8_evening_14 : decode cX8_evening 14 = .ok (.ireturn, 1) := by decide +kernel
theorem dX8_evening_15 : decode cX8_evening 15 = .ok (.iload_n 1, 1) := by decide +kernel
theorem dX8_evening_16 : decode cX8_evening 16 = .ok (.iconst 1, 1) := by decide +kernel
theorem dX8_evening_17 : decode cX8_evening 17 = .ok (.if_icmp .eq 8, 3) := by decide +kernel
theorem dX8_evening_20 : decode cX8_evening 20 = .ok (.iload_n 1, 1) := by decide +kernel
theorem dX8_evening_21 : decode cX8_evening 21 = .ok (.iconst 2, 1) := by decide +kernel
theorem dX8_evening_22 : decode cX8_evening 22 = .ok (.if_icmp .ne 18, 3) := by decide +kernel
theorem dX8_evening_25 : decode cX8_evening 25 = .ok (.aload_n 0, 1) := by decide +kernel
theorem dX8_evening_26 : decode cX8_evening 26 = .ok (.getfield 12, 3) := by decide +kernel
theorem dX8_evening_29 : decode cX8_evening 29 = .ok (.iload_n 2, 1) := by decide +kernel
theorem dX8_evening_30 : decode cX8_evening 30 = .ok (.invokevirtual 142, 3) := by decide +kernel
theorem dX8_evening_33 : decode cX8_evening 33 = .ok (.ifCond .ne 7, 3) := by decide +kernel
theorem dX8_evening_36 : decode cX8_evening 36 = .ok (.iconst 1, 1) := by decide +kernel
theorem dX8_evening_37 : decode cX8_evening 37 = .ok (.goto 4, 3) := by decide +kernel
theorem dX8_evening_40 : decode cX8_evening 40 = .ok (.iconst 0, 1) := by decide +kernel
theorem dX8_evening_41 : decode cX8_evening 41 = .ok (.istore_n 3, 1) := by decide +kernel
theorem dX8_evening_42 : decode cX8_evening 42 = .ok (.iload_n 1, 1) := by decide +kernel
theorem dX8_evening_43 : decode cX8_evening 43 = .ok (.iconst 3, 1) := by decide +kernel
theorem dX8_evening_44 : decode cX8_evening 44 = .ok (.if_icmp .ne 18, 3) := by decide +kernel
theorem dX8_evening_47 : decode cX8_evening 47 = .ok (.aload_n 0, 1) := by decide +kernel
theorem dX8_evening_48 : decode cX8_evening 48 = .ok (.getfield 12, 3) := by decide +kernel
theorem dX8_evening_51 : decode cX8_evening 51 = .ok (.iload_n 2, 1) := by decide +kernel
theorem dX8_evening_52 : decode cX8_evening 52 = .ok (.invokevirtual 93, 3) := by decide +kernel
theorem dX8_evening_55 : decode cX8_evening 55 = .ok (.ifCond .ne 7, 3) := by decide +kernel
theorem dX8_evening_58 : decode cX8_evening 58 = .ok (.iconst 1, 1) := by decide +kernel
theorem dX8_evening_59 : decode cX8_evening 59 = .ok (.goto 4, 3) := by decide +kernel
theorem dX8_evening_62 : decode cX8_evening 62 = .ok (.iconst 0, 1) := by decide +kernel
theorem dX8_evening_63 : decode cX8_evening 63 = .ok (.istore 4, 2) := by decide +kernel
theorem dX8_evening_65 : decode cX8_evening 65 = .ok (.iload_n 1, 1) := by decide +kernel
theorem dX8_evening_66 : decode cX8_evening 66 = .ok (.ifCond .lt 17, 3) := by decide +kernel
theorem dX8_evening_69 : decode cX8_evening 69 = .ok (.iload_n 1, 1) := by decide +kernel
theorem dX8_evening_70 : decode cX8_evening 70 = .ok (.iconst 3, 1) := by decide +kernel
theorem dX8_evening_71 : decode cX8_evening 71 = .ok (.if_icmp .gt 12, 3) := by decide +kernel
theorem dX8_evening_74 : decode cX8_evening 74 = .ok (.iload_n 3, 1) := by decide +kernel
theorem dX8_evening_75 : decode cX8_evening 75 = .ok (.ifCond .ne 8, 3) := by decide +kernel
theorem dX8_evening_78 : decode cX8_evening 78 = .ok (.iload 4, 2) := by decide +kernel
theorem dX8_evening_80 : decode cX8_evening 80 = .ok (.ifCond .eq 5, 3) := by decide +kernel
theorem dX8_evening_83 : decode cX8_evening 83 = .ok (.iconst (-1), 1) := by decide +kernel
theorem dX8_evening_84 : decode cX8_evening 84 = .ok (.ireturn, 1) := by decide +kernel
theorem dX8_evening_85 : decode cX8_evening 85 = .ok (.aload_n 0, 1) := by decide +kernel
theorem dX8_evening_86 : decode cX8_evening 86 = .ok (.getfield 30, 3) := by decide +kernel
theorem dX8_evening_89 : decode cX8_evening 89 = .ok (.invokevirtual 255, 3) := by decide +kernel
theorem dX8_evening_92 : decode cX8_evening 92 = .ok (.ifCond .eq 8, 3) := by decide +kernel
theorem dX8_evening_95 : decode cX8_evening 95 = .ok (.bipush (-4), 2) := by decide +kernel
theorem dX8_evening_97 : decode cX8_evening 97 = .ok (.goto 13, 3) := by decide +kernel
theorem dX8_evening_100 : decode cX8_evening 100 = .ok (.aload_n 0, 1) := by decide +kernel
theorem dX8_evening_101 : decode cX8_evening 101 = .ok (.getfield 30, 3) := by decide +kernel
theorem dX8_evening_104 : decode cX8_evening 104 = .ok (.iload_n 1, 1) := by decide +kernel
theorem dX8_evening_105 : decode cX8_evening 105 = .ok (.iload_n 2, 1) := by decide +kernel
theorem dX8_evening_106 : decode cX8_evening 106 = .ok (.iconst 0, 1) := by decide +kernel
theorem dX8_evening_107 : decode cX8_evening 107 = .ok (.invokevirtual 259, 3) := by decide +kernel
theorem dX8_evening_110 : decode cX8_evening 110 = .ok (.ireturn, 1) := by decide +kernel
theorem dX8_gone_0 : decode cX8_gone 0 = .ok (.iload_n 1, 1) := by decide +kernel
theorem dX8_gone_1 : decode cX8_gone 1 = .ok (.invokestatic 262, 3) := by decide +kernel
theorem dX8_gone_4 : decode cX8_gone 4 = .ok (.ifCond .ne 5, 3) := by decide +kernel
theorem dX8_gone_7 : decode cX8_gone 7 = .ok (.iconst (-1), 1) := by decide +kernel
theorem dX8_gone_8 : decode cX8_gone 8 = .ok (.ireturn, 1) := by decide +kernel
theorem dX8_gone_9 : decode cX8_gone 9 = .ok (.aload_n 0, 1) := by decide +kernel
theorem dX8_gone_10 : decode cX8_gone 10 = .ok (.getfield 18, 3) := by decide +kernel
theorem dX8_gone_13 : decode cX8_gone 13 = .ok (.aload_n 0, 1) := by decide +kernel
theorem dX8_gone_14 : decode cX8_gone 14 = .ok (.getfield 12, 3) := by decide +kernel
theorem dX8_gone_17 : decode cX8_gone 17 = .ok (.invokevirtual 210, 3) := by decide +kernel
theorem dX8_gone_20 : decode cX8_gone 20 = .ok (.iconst 0, 1) := by decide +kernel
theorem dX8_gone_21 : decode cX8_gone 21 = .ok (.istore_n 2, 1) := by decide +kernel
theorem dX8_gone_22 : decode cX8_gone 22 = .ok (.iload_n 2, 1) := by decide +kernel
theorem dX8_gone_23 : decode cX8_gone 23 = .ok (.aload_n 0, 1) := by decide +kernel
theorem dX8_gone_24 : decode cX8_gone 24 = .ok (.getfield 30, 3) := by decide +kernel
theorem dX8_gone_27 : decode cX8_gone 27 = .ok (.getfield 252, 3) := by decide +kernel
theorem dX8_gone_30 : decode cX8_gone 30 = .ok (.if_icmp .ge 103, 3) := by decide +kernel
theorem dX8_gone_33 : decode cX8_gone 33 = .ok (.aload_n 0, 1) := by decide +kernel
theorem dX8_gone_34 : decode cX8_gone 34 = .ok (.getfield 30, 3) := by decide +kernel
theorem dX8_gone_37 : decode cX8_gone 37 = .ok (.getfield 287, 3) := by decide +kernel
theorem dX8_gone_40 : decode cX8_gone 40 = .ok (.iload_n 2, 1) := by decide +kernel
theorem dX8_gone_41 : decode cX8_gone 41 = .ok (.iaload, 1) := by decide +kernel
theorem dX8_gone_42 : decode cX8_gone 42 = .ok (.istore_n 3, 1) := by decide +kernel
theorem dX8_gone_43 : decode cX8_gone 43 = .ok (.aload_n 0, 1) := by decide +kernel
theorem dX8_gone_44 : decode cX8_gone 44 = .ok (.getfield 30, 3) := by decide +kernel
theorem dX8_gone_47 : decode cX8_gone 47 = .ok (.getfield 284, 3) := by decide +kernel
theorem dX8_gone_50 : decode cX8_gone 50 = .ok (.iload_n 2, 1) := by decide +kernel
theorem dX8_gone_51 : decode cX8_gone 51 = .ok (.iaload, 1) := by decide +kernel
theorem dX8_gone_52 : decode cX8_gone 52 = .ok (.tableswitch 62 0 2 #[28, 38, 50], 28) := by decide +kernel
theorem dX8_gone_80 : decode cX8_gone 80 = .ok (.aload_n 0, 1) := by decide +kernel
theorem dX8_gone_81 : decode cX8_gone 81 = .ok (.getfield 18, 3) := by decide +kernel
theorem dX8_gone_84 : decode cX8_gone 84 = .ok (.invokevirtual 217, 3) := by decide +kernel
theorem dX8_gone_87 : decode cX8_gone 87 = .ok (.goto 40, 3) := by decide +kernel
theorem dX8_gone_90 : decode cX8_gone 90 = .ok (.aload_n 0, 1) := by decide +kernel
theorem dX8_gone_91 : decode cX8_gone 91 = .ok (.getfield 18, 3) := by decide +kernel
theorem dX8_gone_94 : decode cX8_gone 94 = .ok (.iload_n 3, 1) := by decide +kernel
theorem dX8_gone_95 : decode cX8_gone 95 = .ok (.iconst 0, 1) := by decide +kernel
theorem dX8_gone_96 : decode cX8_gone 96 = .ok (.invokevirtual 148, 3) := by decide +kernel
theorem dX8_gone_99 : decode cX8_gone 99 = .ok (.goto 28, 3) := by decide +kernel
theorem dX8_gone_102 : decode cX8_gone 102 = .ok (.aload_n 0, 1) := by decide +kernel
theorem dX8_gone_103 : decode cX8_gone 103 = .ok (.getfield 18, 3) := by decide +kernel
theorem dX8_gone_106 : decode cX8_gone 106 = .ok (.iload_n 3, 1) := by decide +kernel
theorem dX8_gone_107 : decode cX8_gone 107 = .ok (.iconst 1, 1) := by decide +kernel
theorem dX8_gone_108 : decode cX8_gone 108 = .ok (.invokevirtual 148, 3) := by decide +kernel
theorem dX8_gone_111 : decode cX8_gone 111 = .ok (.goto 16, 3) := by decide +kernel
theorem dX8_gone_114 : decode cX8_gone 114 = .ok (.aload_n 0, 1) := by decide +kernel
theorem dX8_gone_115 : decode cX8_gone 115 = .ok (.getfield 18, 3) := by decide +kernel
theorem dX8_gone_118 : decode cX8_gone 118 = .ok (.getfield 96, 3) := by decide +kernel
theorem dX8_gone_121 : decode cX8_gone 121 = .ok (.iload_n 3, 1) := by decide +kernel
theorem dX8_gone_122 : decode cX8_gone 122 = .ok (.aaload, 1) := by decide +kernel
theorem dX8_gone_123 : decode cX8_gone 123 = .ok (.iconst 1, 1) := by decide +kernel
theorem dX8_gone_124 : decode cX8_gone 124 = .ok (.putfield 111, 3) := by decide +kernel
theorem dX8_gone_127 : decode cX8_gone 127 = .ok (.iinc 2 1, 3) := by decide +kernel
theorem dX8_gone_130 : decode cX8_gone 130 = .ok (.goto (-108), 3) := by decide +kernel
theorem dX8_gone_133 : decode cX8_gone 133 = .ok (.iload_n 1, 1) := by decide +kernel
theorem dX8_gone_134 : decode cX8_gone 134 = .ok (.ifCond .ne 13, 3) := by decide +kernel
theorem dX8_gone_137 : decode cX8_gone 137 = .ok (.aload_n 0, 1) := by decide +kernel
theorem dX8_gone_138 : decode cX8_gone 138 = .ok (.getfield 18, 3) := by decide +kernel
theorem dX8_gone_141 : decode cX8_gone 141 = .ok (.invokevirtual 203, 3) := by decide +kernel
theorem dX8_gone_144 : decode cX8_gone 144 = .ok (.goto 10, 3) := by decide +kernel
theorem dX8_gone_147 : decode cX8_gone 147 = .ok (.aload_n 0, 1) := by decide +kernel
theorem dX8_gone_148 : decode cX8_gone 148 = .ok (.getfield 18, 3) := by decide +kernel
theorem dX8_gone_151 : decode cX8_gone 151 = .ok (.getfield 200, 3) := by decide +kernel
theorem dX8_gone_154 : decode cX8_gone 154 = .ok (.ireturn, 1) := by decide +kernel
theorem dX8_book_0 : decode cX8_book 0 = .ok (.iload_n 1, 1) := by decide +kernel
theorem dX8_book_1 : decode cX8_book 1 = .ok (.iconst (-1), 1) := by decide +kernel
theorem dX8_book_2 : decode cX8_book 2 = .ok (.if_icmp .ne 13, 3) := by decide +kernel
theorem dX8_book_5 : decode cX8_book 5 = .ok (.aload_n 0, 1) := by decide +kernel
theorem dX8_book_6 : decode cX8_book 6 = .ok (.getfield 33, 3) := by decide +kernel
theorem dX8_book_9 : decode cX8_book 9 = .ok (.iconst 0, 1) := by decide +kernel
theorem dX8_book_10 : decode cX8_book 10 = .ok (.putfield 252, 3) := by decide +kernel
theorem dX8_book_13 : decode cX8_book 13 = .ok (.iconst 0, 1) := by decide +kernel
theorem dX8_book_14 : decode cX8_book 14 = .ok (.ireturn, 1) := by decide +kernel
theorem dX8_book_15 : decode cX8_book 15 = .ok (.aload_n 0, 1) := by decide +kernel
theorem dX8_book_16 : decode cX8_book 16 = .ok (.getfield 12, 3) := by decide +kernel
theorem dX8_book_19 : decode cX8_book 19 = .ok (.iload_n 1, 1) := by decide +kernel
theorem dX8_book_20 : decode cX8_book 20 = .ok (.invokevirtual 93, 3) := by decide +kernel
theorem dX8_book_23 : decode cX8_book 23 = .ok (.ifCond .ne 5, 3) := by decide +kernel
theorem dX8_book_26 : decode cX8_book 26 = .ok (.iconst (-1), 1) := by decide +kernel
theorem dX8_book_27 : decode cX8_book 27 = .ok (.ireturn, 1) := by decide +kernel
theorem dX8_book_28 : decode cX8_book 28 = .ok (.iload_n 2, 1) := by decide +kernel
theorem dX8_book_29 : decode cX8_book 29 = .ok (.invokestatic 71, 3) := by decide +kernel
theorem dX8_book_32 : decode cX8_book 32 = .ok (.ifCond .ne 6, 3) := by decide +kernel
theorem dX8_book_35 : decode cX8_book 35 = .ok (.bipush (-2), 2) := by decide +kernel
theorem dX8_book_37 : decode cX8_book 37 = .ok (.ireturn, 1) := by decide +kernel
theorem dX8_book_38 : decode cX8_book 38 = .ok (.aload_n 0, 1) := by decide +kernel
theorem dX8_book_39 : decode cX8_book 39 = .ok (.getfield 33, 3) := by decide +kernel
theorem dX8_book_42 : decode cX8_book 42 = .ok (.invokevirtual 255, 3) := by decide +kernel
theorem dX8_book_45 : decode cX8_book 45 = .ok (.ifCond .eq 8, 3) := by decide +kernel
theorem dX8_book_48 : decode cX8_book 48 = .ok (.bipush (-4), 2) := by decide +kernel
theorem dX8_book_50 : decode cX8_book 50 = .ok (.goto 13, 3) := by decide +kernel
theorem dX8_book_53 : decode cX8_book 53 = .ok (.aload_n 0, 1) := by decide +kernel
theorem dX8_book_54 : decode cX8_book 54 = .ok (.getfield 33, 3) := by decide +kernel
theorem dX8_book_57 : decode cX8_book 57 = .ok (.iload_n 1, 1) := by decide +kernel
theorem dX8_book_58 : decode cX8_book 58 = .ok (.iload_n 2, 1) := by decide +kernel
theorem dX8_book_59 : decode cX8_book 59 = .ok (.iconst 0, 1) := by decide +kernel
theorem dX8_book_60 : decode cX8_book 60 = .ok (.invokevirtual 259, 3) := by decide +kernel
theorem dX8_book_63 : decode cX8_book 63 = .ok (.ireturn, 1) := by decide +kernel
theorem dX8_looked_0 : decode cX8_looked 0 = .ok (.iconst 0, 1) := by decide +kernel
theorem dX8_looked_1 : decode cX8_looked 1 = .ok (.istore_n 1, 1) := by decide +kernel
theorem dX8_looked_2 : decode cX8_looked 2 = .ok (.iload_n 1, 1) := by decide +kernel
theorem dX8_looked_3 : decode cX8_looked 3 = .ok (.aload_n 0, 1) := by decide +kernel
theorem dX8_looked_4 : decode cX8_looked 4 = .ok (.getfield 33, 3) := by decide +kernel
theorem dX8_looked_7 : decode cX8_looked 7 = .ok (.getfield 252, 3) := by decide +kernel
theorem dX8_looked_10 : decode cX8_looked 10 = .ok (.if_icmp .ge 43, 3) := by decide +kernel
theorem dX8_looked_13 : decode cX8_looked 13 = .ok (.aload_n 0, 1) := by decide +kernel
theorem dX8_looked_14 : decode cX8_looked 14 = .ok (.getfield 12, 3) := by decide +kernel
theorem dX8_looked_17 : decode cX8_looked 17 = .ok (.getfield 96, 3) := by decide +kernel
theorem dX8_looked_20 : decode cX8_looked 20 = .ok (.aload_n 0, 1) := by decide +kernel
theorem dX8_looked_21 : decode cX8_looked 21 = .ok (.getfield 33, 3) := by decide +kernel
theorem dX8_looked_24 : decode cX8_looked 24 = .ok (.getfield 284, 3) := by decide +kernel
theorem dX8_looked_27 : decode cX8_looked 27 = .ok (.iload_n 1, 1) := by decide +kernel
theorem dX8_looked_28 : decode cX8_looked 28 = .ok (.iaload, 1) := by decide +kernel
theorem dX8_looked_29 : decode cX8_looked 29 = .ok (.aaload, 1) := by decide +kernel
theorem dX8_looked_30 : decode cX8_looked 30 = .ok (.getfield 108, 3) := by decide +kernel
theorem dX8_looked_33 : decode cX8_looked 33 = .ok (.aload_n 0, 1) := by decide +kernel
theorem dX8_looked_34 : decode cX8_looked 34 = .ok (.getfield 33, 3) := by decide +kernel
theorem dX8_looked_37 : decode cX8_looked 37 = .ok (.getfield 287, 3) := by decide +kernel
theorem dX8_looked_40 : decode cX8_looked 40 = .ok (.iload_n 1, 1) := by decide +kernel
theorem dX8_looked_41 : decode cX8_looked 41 = .ok (.iaload, 1) := by decide +kernel
theorem dX8_looked_42 : decode cX8_looked 42 = .ok (.if_icmp .eq 5, 3) := by decide +kernel
theorem dX8_looked_45 : decode cX8_looked 45 = .ok (.iload_n 1, 1) := by decide +kernel
theorem dX8_looked_46 : decode cX8_looked 46 = .ok (.ireturn, 1) := by decide +kernel
theorem dX8_looked_47 : decode cX8_looked 47 = .ok (.iinc 1 1, 3) := by decide +kernel
theorem dX8_looked_50 : decode cX8_looked 50 = .ok (.goto (-48), 3) := by decide +kernel
theorem dX8_looked_53 : decode cX8_looked 53 = .ok (.bipush (-5), 2) := by decide +kernel
theorem dX8_looked_55 : decode cX8_looked 55 = .ok (.ireturn, 1) := by decide +kernel
theorem dX8_judge_0 : decode cX8_judge 0 = .ok (.iload_n 1, 1) := by decide +kernel
theorem dX8_judge_1 : decode cX8_judge 1 = .ok (.invokestatic 302, 3) := by decide +kernel
theorem dX8_judge_4 : decode cX8_judge 4 = .ok (.ifCond .ne 5, 3) := by decide +kernel
theorem dX8_judge_7 : decode cX8_judge 7 = .ok (.iconst (-1), 1) := by decide +kernel
theorem dX8_judge_8 : decode cX8_judge 8 = .ok (.ireturn, 1) := by decide +kernel
theorem dX8_judge_9 : decode cX8_judge 9 = .ok (.aload_n 0, 1) := by decide +kernel
theorem dX8_judge_10 : decode cX8_judge 10 = .ok (.getfield 65, 3) := by decide +kernel
theorem dX8_judge_13 : decode cX8_judge 13 = .ok (.iload_n 1, 1) := by decide +kernel
theorem dX8_judge_14 : decode cX8_judge 14 = .ok (.aaload, 1) := by decide +kernel
theorem dX8_judge_15 : decode cX8_judge 15 = .ok (.astore_n 3, 1) := by decide +kernel
theorem dX8_judge_16 : decode cX8_judge 16 = .ok (.aload_n 3, 1) := by decide +kernel
theorem dX8_judge_17 : decode cX8_judge 17 = .ok (.getfield 305, 3) := by decide +kernel
theorem dX8_judge_20 : decode cX8_judge 20 = .ok (.iconst (-1), 1) := by decide +kernel
theorem dX8_judge_21 : decode cX8_judge 21 = .ok (.if_icmp .eq 13, 3) := by decide +kernel
theorem dX8_judge_24 : decode cX8_judge 24 = .ok (.aload_n 3, 1) := by decide +kernel
theorem dX8_judge_25 : decode cX8_judge 25 = .ok (.getfield 305, 3) := by decide +kernel
theorem dX8_judge_28 : decode cX8_judge 28 = .ok (.ifCond .eq 6, 3) := by decide +kernel
theorem dX8_judge_31 : decode cX8_judge 31 = .ok (.bipush (-12), 2) := by decide +kernel
theorem dX8_judge_33 : decode cX8_judge 33 = .ok (.ireturn, 1) := by decide +kernel
theorem dX8_judge_34 : decode cX8_judge 34 = .ok (.iload_n 2, 1) := by decide +kernel
theorem dX8_judge_35 : decode cX8_judge 35 = .ok (.ifCond .ge 16, 3) := by decide +kernel
theorem dX8_judge_38 : decode cX8_judge 38 = .ok (.aload_n 0, 1) := by decide +kernel
theorem dX8_judge_39 : decode cX8_judge 39 = .ok (.getfield 12, 3) := by decide +kernel
theorem dX8_judge_42 : decode cX8_judge 42 = .ok (.getfield 86, 3) := by decide +kernel
theorem dX8_judge_45 : decode cX8_judge 45 = .ok (.ifCond .le 6, 3) := by decide +kernel
theorem dX8_judge_48 : decode cX8_judge 48 = .ok (.bipush 100, 2) := by decide +kernel
theorem dX8_judge_50 : decode cX8_judge 50 = .ok (.ireturn, 1) := by decide +kernel
theorem dX8_judge_51 : decode cX8_judge 51 = .ok (.iconst 0, 1) := by decide +kernel
theorem dX8_judge_52 : decode cX8_judge 52 = .ok (.istore 4, 2) := by decide +kernel
theorem dX8_judge_54 : decode cX8_judge 54 = .ok (.iload 4, 2) := by decide +kernel
theorem dX8_judge_56 : decode cX8_judge 56 = .ok (.aload_n 0, 1) := by decide +kernel
theorem dX8_judge_57 : decode cX8_judge 57 = .ok (.getfield 12, 3) := by decide +kernel
theorem dX8_judge_60 : decode cX8_judge 60 = .ok (.getfield 86, 3) := by decide +kernel
theorem dX8_judge_63 : decode cX8_judge 63 = .ok (.if_icmp .ge 56, 3) := by decide +kernel
theorem dX8_judge_66 : decode cX8_judge 66 = .ok (.iload 4, 2) := by decide +kernel
theorem dX8_judge_68 : decode cX8_judge 68 = .ok (.aload_n 3, 1) := by decide +kernel
theorem dX8_judge_69 : decode cX8_judge 69 = .ok (.getfield 308, 3) := by decide +kernel
theorem dX8_judge_72 : decode cX8_judge 72 = .ok (.iload_n 2, 1) := by decide +kernel
theorem dX8_judge_73 : decode cX8_judge 73 = .ok (.isub, 1) := by decide +kernel
theorem dX8_judge_74 : decode cX8_judge 74 = .ok (.if_icmp .lt 9, 3) := by decide +kernel
theorem dX8_judge_77 : decode cX8_judge 77 = .ok (.bipush 100, 2) := by decide +kernel
theorem dX8_judge_79 : decode cX8_judge 79 = .ok (.iload 4, 2) := by decide +kernel
theorem dX8_judge_81 : decode cX8_judge 81 = .ok (.iadd, 1) := by decide +kernel
theorem dX8_judge_82 : decode cX8_judge 82 = .ok (.ireturn, 1) := by decide +kernel
theorem dX8_judge_83 : decode cX8_judge 83 = .ok (.aload_n 3, 1) := by decide +kernel
theorem dX8_judge_84 : decode cX8_judge 84 = .ok (.getfield 309, 3) := by decide +kernel
theorem dX8_judge_87 : decode cX8_judge 87 = .ok (.iload_n 2, 1) := by decide +kernel
theorem dX8_judge_88 : decode cX8_judge 88 = .ok (.iload 4, 2) := by decide +kernel
theorem dX8_judge_90 : decode cX8_judge 90 = .ok (.iadd, 1) := by decide +kernel
theorem dX8_judge_91 : decode cX8_judge 91 = .ok (.laload, 1) := by decide +kernel
theorem dX8_judge_92 : decode cX8_judge 92 = .ok (.aload_n 0, 1) := by decide +kernel
theorem dX8_judge_93 : decode cX8_judge 93 = .ok (.getfield 12, 3) := by decide +kernel
theorem dX8_judge_96 : decode cX8_judge 96 = .ok (.getfield 96, 3) := by decide +kernel
theorem dX8_judge_99 : decode cX8_judge 99 = .ok (.iload 4, 2) := by decide +kernel
theorem dX8_judge_101 : decode cX8_judge 101 = .ok (.aaload, 1) := by decide +kernel
theorem dX8_judge_102 : decode cX8_judge 102 = .ok (.getfield 108, 3) := by decide +kernel
theorem dX8_judge_105 : decode cX8_judge 105 = .ok (.i2l, 1) := by decide +kernel
theorem dX8_judge_106 : decode cX8_judge 106 = .ok (.lcmp, 1) := by decide +kernel
theorem dX8_judge_107 : decode cX8_judge 107 = .ok (.ifCond .eq 6, 3) := by decide +kernel
theorem dX8_judge_110 : decode cX8_judge 110 = .ok (.iload 4, 2) := by decide +kernel
theorem dX8_judge_112 : decode cX8_judge 112 = .ok (.ireturn, 1) := by decide +kernel
theorem dX8_judge_113 : decode cX8_judge 113 = .ok (.iinc 4 1, 3) := by decide +kernel
theorem dX8_judge_116 : decode cX8_judge 116 = .ok (.goto (-62), 3) := by decide +kernel
theorem dX8_judge_119 : decode cX8_judge 119 = .ok (.bipush (-5), 2) := by decide +kernel
theorem dX8_judge_121 : decode cX8_judge 121 = .ok (.ireturn, 1) := by decide +kernel
theorem dX8_image_0 : decode cX8_image 0 = .ok (.aload_n 0, 1) := by decide +kernel
theorem dX8_image_1 : decode cX8_image 1 = .ok (.getfield 39, 3) := by decide +kernel
theorem dX8_image_4 : decode cX8_image 4 = .ok (.getfield 313, 3) := by decide +kernel
theorem dX8_image_7 : decode cX8_image 7 = .ok (.aload_n 0, 1) := by decide +kernel
theorem dX8_image_8 : decode cX8_image 8 = .ok (.getfield 12, 3) := by decide +kernel
theorem dX8_image_11 : decode cX8_image 11 = .ok (.invokevirtual 210, 3) := by decide +kernel
theorem dX8_image_14 : decode cX8_image 14 = .ok (.aload_n 0, 1) := by decide +kernel
theorem dX8_image_15 : decode cX8_image 15 = .ok (.getfield 39, 3) := by decide +kernel
theorem dX8_image_18 : decode cX8_image 18 = .ok (.getfield 316, 3) := by decide +kernel
theorem dX8_image_21 : decode cX8_image 21 = .ok (.aload_n 0, 1) := by decide +kernel
theorem dX8_image_22 : decode cX8_image 22 = .ok (.getfield 26, 3) := by decide +kernel
theorem dX8_image_25 : decode cX8_image 25 = .ok (.invokevirtual 317, 3) := by decide +kernel
theorem dX8_image_28 : decode cX8_image 28 = .ok (.aload_n 0, 1) := by decide +kernel
theorem dX8_image_29 : decode cX8_image 29 = .ok (.getfield 39, 3) := by decide +kernel
theorem dX8_image_32 : decode cX8_image 32 = .ok (.getfield 320, 3) := by decide +kernel
theorem dX8_image_35 : decode cX8_image 35 = .ok (.aload_n 0, 1) := by decide +kernel
theorem dX8_image_36 : decode cX8_image 36 = .ok (.getfield 30, 3) := by decide +kernel
theorem dX8_image_39 : decode cX8_image 39 = .ok (.invokevirtual 317, 3) := by decide +kernel
theorem dX8_image_42 : decode cX8_image 42 = .ok (.aload_n 0, 1) := by decide +kernel
theorem dX8_image_43 : decode cX8_image 43 = .ok (.getfield 39, 3) := by decide +kernel
theorem dX8_image_46 : decode cX8_image 46 = .ok (.getfield 321, 3) := by decide +kernel
theorem dX8_image_49 : decode cX8_image 49 = .ok (.aload_n 0, 1) := by decide +kernel
theorem dX8_image_50 : decode cX8_image 50 = .ok (.getfield 33, 3) := by decide +kernel
theorem dX8_image_53 : decode cX8_image 53 = .ok (.invokevirtual 317, 3) := by decide +kernel
theorem dX8_image_56 : decode cX8_image 56 = .ok (.aload_n 0, 1) := by decide +kernel
theorem dX8_image_57 : decode cX8_image 57 = .ok (.getfield 39, 3) := by decide +kernel
theorem dX8_image_60 : decode cX8_image 60 = .ok (.iconst 1, 1) := by decide +kernel
theorem dX8_image_61 : decode cX8_image 61 = .ok (.putfield 322, 3) := by decide +kernel
theorem dX8_image_64 : decode cX8_image 64 = .ok (.aload_n 0, 1) := by decide +kernel
theorem dX8_image_65 : decode cX8_image 65 = .ok (.getfield 12, 3) := by decide +kernel
theorem dX8_image_68 : decode cX8_image 68 = .ok (.getfield 86, 3) := by decide +kernel
theorem dX8_image_71 : decode cX8_image 71 = .ok (.ireturn, 1) := by decide +kernel
theorem dX8_undo_0 : decode cX8_undo 0 = .ok (.aload_n 0, 1) := by decide +kernel
theorem dX8_undo_1 : decode cX8_undo 1 = .ok (.getfield 39, 3) := by decide +kernel
theorem dX8_undo_4 : decode cX8_undo 4 = .ok (.getfield 322, 3) := by decide +kernel
theorem dX8_undo_7 : decode cX8_undo 7 = .ok (.ifCond .ne 6, 3) := by decide +kernel
theorem dX8_undo_10 : decode cX8_undo 10 = .ok (.bipush (-3), 2) := by decide +kernel
theorem dX8_undo_12 : decode cX8_undo 12 = .ok (.ireturn, 1) := by decide +kernel
theorem dX8_undo_13 : decode cX8_undo 13 = .ok (.aload_n 0, 1) := by decide +kernel
theorem dX8_undo_14 : decode cX8_undo 14 = .ok (.getfield 12, 3) := by decide +kernel
theorem dX8_undo_17 : decode cX8_undo 17 = .ok (.aload_n 0, 1) := by decide +kernel
theorem dX8_undo_18 : decode cX8_undo 18 = .ok (.getfield 39, 3) := by decide +kernel
theorem dX8_undo_21 : decode cX8_undo 21 = .ok (.getfield 313, 3) := by decide +kernel
theorem dX8_undo_24 : decode cX8_undo 24 = .ok (.invokevirtual 210, 3) := by decide +kernel
theorem dX8_undo_27 : decode cX8_undo 27 = .ok (.aload_n 0, 1) := by decide +kernel
theorem dX8_undo_28 : decode cX8_undo 28 = .ok (.getfield 26, 3) := by decide +kernel
theorem dX8_undo_31 : decode cX8_undo 31 = .ok (.aload_n 0, 1) := by decide +kernel
theorem dX8_undo_32 : decode cX8_undo 32 = .ok (.getfield 39, 3) := by decide +kernel
theorem dX8_undo_35 : decode cX8_undo 35 = .ok (.getfield 316, 3) := by decide +kernel
theorem dX8_undo_38 : decode cX8_undo 38 = .ok (.invokevirtual 317, 3) := by decide +kernel
theorem dX8_undo_41 : decode cX8_undo 41 = .ok (.aload_n 0, 1) := by decide +kernel
theorem dX8_undo_42 : decode cX8_undo 42 = .ok (.getfield 30, 3) := by decide +kernel
theorem dX8_undo_45 : decode cX8_undo 45 = .ok (.aload_n 0, 1) := by decide +kernel
theorem dX8_undo_46 : decode cX8_undo 46 = .ok (.getfield 39, 3) := by decide +kernel
theorem dX8_undo_49 : decode cX8_undo 49 = .ok (.getfield 320, 3) := by decide +kernel
theorem dX8_undo_52 : decode cX8_undo 52 = .ok (.invokevirtual 317, 3) := by decide +kernel
theorem dX8_undo_55 : decode cX8_undo 55 = .ok (.aload_n 0, 1) := by decide +kernel
theorem dX8_undo_56 : decode cX8_undo 56 = .ok (.getfield 33, 3) := by decide +kernel
theorem dX8_undo_59 : decode cX8_undo 59 = .ok (.aload_n 0, 1) := by decide +kernel
theorem dX8_undo_60 : decode cX8_undo 60 = .ok (.getfield 39, 3) := by decide +kernel
theorem dX8_undo_63 : decode cX8_undo 63 = .ok (.getfield 321, 3) := by decide +kernel
theorem dX8_undo_66 : decode cX8_undo 66 = .ok (.invokevirtual 317, 3) := by decide +kernel
theorem dX8_undo_69 : decode cX8_undo 69 = .ok (.aload_n 0, 1) := by decide +kernel
theorem dX8_undo_70 : decode cX8_undo 70 = .ok (.getfield 12, 3) := by decide +kernel
theorem dX8_undo_73 : decode cX8_undo 73 = .ok (.getfield 86, 3) := by decide +kernel
theorem dX8_undo_76 : decode cX8_undo 76 = .ok (.ireturn, 1) := by decide +kernel
theorem dX8_act_0 : decode cX8_act 0 = .ok (.aload_n 0, 1) := by decide +kernel
theorem dX8_act_1 : decode cX8_act 1 = .ok (.getfield 59, 3) := by decide +kernel
theorem dX8_act_4 : decode cX8_act 4 = .ok (.iconst 0, 1) := by decide +kernel
theorem dX8_act_5 : decode cX8_act 5 = .ok (.putfield 325, 3) := by decide +kernel
theorem dX8_act_8 : decode cX8_act 8 = .ok (.aload_n 0, 1) := by decide +kernel
theorem dX8_act_9 : decode cX8_act 9 = .ok (.getfield 12, 3) := by decide +kernel
theorem dX8_act_12 : decode cX8_act 12 = .ok (.iload_n 1, 1) := by decide +kernel
theorem dX8_act_13 : decode cX8_act 13 = .ok (.invokevirtual 93, 3) := by decide +kernel
theorem dX8_act_16 : decode cX8_act 16 = .ok (.ifCond .eq 12, 3) := by decide +kernel
theorem dX8_act_19 : decode cX8_act 19 = .ok (.iload_n 2, 1) := by decide +kernel
theorem dX8_act_20 : decode cX8_act 20 = .ok (.ifCond .lt 8, 3) := by decide +kernel
theorem dX8_act_23 : decode cX8_act 23 = .ok (.iload_n 2, 1) := by decide +kernel
theorem dX8_act_24 : decode cX8_act 24 = .ok (.iconst 3, 1) := by decide +kernel
theorem dX8_act_25 : decode cX8_act 25 = .ok (.if_icmp .lt 5, 3) := by decide +kernel
theorem dX8_act_28 : decode cX8_act 28 = .ok (.iconst 0, 1) := by decide +kernel
theorem dX8_act_29 : decode cX8_act 29 = .ok (.ireturn, 1) := by decide +kernel
theorem dX8_act_30 : decode cX8_act 30 = .ok (.aload_n 0, 1) := by decide +kernel
theorem dX8_act_31 : decode cX8_act 31 = .ok (.getfield 59, 3) := by decide +kernel
theorem dX8_act_34 : decode cX8_act 34 = .ok (.iload_n 1, 1) := by decide +kernel
theorem dX8_act_35 : decode cX8_act 35 = .ok (.aload_n 0, 1) := by decide +kernel
theorem dX8_act_36 : decode cX8_act 36 = .ok (.getfield 12, 3) := by decide +kernel
theorem dX8_act_39 : decode cX8_act 39 = .ok (.getfield 96, 3) := by decide +kernel
theorem dX8_act_42 : decode cX8_act 42 = .ok (.iload_n 1, 1) := by decide +kernel
theorem dX8_act_43 : decode cX8_act 43 = .ok (.aaload, 1) := by decide +kernel
theorem dX8_act_44 : decode cX8_act 44 = .ok (.iload_n 2, 1) := by decide +kernel
theorem dX8_act_45 : decode cX8_act 45 = .ok (.iload_n 3, 1) := by decide +kernel
theorem dX8_act_46 : decode cX8_act 46 = .ok (.invokevirtual 328, 3) := by decide +kernel
theorem dX8_act_49 : decode cX8_act 49 = .ok (.ireturn, 1) := by decide +kernel
theorem dX8_trace_0 : decode cX8_trace 0 = .ok (.iload_n 1, 1) := by decide +kernel
theorem dX8_trace_1 : decode cX8_trace 1 = .ok (.ifCond .lt 19, 3) := by decide +kernel
theorem dX8_trace_4 : decode cX8_trace 4 = .ok (.iload_n 1, 1) := by decide +kernel
theorem dX8_trace_5 : decode cX8_trace 5 = .ok (.aload_n 0, 1) := by decide +kernel
theorem dX8_trace_6 : decode cX8_trace 6 = .ok (.getfield 59, 3) := by decide +kernel
theorem dX8_trace_9 : decode cX8_trace 9 = .ok (.getfield 325, 3) := by decide +kernel
theorem dX8_trace_12 : decode cX8_trace 12 = .ok (.bipush 20, 2) := by decide +kernel
theorem dX8_trace_14 : decode cX8_trace 14 = .ok (.invokestatic 332, 3) := by decide +kernel
theorem dX8_trace_17 : decode cX8_trace 17 = .ok (.if_icmp .lt 7, 3) := by decide +kernel
theorem dX8_trace_20 : decode cX8_trace 20 = .ok (.iconst (-1), 1) := by decide +kernel
theorem dX8_trace_21 : decode cX8_trace 21 = .ok (.goto 12, 3) := by decide +kernel
theorem dX8_trace_24 : decode cX8_trace 24 = .ok (.aload_n 0, 1) := by decide +kernel
theorem dX8_trace_25 : decode cX8_trace 25 = .ok (.getfield 59, 3) := by decide +kernel
theorem dX8_trace_28 : decode cX8_trace 28 = .ok (.getfield 335, 3) := by decide +kernel
theorem dX8_trace_31 : decode cX8_trace 31 = .ok (.iload_n 1, 1) := by decide +kernel
theorem dX8_trace_32 : decode cX8_trace 32 = .ok (.iaload, 1) := by decide +kernel
theorem dX8_trace_33 : decode cX8_trace 33 = .ok (.ireturn, 1) := by decide +kernel
theorem dX8_taken_0 : decode cX8_taken 0 = .ok (.iload_n 2, 1) := by decide +kernel
theorem dX8_taken_1 : decode cX8_taken 1 = .ok (.ifCond .lt 9, 3) := by decide +kernel
theorem dX8_taken_4 : decode cX8_taken 4 = .ok (.iload_n 2, 1) := by decide +kernel
theorem dX8_taken_5 : decode cX8_taken 5 = .ok (.bipush 7, 2) := by decide +kernel
theorem dX8_taken_7 : decode cX8_taken 7 = .ok (.if_icmp .lt 6, 3) := by decide +kernel
theorem dX8_taken_10 : decode cX8_taken 10 = .ok (.bipush (-2), 2) := by decide +kernel
theorem dX8_taken_12 : decode cX8_taken 12 = .ok (.ireturn, 1) := by decide +kernel
theorem dX8_taken_13 : decode cX8_taken 13 = .ok (.aload_n 0, 1) := by decide +kernel
theorem dX8_taken_14 : decode cX8_taken 14 = .ok (.getfield 12, 3) := by decide +kernel
theorem dX8_taken_17 : decode cX8_taken 17 = .ok (.iload_n 1, 1) := by decide +kernel
theorem dX8_taken_18 : decode cX8_taken 18 = .ok (.invokevirtual 93, 3) := by decide +kernel
theorem dX8_taken_21 : decode cX8_taken 21 = .ok (.ifCond .ne 6, 3) := by decide +kernel
theorem dX8_taken_24 : decode cX8_taken 24 = .ok (.bipush (-11), 2) := by decide +kernel
theorem dX8_taken_26 : decode cX8_taken 26 = .ok (.ireturn, 1) := by decide +kernel
theorem dX8_taken_27 : decode cX8_taken 27 = .ok (.aload_n 0, 1) := by decide +kernel
theorem dX8_taken_28 : decode cX8_taken 28 = .ok (.getfield 12, 3) := by decide +kernel
theorem dX8_taken_31 : decode cX8_taken 31 = .ok (.getfield 96, 3) := by decide +kernel
theorem dX8_taken_34 : decode cX8_taken 34 = .ok (.iload_n 1, 1) := by decide +kernel
theorem dX8_taken_35 : decode cX8_taken 35 = .ok (.aaload, 1) := by decide +kernel
theorem dX8_taken_36 : decode cX8_taken 36 = .ok (.getfield 100, 3) := by decide +kernel
theorem dX8_taken_39 : decode cX8_taken 39 = .ok (.istore_n 3, 1) := by decide +kernel
theorem dX8_taken_40 : decode cX8_taken 40 = .ok (.iload_n 3, 1) := by decide +kernel
theorem dX8_taken_41 : decode cX8_taken 41 = .ok (.iload_n 2, 1) := by decide +kernel
theorem dX8_taken_42 : decode cX8_taken 42 = .ok (.invokestatic 338, 3) := by decide +kernel
theorem dX8_taken_45 : decode cX8_taken 45 = .ok (.ifCond .eq 7, 3) := by decide +kernel
theorem dX8_taken_48 : decode cX8_taken 48 = .ok (.iload_n 3, 1) := by decide +kernel
theorem dX8_taken_49 : decode cX8_taken 49 = .ok (.goto 5, 3) := by decide +kernel
theorem dX8_taken_52 : decode cX8_taken 52 = .ok (.bipush (-12), 2) := by decide +kernel
theorem dX8_taken_54 : decode cX8_taken 54 = .ok (.ireturn, 1) := by decide +kernel
theorem dX8_isUnder_0 : decode cX8_isUnder 0 = .ok (.iload_n 0, 1) := by decide +kernel
theorem dX8_isUnder_1 : decode cX8_isUnder 1 = .ok (.istore_n 2, 1) := by decide +kernel
theorem dX8_isUnder_2 : decode cX8_isUnder 2 = .ok (.iconst 0, 1) := by decide +kernel
theorem dX8_isUnder_3 : decode cX8_isUnder 3 = .ok (.istore_n 3, 1) := by decide +kernel
theorem dX8_isUnder_4 : decode cX8_isUnder 4 = .ok (.iload_n 3, 1) := by decide +kernel
theorem dX8_isUnder_5 : decode cX8_isUnder 5 = .ok (.bipush 7, 2) := by decide +kernel
theorem dX8_isUnder_7 : decode cX8_isUnder 7 = .ok (.if_icmp .ge 24, 3) := by decide +kernel
theorem dX8_isUnder_10 : decode cX8_isUnder 10 = .ok (.iload_n 2, 1) := by decide +kernel
theorem dX8_isUnder_11 : decode cX8_isUnder 11 = .ok (.ifCond .lt 20, 3) := by decide +kernel
theorem dX8_isUnder_14 : decode cX8_isUnder 14 = .ok (.iload_n 2, 1) := by decide +kernel
theorem dX8_isUnder_15 : decode cX8_isUnder 15 = .ok (.iload_n 1, 1) := by decide +kernel
theorem dX8_isUnder_16 : decode cX8_isUnder 16 = .ok (.if_icmp .eq 15, 3) := by decide +kernel
theorem dX8_isUnder_19 : decode cX8_isUnder 19 = .ok (.getstatic 341, 3) := by decide +kernel
theorem dX8_isUnder_22 : decode cX8_isUnder 22 = .ok (.iload_n 2, 1) := by decide +kernel
theorem dX8_isUnder_23 : decode cX8_isUnder 23 = .ok (.iaload, 1) := by decide +kernel
theorem dX8_isUnder_24 : decode cX8_isUnder 24 = .ok (.istore_n 2, 1) := by decide +kernel
theorem dX8_isUnder_25 : decode cX8_isUnder 25 = .ok (.iinc 3 1, 3) := by decide +kernel
theorem dX8_isUnder_28 : decode cX8_isUnder 28 = .ok (.goto (-24), 3) := by decide +kernel
theorem dX8_isUnder_31 : decode cX8_isUnder 31 = .ok (.iload_n 2, 1) := by decide +kernel
theorem dX8_isUnder_32 : decode cX8_isUnder 32 = .ok (.iload_n 1, 1) := by decide +kernel
theorem dX8_isUnder_33 : decode cX8_isUnder 33 = .ok (.if_icmp .ne 7, 3) := by decide +kernel
theorem dX8_isUnder_36 : decode cX8_isUnder 36 = .ok (.iconst 1, 1) := by decide +kernel
theorem dX8_isUnder_37 : decode cX8_isUnder 37 = .ok (.goto 4, 3) := by decide +kernel
theorem dX8_isUnder_40 : decode cX8_isUnder 40 = .ok (.iconst 0, 1) := by decide +kernel
theorem dX8_isUnder_41 : decode cX8_isUnder 41 = .ok (.ireturn, 1) := by decide +kernel
theorem dX8_count_0 : decode cX8_count 0 = .ok (.iload_n 1, 1) := by decide +kernel
theorem dX8_count_1 : decode cX8_count 1 = .ok (.tableswitch 120 0 8 #[51, 59, 67, 72, 80, 88, 96, 104, 112], 51) := by decide +kernel
theorem dX8_count_52 : decode cX8_count 52 = .ok (.aload_n 0, 1) := by decide +kernel
theorem dX8_count_53 : decode cX8_count 53 = .ok (.getfield 12, 3) := by decide +kernel
theorem dX8_count_56 : decode cX8_count 56 = .ok (.getfield 86, 3) := by decide +kernel
theorem dX8_count_59 : decode cX8_count 59 = .ok (.ireturn, 1) := by decide +kernel
theorem dX8_count_60 : decode cX8_count 60 = .ok (.aload_n 0, 1) := by decide +kernel
theorem dX8_count_61 : decode cX8_count 61 = .ok (.getfield 12, 3) := by decide +kernel
theorem dX8_count_64 : decode cX8_count 64 = .ok (.getfield 75, 3) := by decide +kernel
theorem dX8_count_67 : decode cX8_count 67 = .ok (.ireturn, 1) := by decide +kernel
theorem dX8_count_68 : decode cX8_count 68 = .ok (.aload_n 0, 1) := by decide +kernel
theorem dX8_count_69 : decode cX8_count 69 = .ok (.getfield 171, 3) := by decide +kernel
theorem dX8_count_72 : decode cX8_count 72 = .ok (.ireturn, 1) := by decide +kernel
theorem dX8_count_73 : decode cX8_count 73 = .ok (.aload_n 0, 1) := by decide +kernel
theorem dX8_count_74 : decode cX8_count 74 = .ok (.getfield 12, 3) := by decide +kernel
theorem dX8_count_77 : decode cX8_count 77 = .ok (.getfield 159, 3) := by decide +kernel
theorem dX8_count_80 : decode cX8_count 80 = .ok (.ireturn, 1) := by decide +kernel
theorem dX8_count_81 : decode cX8_count 81 = .ok (.aload_n 0, 1) := by decide +kernel
theorem dX8_count_82 : decode cX8_count 82 = .ok (.getfield 26, 3) := by decide +kernel
theorem dX8_count_85 : decode cX8_count 85 = .ok (.getfield 252, 3) := by decide +kernel
theorem dX8_count_88 : decode cX8_count 88 = .ok (.ireturn, 1) := by decide +kernel
theorem dX8_count_89 : decode cX8_count 89 = .ok (.aload_n 0, 1) := by decide +kernel
theorem dX8_count_90 : decode cX8_count 90 = .ok (.getfield 30, 3) := by decide +kernel
theorem dX8_count_93 : decode cX8_count 93 = .ok (.getfield 252, 3) := by decide +kernel
theorem dX8_count_96 : decode cX8_count 96 = .ok (.ireturn, 1) := by decide +kernel
theorem dX8_count_97 : decode cX8_count 97 = .ok (.aload_n 0, 1) := by decide +kernel
theorem dX8_count_98 : decode cX8_count 98 = .ok (.getfield 33, 3) := by decide +kernel
theorem dX8_count_101 : decode cX8_count 101 = .ok (.getfield 252, 3) := by decide +kernel
theorem dX8_count_104 : decode cX8_count 104 = .ok (.ireturn, 1) := by decide +kernel
theorem dX8_count_105 : decode cX8_count 105 = .ok (.aload_n 0, 1) := by decide +kernel
theorem dX8_count_106 : decode cX8_count 106 = .ok (.getfield 46, 3) := by decide +kernel
theorem dX8_count_109 : decode cX8_count 109 = .ok (.getfield 165, 3) := by decide +kernel
theorem dX8_count_112 : decode cX8_count 112 = .ok (.ireturn, 1) := by decide +kernel
theorem dX8_count_113 : decode cX8_count 113 = .ok (.aload_n 0, 1) := by decide +kernel
theorem dX8_count_114 : decode cX8_count 114 = .ok (.getfield 59, 3) := by decide +kernel
theorem dX8_count_117 : decode cX8_count 117 = .ok (.getfield 325, 3) := by decide +kernel
theorem dX8_count_120 : decode cX8_count 120 = .ok (.ireturn, 1) := by decide +kernel
theorem dX8_count_121 : decode cX8_count 121 = .ok (.bipush (-2), 2) := by decide +kernel
theorem dX8_count_123 : decode cX8_count 123 = .ok (.ireturn, 1) := by decide +kernel
theorem dX8_tape_0 : decode cX8_tape 0 = .ok (.iload_n 1, 1) := by decide +kernel
theorem dX8_tape_1 : decode cX8_tape 1 = .ok (.invokestatic 302, 3) := by decide +kernel
theorem dX8_tape_4 : decode cX8_tape 4 = .ok (.ifCond .ne 5, 3) := by decide +kernel
theorem dX8_tape_7 : decode cX8_tape 7 = .ok (.iconst (-1), 1) := by decide +kernel
theorem dX8_tape_8 : decode cX8_tape 8 = .ok (.ireturn, 1) := by decide +kernel
theorem dX8_tape_9 : decode cX8_tape 9 = .ok (.iload_n 2, 1) := by decide +kernel
theorem dX8_tape_10 : decode cX8_tape 10 = .ok (.iconst (-1), 1) := by decide +kernel
theorem dX8_tape_11 : decode cX8_tape 11 = .ok (.if_icmp .ne 16, 3) := by decide +kernel
theorem dX8_tape_14 : decode cX8_tape 14 = .ok (.aload_n 0, 1) := by decide +kernel
theorem dX8_tape_15 : decode cX8_tape 15 = .ok (.getfield 65, 3) := by decide +kernel
theorem dX8_tape_18 : decode cX8_tape 18 = .ok (.iload_n 1, 1) := by decide +kernel
theorem dX8_tape_19 : decode cX8_tape 19 = .ok (.aaload, 1) := by decide +kernel
theorem dX8_tape_20 : decode cX8_tape 20 = .ok (.iload_n 2, 1) := by decide +kernel
theorem dX8_tape_21 : decode cX8_tape 21 = .ok (.iconst 0, 1) := by decide +kernel
theorem dX8_tape_22 : decode cX8_tape 22 = .ok (.invokevirtual 344, 3) := by decide +kernel
theorem dX8_tape_25 : decode cX8_tape 25 = .ok (.iconst 1, 1) := by decide +kernel
theorem dX8_tape_26 : decode cX8_tape 26 = .ok (.ireturn, 1) := by decide +kernel
theorem dX8_tape_27 : decode cX8_tape 27 = .ok (.iload_n 2, 1) := by decide +kernel
theorem dX8_tape_28 : decode cX8_tape 28 = .ok (.ifCond .lt 14, 3) := by decide +kernel
theorem dX8_tape_31 : decode cX8_tape 31 = .ok (.iload_n 2, 1) := by decide +kernel
theorem dX8_tape_32 : decode cX8_tape 32 = .ok (.iconst 4, 1) := by decide +kernel
theorem dX8_tape_33 : decode cX8_tape 33 = .ok (.if_icmp .gt 9, 3) := by decide +kernel
theorem dX8_tape_36 : decode cX8_tape 36 = .ok (.iload_n 3, 1) := by decide +kernel
theorem dX8_tape_37 : decode cX8_tape 37 = .ok (.bipush 60, 2) := by decide +kernel
theorem dX8_tape_39 : decode cX8_tape 39 = .ok (.if_icmp .le 6, 3) := by decide +kernel
theorem dX8_tape_42 : decode cX8_tape 42 = .ok (.bipush (-2), 2) := by decide +kernel
theorem dX8_tape_44 : decode cX8_tape 44 = .ok (.ireturn, 1) := by decide +kernel
theorem dX8_tape_45 : decode cX8_tape 45 = .ok (.iload_n 3, 1) := by decide +kernel
theorem dX8_tape_46 : decode cX8_tape 46 = .ok (.ifCond .ge 6, 3) := by decide +kernel
theorem dX8_tape_49 : decode cX8_tape 49 = .ok (.bipush (-14), 2) := by decide +kernel
theorem dX8_tape_51 : decode cX8_tape 51 = .ok (.ireturn, 1) := by decide +kernel
theorem dX8_tape_52 : decode cX8_tape 52 = .ok (.aload_n 0, 1) := by decide +kernel
theorem dX8_tape_53 : decode cX8_tape 53 = .ok (.getfield 65, 3) := by decide +kernel
theorem dX8_tape_56 : decode cX8_tape 56 = .ok (.iload_n 1, 1) := by decide +kernel
theorem dX8_tape_57 : decode cX8_tape 57 = .ok (.aaload, 1) := by decide +kernel
theorem dX8_tape_58 : decode cX8_tape 58 = .ok (.iload_n 2, 1) := by decide +kernel
theorem dX8_tape_59 : decode cX8_tape 59 = .ok (.iload_n 3, 1) := by decide +kernel
theorem dX8_tape_60 : decode cX8_tape 60 = .ok (.invokevirtual 344, 3) := by decide +kernel
theorem dX8_tape_63 : decode cX8_tape 63 = .ok (.iconst 1, 1) := by decide +kernel
theorem dX8_tape_64 : decode cX8_tape 64 = .ok (.ireturn, 1) := by decide +kernel
theorem dX8_item_0 : decode cX8_item 0 = .ok (.iload_n 1, 1) := by decide +kernel
theorem dX8_item_1 : decode cX8_item 1 = .ok (.invokestatic 302, 3) := by decide +kernel
theorem dX8_item_4 : decode cX8_item 4 = .ok (.ifCond .ne 5, 3) := by decide +kernel
theorem dX8_item_7 : decode cX8_item 7 = .ok (.iconst (-1), 1) := by decide +kernel
theorem dX8_item_8 : decode cX8_item 8 = .ok (.ireturn, 1) := by decide +kernel
theorem dX8_item_9 : decode cX8_item 9 = .ok (.aload_n 0, 1) := by decide +kernel
theorem dX8_item_10 : decode cX8_item 10 = .ok (.getfield 65, 3) := by decide +kernel
theorem dX8_item_13 : decode cX8_item 13 = .ok (.iload_n 1, 1) := by decide +kernel
theorem dX8_item_14 : decode cX8_item 14 = .ok (.aaload, 1) := by decide +kernel
theorem dX8_item_15 : decode cX8_item 15 = .ok (.astore 5, 2) := by decide +kernel
theorem dX8_item_17 : decode cX8_item 17 = .ok (.aload 5, 2) := by decide +kernel
theorem dX8_item_19 : decode cX8_item 19 = .ok (.getfield 305, 3) := by decide +kernel
theorem dX8_item_22 : decode cX8_item 22 = .ok (.iconst (-1), 1) := by decide +kernel
theorem dX8_item_23 : decode cX8_item 23 = .ok (.if_icmp .ne 6, 3) := by decide +kernel
theorem dX8_item_26 : decode cX8_item 26 = .ok (.bipush (-11), 2) := by decide +kernel
theorem dX8_item_28 : decode cX8_item 28 = .ok (.ireturn, 1) := by decide +kernel
theorem dX8_item_29 : decode cX8_item 29 = .ok (.aload 5, 2) := by decide +kernel
theorem dX8_item_31 : decode cX8_item 31 = .ok (.iload_n 2, 1) := by decide +kernel
theorem dX8_item_32 : decode cX8_item 32 = .ok (.invokevirtual 347, 3) := by decide +kernel
theorem dX8_item_35 : decode cX8_item 35 = .ok (.ifCond .ne 6, 3) := by decide +kernel
theorem dX8_item_38 : decode cX8_item 38 = .ok (.bipush (-13), 2) := by decide +kernel
theorem dX8_item_40 : decode cX8_item 40 = .ok (.ireturn, 1) := by decide +kernel
theorem dX8_item_41 : decode cX8_item 41 = .ok (.aload 5, 2) := by decide +kernel
theorem dX8_item_43 : decode cX8_item 43 = .ok (.getfield 309, 3) := by decide +kernel
theorem dX8_item_46 : decode cX8_item 46 = .ok (.iload_n 2, 1) := by decide +kernel
theorem dX8_item_47 : decode cX8_item 47 = .ok (.aload 5, 2) := by decide +kernel
theorem dX8_item_49 : decode cX8_item 49 = .ok (.lload_n 3, 1) := by decide +kernel
theorem dX8_item_50 : decode cX8_item 50 = .ok (.invokevirtual 350, 3) := by decide +kernel
theorem dX8_item_53 : decode cX8_item 53 = .ok (.lastore, 1) := by decide +kernel
theorem dX8_item_54 : decode cX8_item 54 = .ok (.iconst 1, 1) := by decide +kernel
theorem dX8_item_55 : decode cX8_item 55 = .ok (.ireturn, 1) := by decide +kernel
theorem dX8_read_0 : decode cX8_read 0 = .ok (.iload_n 1, 1) := by decide +kernel
theorem dX8_read_1 : decode cX8_read 1 = .ok (.invokestatic 302, 3) := by decide +kernel
theorem dX8_read_4 : decode cX8_read 4 = .ok (.ifCond .eq 30, 3) := by decide +kernel
theorem dX8_read_7 : decode cX8_read 7 = .ok (.aload_n 0, 1) := by decide +kernel
theorem dX8_read_8 : decode cX8_read 8 = .ok (.getfield 65, 3) := by decide +kernel
theorem dX8_read_11 : decode cX8_read 11 = .ok (.iload_n 1, 1) := by decide +kernel
theorem dX8_read_12 : decode cX8_read 12 = .ok (.aaload, 1) := by decide +kernel
theorem dX8_read_13 : decode cX8_read 13 = .ok (.iload_n 2, 1) := by decide +kernel
theorem dX8_read_14 : decode cX8_read 14 = .ok (.invokevirtual 347, 3) := by decide +kernel
theorem dX8_read_17 : decode cX8_read 17 = .ok (.ifCond .eq 17, 3) := by decide +kernel
theorem dX8_read_20 : decode cX8_read 20 = .ok (.aload_n 0, 1) := by decide +kernel
theorem dX8_read_21 : decode cX8_read 21 = .ok (.getfield 65, 3) := by decide +kernel
theorem dX8_read_24 : decode cX8_read 24 = .ok (.iload_n 1, 1) := by decide +kernel
theorem dX8_read_25 : decode cX8_read 25 = .ok (.aaload, 1) := by decide +kernel
theorem dX8_read_26 : decode cX8_read 26 = .ok (.getfield 309, 3) := by decide +kernel
theorem dX8_read_29 : decode cX8_read 29 = .ok (.iload_n 2, 1) := by decide +kernel
theorem dX8_read_30 : decode cX8_read 30 = .ok (.laload, 1) := by decide +kernel
theorem dX8_read_31 : decode cX8_read 31 = .ok (.goto 6, 3) := by decide +kernel
theorem dX8_read_34 : decode cX8_read 34 = .ok (.ldc2_w 293, 3) := by decide +kernel
theorem dX8_read_37 : decode cX8_read 37 = .ok (.lreturn, 1) := by decide +kernel
theorem dX8_shift_0 : decode cX8_shift 0 = .ok (.iload_n 1, 1) := by decide +kernel
theorem dX8_shift_1 : decode cX8_shift 1 = .ok (.invokestatic 302, 3) := by decide +kernel
theorem dX8_shift_4 : decode cX8_shift 4 = .ok (.ifCond .eq 10, 3) := by decide +kernel
theorem dX8_shift_7 : decode cX8_shift 7 = .ok (.iload_n 3, 1) := by decide +kernel
theorem dX8_shift_8 : decode cX8_shift 8 = .ok (.invokestatic 302, 3) := by decide +kernel
theorem dX8_shift_11 : decode cX8_shift 11 = .ok (.ifCond .ne 5, 3) := by decide +kernel
theorem dX8_shift_14 : decode cX8_shift 14 = .ok (.iconst (-1), 1) := by decide +kernel
theorem dX8_shift_15 : decode cX8_shift 15 = .ok (.ireturn, 1) := by decide +kernel
theorem dX8_shift_16 : decode cX8_shift 16 = .ok (.aload_n 0, 1) := by decide +kernel
theorem dX8_shift_17 : decode cX8_shift 17 = .ok (.getfield 65, 3) := by decide +kernel
theorem dX8_shift_20 : decode cX8_shift 20 = .ok (.iload_n 1, 1) := by decide +kernel
theorem dX8_shift_21 : decode cX8_shift 21 = .ok (.aaload, 1) := by decide +kernel
theorem dX8_shift_22 : decode cX8_shift 22 = .ok (.astore 6, 2) := by decide +kernel
theorem dX8_shift_24 : decode cX8_shift 24 = .ok (.aload_n 0, 1) := by decide +kernel
theorem dX8_shift_25 : decode cX8_shift 25 = .ok (.getfield 65, 3) := by decide +kernel
theorem dX8_shift_28 : decode cX8_shift 28 = .ok (.iload_n 3, 1) := by decide +kernel
theorem dX8_shift_29 : decode cX8_shift 29 = .ok (.aaload, 1) := by decide +kernel
theorem dX8_shift_30 : decode cX8_shift 30 = .ok (.astore 7, 2) := by decide +kernel
theorem dX8_shift_32 : decode cX8_shift 32 = .ok (.aload 6, 2) := by decide +kernel
theorem dX8_shift_34 : decode cX8_shift 34 = .ok (.getfield 305, 3) := by decide +kernel
theorem dX8_shift_37 : decode cX8_shift 37 = .ok (.iconst (-1), 1) := by decide +kernel
theorem dX8_shift_38 : decode cX8_shift 38 = .ok (.if_icmp .eq 12, 3) := by decide +kernel
theorem dX8_shift_41 : decode cX8_shift 41 = .ok (.aload 7, 2) := by decide +kernel
theorem dX8_shift_43 : decode cX8_shift 43 = .ok (.getfield 305, 3) := by decide +kernel
theorem dX8_shift_46 : decode cX8_shift 46 = .ok (.iconst (-1), 1) := by decide +kernel
theorem dX8_shift_47 : decode cX8_shift 47 = .ok (.if_icmp .ne 6, 3) := by decide +kernel
theorem dX8_shift_50 : decode cX8_shift 50 = .ok (.bipush (-11), 2) := by decide +kernel
theorem dX8_shift_52 : decode cX8_shift 52 = .ok (.ireturn, 1) := by decide +kernel
theorem dX8_shift_53 : decode cX8_shift 53 = .ok (.aload 6, 2) := by decide +kernel
theorem dX8_shift_55 : decode cX8_shift 55 = .ok (.getfield 305, 3) := by decide +kernel
theorem dX8_shift_58 : decode cX8_shift 58 = .ok (.aload 7, 2) := by decide +kernel
theorem dX8_shift_60 : decode cX8_shift 60 = .ok (.getfield 305, 3) := by decide +kernel
theorem dX8_shift_63 : decode cX8_shift 63 = .ok (.if_icmp .eq 6, 3) := by decide +kernel
theorem dX8_shift_66 : decode cX8_shift 66 = .ok (.bipush (-12), 2) := by decide +kernel
theorem dX8_shift_68 : decode cX8_shift 68 = .ok (.ireturn, 1) := by decide +kernel
theorem dX8_shift_69 : decode cX8_shift 69 = .ok (.aload 6, 2) := by decide +kernel
theorem dX8_shift_71 : decode cX8_shift 71 = .ok (.iload_n 2, 1) := by decide +kernel
theorem dX8_shift_72 : decode cX8_shift 72 = .ok (.iload 5, 2) := by decide +kernel
theorem dX8_shift_74 : decode cX8_shift 74 = .ok (.invokevirtual 354, 3) := by decide +kernel
theorem dX8_shift_77 : decode cX8_shift 77 = .ok (.ifCond .eq 15, 3) := by decide +kernel
theorem dX8_shift_80 : decode cX8_shift 80 = .ok (.aload 7, 2) := by decide +kernel
theorem dX8_shift_82 : decode cX8_shift 82 = .ok (.iload 4, 2) := by decide +kernel
theorem dX8_shift_84 : decode cX8_shift 84 = .ok (.iload 5, 2) := by decide +kernel
theorem dX8_shift_86 : decode cX8_shift 86 = .ok (.invokevirtual 354, 3) := by decide +kernel
theorem dX8_shift_89 : decode cX8_shift 89 = .ok (.ifCond .ne 6, 3) := by decide +kernel
theorem dX8_shift_92 : decode cX8_shift 92 = .ok (.bipush (-13), 2) := by decide +kernel
theorem dX8_shift_94 : decode cX8_shift 94 = .ok (.ireturn, 1) := by decide +kernel
theorem dX8_shift_95 : decode cX8_shift 95 = .ok (.aload 6, 2) := by decide +kernel
theorem dX8_shift_97 : decode cX8_shift 97 = .ok (.getfield 309, 3) := by decide +kernel
theorem dX8_shift_100 : decode cX8_shift 100 = .ok (.iload_n 2, 1) := by decide +kernel
theorem dX8_shift_101 : decode cX8_shift 101 = .ok (.aload 7, 2) := by decide +kernel
theorem dX8_shift_103 : decode cX8_shift 103 = .ok (.getfield 309, 3) := by decide +kernel
theorem dX8_shift_106 : decode cX8_shift 106 = .ok (.iload 4, 2) := by decide +kernel
theorem dX8_shift_108 : decode cX8_shift 108 = .ok (.iload 5, 2) := by decide +kernel
theorem dX8_shift_110 : decode cX8_shift 110 = .ok (.invokestatic 357, 3) := by decide +kernel
theorem dX8_shift_113 : decode cX8_shift 113 = .ok (.iload 5, 2) := by decide +kernel
theorem dX8_shift_115 : decode cX8_shift 115 = .ok (.ireturn, 1) := by decide +kernel
theorem dX8_isPlace_0 : decode cX8_isPlace 0 = .ok (.iload_n 0, 1) := by decide +kernel
theorem dX8_isPlace_1 : decode cX8_isPlace 1 = .ok (.ifCond .lt 13, 3) := by decide +kernel
theorem dX8_isPlace_4 : decode cX8_isPlace 4 = .ok (.iload_n 0, 1) := by decide +kernel
theorem dX8_isPlace_5 : decode cX8_isPlace 5 = .ok (.bipush 30, 2) := by decide +kernel
theorem dX8_isPlace_7 : decode cX8_isPlace 7 = .ok (.if_icmp .ge 7, 3) := by decide +kernel
theorem dX8_isPlace_10 : decode cX8_isPlace 10 = .ok (.iconst 1, 1) := by decide +kernel
theorem dX8_isPlace_11 : decode cX8_isPlace 11 = .ok (.goto 4, 3) := by decide +kernel
theorem dX8_isPlace_14 : decode cX8_isPlace 14 = .ok (.iconst 0, 1) := by decide +kernel
theorem dX8_isPlace_15 : decode cX8_isPlace 15 = .ok (.ireturn, 1) := by decide +kernel
theorem dX8_isDigit_0 : decode cX8_isDigit 0 = .ok (.iload_n 0, 1) := by decide +kernel
theorem dX8_isDigit_1 : decode cX8_isDigit 1 = .ok (.ifCond .lt 13, 3) := by decide +kernel
theorem dX8_isDigit_4 : decode cX8_isDigit 4 = .ok (.iload_n 0, 1) := by decide +kernel
theorem dX8_isDigit_5 : decode cX8_isDigit 5 = .ok (.bipush 9, 2) := by decide +kernel
theorem dX8_isDigit_7 : decode cX8_isDigit 7 = .ok (.if_icmp .gt 7, 3) := by decide +kernel
theorem dX8_isDigit_10 : decode cX8_isDigit 10 = .ok (.iconst 1, 1) := by decide +kernel
theorem dX8_isDigit_11 : decode cX8_isDigit 11 = .ok (.goto 4, 3) := by decide +kernel
theorem dX8_isDigit_14 : decode cX8_isDigit 14 = .ok (.iconst 0, 1) := by decide +kernel
theorem dX8_isDigit_15 : decode cX8_isDigit 15 = .ok (.ireturn, 1) := by decide +kernel
theorem dX8_isPart_0 : decode cX8_isPart 0 = .ok (.iload_n 0, 1) := by decide +kernel
theorem dX8_isPart_1 : decode cX8_isPart 1 = .ok (.ifCond .eq 8, 3) := by decide +kernel
theorem dX8_isPart_4 : decode cX8_isPart 4 = .ok (.iload_n 0, 1) := by decide +kernel
theorem dX8_isPart_5 : decode cX8_isPart 5 = .ok (.iconst 1, 1) := by decide +kernel
theorem dX8_isPart_6 : decode cX8_isPart 6 = .ok (.if_icmp .ne 7, 3) := by decide +kernel
theorem dX8_isPart_9 : decode cX8_isPart 9 = .ok (.iconst 1, 1) := by decide +kernel
theorem dX8_isPart_10 : decode cX8_isPart 10 = .ok (.goto 4, 3) := by decide +kernel
theorem dX8_isPart_13 : decode cX8_isPart 13 = .ok (.iconst 0, 1) := by decide +kernel
theorem dX8_isPart_14 : decode cX8_isPart 14 = .ok (.ireturn, 1) := by decide +kernel
theorem dX8_isTape_0 : decode cX8_isTape 0 = .ok (.iload_n 0, 1) := by decide +kernel
theorem dX8_isTape_1 : decode cX8_isTape 1 = .ok (.ifCond .lt 13, 3) := by decide +kernel
theorem dX8_isTape_4 : decode cX8_isTape 4 = .ok (.iload_n 0, 1) := by decide +kernel
theorem dX8_isTape_5 : decode cX8_isTape 5 = .ok (.bipush 6, 2) := by decide +kernel
theorem dX8_isTape_7 : decode cX8_isTape 7 = .ok (.if_icmp .ge 7, 3) := by decide +kernel
theorem dX8_isTape_10 : decode cX8_isTape 10 = .ok (.iconst 1, 1) := by decide +kernel
theorem dX8_isTape_11 : decode cX8_isTape 11 = .ok (.goto 4, 3) := by decide +kernel
theorem dX8_isTape_14 : decode cX8_isTape 14 = .ok (.iconst 0, 1) := by decide +kernel
theorem dX8_isTape_15 : decode cX8_isTape 15 = .ok (.ireturn, 1) := by decide +kernel
theorem dX8_bit_0 : decode cX8_bit 0 = .ok (.iload_n 0, 1) := by decide +kernel
theorem dX8_bit_1 : decode cX8_bit 1 = .ok (.ifCond .eq 7, 3) := by decide +kernel
theorem dX8_bit_4 : decode cX8_bit 4 = .ok (.iconst 1, 1) := by decide +kernel
theorem dX8_bit_5 : decode cX8_bit 5 = .ok (.goto 4, 3) := by decide +kernel
theorem dX8_bit_8 : decode cX8_bit 8 = .ok (.iconst 0, 1) := by decide +kernel
theorem dX8_bit_9 : decode cX8_bit 9 = .ok (.ireturn, 1) := by decide +kernel
theorem dX9_init_0 : decode cX9_init 0 = .ok (.aload_n 0, 1) := by decide +kernel
theorem dX9_init_1 : decode cX9_init 1 = .ok (.invokespecial 1, 3) := by decide +kernel
theorem dX9_init_4 : decode cX9_init 4 = .ok (.aload_n 0, 1) := by decide +kernel
theorem dX9_init_5 : decode cX9_init 5 = .ok (.iconst 0, 1) := by decide +kernel
theorem dX9_init_6 : decode cX9_init 6 = .ok (.putfield 7, 3) := by decide +kernel
theorem dX9_init_9 : decode cX9_init 9 = .ok (.aload_n 0, 1) := by decide +kernel
theorem dX9_init_10 : decode cX9_init 10 = .ok (.iconst 0, 1) := by decide +kernel
theorem dX9_init_11 : decode cX9_init 11 = .ok (.putfield 13, 3) := by decide +kernel
theorem dX9_init_14 : decode cX9_init 14 = .ok (.aload_n 0, 1) := by decide +kernel
theorem dX9_init_15 : decode cX9_init 15 = .ok (.iconst 0, 1) := by decide +kernel
theorem dX9_init_16 : decode cX9_init 16 = .ok (.putfield 16, 3) := by decide +kernel
theorem dX9_init_19 : decode cX9_init 19 = .ok (.aload_n 0, 1) := by decide +kernel
theorem dX9_init_20 : decode cX9_init 20 = .ok (.iconst 0, 1) := by decide +kernel
theorem dX9_init_21 : decode cX9_init 21 = .ok (.putfield 19, 3) := by decide +kernel
theorem dX9_init_24 : decode cX9_init 24 = .ok (.aload_n 0, 1) := by decide +kernel
theorem dX9_init_25 : decode cX9_init 25 = .ok (.iconst 0, 1) := by decide +kernel
theorem dX9_init_26 : decode cX9_init 26 = .ok (.putfield 22, 3) := by decide +kernel
theorem dX9_init_29 : decode cX9_init 29 = .ok (.aload_n 0, 1) := by decide +kernel
theorem dX9_init_30 : decode cX9_init 30 = .ok (.iconst 0, 1) := by decide +kernel
theorem dX9_init_31 : decode cX9_init 31 = .ok (.putfield 25, 3) := by decide +kernel
theorem dX9_init_34 : decode cX9_init 34 = .ok (.aload_n 0, 1) := by decide +kernel
theorem dX9_init_35 : decode cX9_init 35 = .ok (.iconst 0, 1) := by decide +kernel
theorem dX9_init_36 : decode cX9_init 36 = .ok (.putfield 28, 3) := by decide +kernel
theorem dX9_init_39 : decode cX9_init 39 = .ok (.aload_n 0, 1) := by decide +kernel
theorem dX9_init_40 : decode cX9_init 40 = .ok (.iconst 0, 1) := by decide +kernel
theorem dX9_init_41 : decode cX9_init 41 = .ok (.putfield 31, 3) := by decide +kernel
theorem dX9_init_44 : decode cX9_init 44 = .ok (.aload_n 0, 1) := by decide +kernel
theorem dX9_init_45 : decode cX9_init 45 = .ok (.iconst 0, 1) := by decide +kernel
theorem dX9_init_46 : decode cX9_init 46 = .ok (.putfield 34, 3) := by decide +kernel
theorem dX9_init_49 : decode cX9_init 49 = .ok (.aload_n 0, 1) := by decide +kernel
theorem dX9_init_50 : decode cX9_init 50 = .ok (.bipush 6, 2) := by decide +kernel
theorem dX9_init_52 : decode cX9_init 52 = .ok (.newarray .int, 2) := by decide +kernel
theorem dX9_init_54 : decode cX9_init 54 = .ok (.putfield 37, 3) := by decide +kernel
theorem dX9_init_57 : decode cX9_init 57 = .ok (.aload_n 0, 1) := by decide +kernel
theorem dX9_init_58 : decode cX9_init 58 = .ok (.bipush 6, 2) := by decide +kernel
theorem dX9_init_60 : decode cX9_init 60 = .ok (.newarray .int, 2) := by decide +kernel
theorem dX9_init_62 : decode cX9_init 62 = .ok (.putfield 41, 3) := by decide +kernel
theorem dX9_init_65 : decode cX9_init 65 = .ok (.aload_n 0, 1) := by decide +kernel
theorem dX9_init_66 : decode cX9_init 66 = .ok (.bipush 6, 2) := by decide +kernel
theorem dX9_init_68 : decode cX9_init 68 = .ok (.newarray .int, 2) := by decide +kernel
theorem dX9_init_70 : decode cX9_init 70 = .ok (.putfield 44, 3) := by decide +kernel
theorem dX9_init_73 : decode cX9_init 73 = .ok (.aload_n 0, 1) := by decide +kernel
theorem dX9_init_74 : decode cX9_init 74 = .ok (.bipush 6, 2) := by decide +kernel
theorem dX9_init_76 : decode cX9_init 76 = .ok (.newarray .int, 2) := by decide +kernel
theorem dX9_init_78 : decode cX9_init 78 = .ok (.putfield 47, 3) := by decide +kernel
theorem dX9_init_81 : decode cX9_init 81 = .ok (.aload_n 0, 1) := by decide +kernel
theorem dX9_init_82 : decode cX9_init 82 = .ok (.bipush 6, 2) := by decide +kernel
theorem dX9_init_84 : decode cX9_init 84 = .ok (.newarray .int, 2) := by decide +kernel
theorem dX9_init_86 : decode cX9_init 86 = .ok (.putfield 50, 3) := by decide +kernel
theorem dX9_init_89 : decode cX9_init 89 = .ok (.aload_n 0, 1) := by decide +kernel
theorem dX9_init_90 : decode cX9_init 90 = .ok (.bipush 24, 2) := by decide +kernel
theorem dX9_init_92 : decode cX9_init 92 = .ok (.newarray .int, 2) := by decide +kernel
theorem dX9_init_94 : decode cX9_init 94 = .ok (.putfield 53, 3) := by decide +kernel
theorem dX9_init_97 : decode cX9_init 97 = .ok (.aload_n 0, 1) := by decide +kernel
theorem dX9_init_98 : decode cX9_init 98 = .ok (.bipush 6, 2) := by decide +kernel
theorem dX9_init_100 : decode cX9_init 100 = .ok (.newarray .int, 2) := by decide +kernel
theorem dX9_init_102 : decode cX9_init 102 = .ok (.putfield 56, 3) := by decide +kernel
theorem dX9_init_105 : decode cX9_init 105 = .ok (.aload_n 0, 1) := by decide +kernel
theorem dX9_init_106 : decode cX9_init 106 = .ok (.iconst 0, 1) := by decide +kernel
theorem dX9_init_107 : decode cX9_init 107 = .ok (.putfield 59, 3) := by decide +kernel
theorem dX9_init_110 : decode cX9_init 110 = .ok (.aload_n 0, 1) := by decide +kernel
theorem dX9_init_111 : decode cX9_init 111 = .ok (.iconst (-1), 1) := by decide +kernel
theorem dX9_init_112 : decode cX9_init 112 = .ok (.putfield 62, 3) := by decide +kernel
theorem dX9_init_115 : decode cX9_init 115 = .ok (.aload_n 0, 1) := by decide +kernel
theorem dX9_init_116 : decode cX9_init 116 = .ok (.iconst 0, 1) := by decide +kernel
theorem dX9_init_117 : decode cX9_init 117 = .ok (.putfield 65, 3) := by decide +kernel
theorem dX9_init_120 : decode cX9_init 120 = .ok (.aload_n 0, 1) := by decide +kernel
theorem dX9_init_121 : decode cX9_init 121 = .ok (.iconst 0, 1) := by decide +kernel
theorem dX9_init_122 : decode cX9_init 122 = .ok (.putfield 68, 3) := by decide +kernel
theorem dX9_init_125 : decode cX9_init 125 = .ok (.aload_n 0, 1) := by decide +kernel
theorem dX9_init_126 : decode cX9_init 126 = .ok (.iconst 0, 1) := by decide +kernel
theorem dX9_init_127 : decode cX9_init 127 = .ok (.putfield 71, 3) := by decide +kernel
theorem dX9_init_130 : decode cX9_init 130 = .ok (.aload_n 0, 1) := by decide +kernel
theorem dX9_init_131 : decode cX9_init 131 = .ok (.bipush 100, 2) := by decide +kernel
theorem dX9_init_133 : decode cX9_init 133 = .ok (.newarray .int, 2) := by decide +kernel
theorem dX9_init_135 : decode cX9_init 135 = .ok (.putfield 74, 3) := by decide +kernel
theorem dX9_init_138 : decode cX9_init 138 = .ok (.aload_n 0, 1) := by decide +kernel
theorem dX9_init_139 : decode cX9_init 139 = .ok (.bipush 6, 2) := by decide +kernel
theorem dX9_init_141 : decode cX9_init 141 = .ok (.newarray .int, 2) := by decide +kernel
theorem dX9_init_143 : decode cX9_init 143 = .ok (.putfield 77, 3) := by decide +kernel
theorem dX9_init_146 : decode cX9_init 146 = .ok (.aload_n 0, 1) := by decide +kernel
theorem dX9_init_147 : decode cX9_init 147 = .ok (.bipush 60, 2) := by decide +kernel
theorem dX9_init_149 : decode cX9_init 149 = .ok (.newarray .int, 2) := by decide +kernel
theorem dX9_init_151 : decode cX9_init 151 = .ok (.putfield 80, 3) := by decide +kernel
theorem dX9_init_154 : decode cX9_init 154 = .ok (.aload_n 0, 1) := by decide +kernel
theorem dX9_init_155 : decode cX9_init 155 = .ok (.bipush 60, 2) := by decide +kernel
theorem dX9_init_157 : decode cX9_init 157 = .ok (.newarray .int, 2) := by decide +kernel
theorem dX9_init_159 : decode cX9_init 159 = .ok (.putfield 83, 3) := by decide +kernel
theorem dX9_init_162 : decode cX9_init 162 = .ok (.aload_n 0, 1) := by decide +kernel
theorem dX9_init_163 : decode cX9_init 163 = .ok (.bipush 60, 2) := by decide +kernel
theorem dX9_init_165 : decode cX9_init 165 = .ok (.newarray .int, 2) := by decide +kernel
theorem dX9_init_167 : decode cX9_init 167 = .ok (.putfield 86, 3) := by decide +kernel
theorem dX9_init_170 : decode cX9_init 170 = .ok (.aload_n 0, 1) := by decide +kernel
theorem dX9_init_171 : decode cX9_init 171 = .ok (.bipush 60, 2) := by decide +kernel
theorem dX9_init_173 : decode cX9_init 173 = .ok (.newarray .int, 2) := by decide +kernel
theorem dX9_init_175 : decode cX9_init 175 = .ok (.putfield 89, 3) := by decide +kernel
theorem dX9_init_178 : decode cX9_init 178 = .ok (.aload_n 0, 1) := by decide +kernel
theorem dX9_init_179 : decode cX9_init 179 = .ok (.sipush 600, 3) := by decide +kernel
theorem dX9_init_182 : decode cX9_init 182 = .ok (.newarray .int, 2) := by decide +kernel
theorem dX9_init_184 : decode cX9_init 184 = .ok (.putfield 92, 3) := by decide +kernel
theorem dX9_init_187 : decode cX9_init 187 = .ok (.aload_n 0, 1) := by decide +kernel
theorem dX9_init_188 : decode cX9_init 188 = .ok (.bipush 101, 2) := by decide +kernel
theorem dX9_init_190 : decode cX9_init 190 = .ok (.newarray .int, 2) := by decide +kernel
theorem dX9_init_192 : decode cX9_init 192 = .ok (.putfield 95, 3) := by decide +kernel
theorem dX9_init_195 : decode cX9_init 195 = .ok (.aload_n 0, 1) := by decide +kernel
theorem dX9_init_196 : decode cX9_init 196 = .ok (.iconst 0, 1) := by decide +kernel
theorem dX9_init_197 : decode cX9_init 197 = .ok (.putfield 98, 3) := by decide +kernel
theorem dX9_init_200 : decode cX9_init 200 = .ok (.aload_n 0, 1) := by decide +kernel
theorem dX9_init_201 : decode cX9_init 201 = .ok (.iconst 0, 1) := by decide +kernel
theorem dX9_init_202 : decode cX9_init 202 = .ok (.putfield 101, 3) := by decide +kernel
theorem dX9_init_205 : decode cX9_init 205 = .ok (.aload_n 0, 1) := by decide +kernel
theorem dX9_init_206 : decode cX9_init 206 = .ok (.iconst 0, 1) := by decide +kernel
theorem dX9_init_207 : decode cX9_init 207 = .ok (.putfield 104, 3) := by decide +kernel
theorem dX9_init_210 : decode cX9_init 210 = .ok (.aload_n 0, 1) := by decide +kernel
theorem dX9_init_211 : decode cX9_init 211 = .ok (.bipush 16, 2) := by decide +kernel
theorem dX9_init_213 : decode cX9_init 213 = .ok (.newarray .int, 2) := by decide +kernel
theorem dX9_init_215 : decode cX9_init 215 = .ok (.dup, 1) := by decide +kernel
theorem dX9_init_216 : decode cX9_init 216 = .ok (.iconst 0, 1) := by decide +kernel
theorem dX9_init_217 : decode cX9_init 217 = .ok (.bipush 107, 2) := by decide +kernel
theorem dX9_init_219 : decode cX9_init 219 = .ok (.iastore, 1) := by decide +kernel
theorem dX9_init_220 : decode cX9_init 220 = .ok (.dup, 1) := by decide +kernel
theorem dX9_init_221 : decode cX9_init 221 = .ok (.iconst 1, 1) := by decide +kernel
theorem dX9_init_222 : decode cX9_init 222 = .ok (.bipush 101, 2) := by decide +kernel
theorem dX9_init_224 : decode cX9_init 224 = .ok (.iastore, 1) := by decide +kernel
theorem dX9_init_225 : decode cX9_init 225 = .ok (.dup, 1) := by decide +kernel
theorem dX9_init_226 : decode cX9_init 226 = .ok (.iconst 2, 1) := by decide +kernel
theorem dX9_init_227 : decode cX9_init 227 = .ok (.bipush 101, 2) := by decide +kernel
theorem dX9_init_229 : decode cX9_init 229 = .ok (.iastore, 1) := by decide +kernel
theorem dX9_init_230 : decode cX9_init 230 = .ok (.dup, 1) := by decide +kernel
theorem dX9_init_231 : decode cX9_init 231 = .ok (.iconst 3, 1) := by decide +kernel
theorem dX9_init_232 : decode cX9_init 232 = .ok (.bipush 110, 2) := by decide +kernel
theorem dX9_init_234 : decode cX9_init 234 = .ok (.iastore, 1) := by decide +kernel
theorem dX9_init_235 : decode cX9_init 235 = .ok (.dup, 1) := by decide +kernel
theorem dX9_init_236 : decode cX9_init 236 = .ok (.iconst 4, 1) := by decide +kernel
theorem dX9_init_237 : decode cX9_init 237 = .ok (.bipush 100, 2) := by decide +kernel
theorem dX9_init_239 : decode cX9_init 239 = .ok (.iastore, 1) := by decide +kernel
theorem dX9_init_240 : decode cX9_init 240 = .ok (.dup, 1) := by decide +kernel
theorem dX9_init_241 : decode cX9_init 241 = .ok (.iconst 5, 1) := by decide +kernel
theorem dX9_init_242 : decode cX9_init 242 = .ok (.bipush 101, 2) := by decide +kernel
theorem dX9_init_244 : decode cX9_init 244 = .ok (.iastore, 1) := by decide +kernel
theorem dX9_init_245 : decode cX9_init 245 = .ok (.dup, 1) := by decide +kernel
theorem dX9_init_246 : decode cX9_init 246 = .ok (.bipush 6, 2) := by decide +kernel
theorem dX9_init_248 : decode cX9_init 248 = .ok (.bipush 97, 2) := by decide +kernel
theorem dX9_init_250 : decode cX9_init 250 = .ok (.iastore, 1) := by decide +kernel
theorem dX9_init_251 : decode cX9_init 251 = .ok (.dup, 1) := by decide +kernel
theorem dX9_init_252 : decode cX9_init 252 = .ok (.bipush 7, 2) := by decide +kernel
theorem dX9_init_254 : decode cX9_init 254 = .ok (.bipush 102, 2) := by decide +kernel
theorem dX9_init_256 : decode cX9_init 256 = .ok (.iastore, 1) := by decide +kernel
theorem dX9_init_257 : decode cX9_init 257 = .ok (.dup, 1) := by decide +kernel
theorem dX9_init_258 : decode cX9_init 258 = .ok (.bipush 8, 2) := by decide +kernel
theorem dX9_init_260 : decode cX9_init 260 = .ok (.bipush 98, 2) := by decide +kernel
theorem dX9_init_262 : decode cX9_init 262 = .ok (.iastore, 1) := by decide +kernel
theorem dX9_init_263 : decode cX9_init 263 = .ok (.dup, 1) := by decide +kernel
theorem dX9_init_264 : decode cX9_init 264 = .ok (.bipush 9, 2) := by decide +kernel
theorem dX9_init_266 : decode cX9_init 266 = .ok (.bipush 101, 2) := by decide +kernel
theorem dX9_init_268 : decode cX9_init 268 = .ok (.iastore, 1) := by decide +kernel
theorem dX9_init_269 : decode cX9_init 269 = .ok (.dup, 1) := by decide +kernel
theorem dX9_init_270 : decode cX9_init 270 = .ok (.bipush 10, 2) := by decide +kernel
theorem dX9_init_272 : decode cX9_init 272 = .ok (.bipush 108, 2) := by decide +kernel
theorem dX9_init_274 : decode cX9_init 274 = .ok (.iastore, 1) := by decide +kernel
theorem dX9_init_275 : decode cX9_init 275 = .ok (.dup, 1) := by decide +kernel
theorem dX9_init_276 : decode cX9_init 276 = .ok (.bipush 11, 2) := by decide +kernel
theorem dX9_init_278 : decode cX9_init 278 = .ok (.bipush 108, 2) := by decide +kernel
theorem dX9_init_280 : decode cX9_init 280 = .ok (.iastore, 1) := by decide +kernel
theorem dX9_init_281 : decode cX9_init 281 = .ok (.dup, 1) := by decide +kernel
theorem dX9_init_282 : decode cX9_init 282 = .ok (.bipush 12, 2) := by decide +kernel
theorem dX9_init_284 : decode cX9_init 284 = .ok (.bipush 112, 2) := by decide +kernel
theorem dX9_init_286 : decode cX9_init 286 = .ok (.iastore, 1) := by decide +kernel
theorem dX9_init_287 : decode cX9_init 287 = .ok (.dup, 1) := by decide +kernel
theorem dX9_init_288 : decode cX9_init 288 = .ok (.bipush 13, 2) := by decide +kernel
theorem dX9_init_290 : decode cX9_init 290 = .ok (.bipush 97, 2) := by decide +kernel
theorem dX9_init_292 : decode cX9_init 292 = .ok (.iastore, 1) := by decide +kernel
theorem dX9_init_293 : decode cX9_init 293 = .ok (.dup, 1) := by decide +kernel
theorem dX9_init_294 : decode cX9_init 294 = .ok (.bipush 14, 2) := by decide +kernel
theorem dX9_init_296 : decode cX9_init 296 = .ok (.bipush 99, 2) := by decide +kernel
theorem dX9_init_298 : decode cX9_init 298 = .ok (.iastore, 1) := by decide +kernel
theorem dX9_init_299 : decode cX9_init 299 = .ok (.dup, 1) := by decide +kernel
theorem dX9_init_300 : decode cX9_init 300 = .ok (.bipush 15, 2) := by decide +kernel
theorem dX9_init_302 : decode cX9_init 302 = .ok (.bipush 101, 2) := by decide +kernel
theorem dX9_init_304 : decode cX9_init 304 = .ok (.iastore, 1) := by decide +kernel
theorem dX9_init_305 : decode cX9_init 305 = .ok (.putfield 107, 3) := by decide +kernel
theorem dX9_init_308 : decode cX9_init 308 = .ok (.aload_n 0, 1) := by decide +kernel
theorem dX9_init_309 : decode cX9_init 309 = .ok (.iconst (-1), 1) := by decide +kernel
theorem dX9_init_310 : decode cX9_init 310 = .ok (.putfield 110, 3) := by decide +kernel
theorem dX9_init_313 : decode cX9_init 313 = .ok (.aload_n 0, 1) := by decide +kernel
theorem dX9_init_314 : decode cX9_init 314 = .ok (.iconst 0, 1) := by decide +kernel
theorem dX9_init_315 : decode cX9_init 315 = .ok (.putfield 113, 3) := by decide +kernel
theorem dX9_init_318 : decode cX9_init 318 = .ok (.aload_n 0, 1) := by decide +kernel
theorem dX9_init_319 : decode cX9_init 319 = .ok (.iconst (-1), 1) := by decide +kernel
theorem dX9_init_320 : decode cX9_init 320 = .ok (.putfield 116, 3) := by decide +kernel
theorem dX9_init_323 : decode cX9_init 323 = .ok (.aload_n 0, 1) := by decide +kernel
theorem dX9_init_324 : decode cX9_init 324 = .ok (.bipush 100, 2) := by decide +kernel
theorem dX9_init_326 : decode cX9_init 326 = .ok (.newarray .boolean, 2) := by decide +kernel
theorem dX9_init_328 : decode cX9_init 328 = .ok (.putfield 119, 3) := by decide +kernel
theorem dX9_init_331 : decode cX9_init 331 = .ok (.aload_n 0, 1) := by decide +kernel
theorem dX9_init_332 : decode cX9_init 332 = .ok (.bipush 6, 2) := by decide +kernel
theorem dX9_init_334 : decode cX9_init 334 = .ok (.newarray .int, 2) := by decide +kernel
theorem dX9_init_336 : decode cX9_init 336 = .ok (.putfield 123, 3) := by decide +kernel
theorem dX9_init_339 : decode cX9_init 339 = .ok (.aload_n 0, 1) := by decide +kernel
theorem dX9_init_340 : decode cX9_init 340 = .ok (.iconst 0, 1) := by decide +kernel
theorem dX9_init_341 : decode cX9_init 341 = .ok (.putfield 126, 3) := by decide +kernel
theorem dX9_init_344 : decode cX9_init 344 = .ok (.aload_n 0, 1) := by decide +kernel
theorem dX9_init_345 : decode cX9_init 345 = .ok (.iconst 0, 1) := by decide +kernel
theorem dX9_init_346 : decode cX9_init 346 = .ok (.putfield 129, 3) := by decide +kernel
theorem dX9_init_349 : decode cX9_init 349 = .ok (.aload_n 0, 1) := by decide +kernel
theorem dX9_init_350 : decode cX9_init 350 = .ok (.iconst 0, 1) := by decide +kernel
theorem dX9_init_351 : decode cX9_init 351 = .ok (.putfield 132, 3) := by decide +kernel
theorem dX9_init_354 : decode cX9_init 354 = .ok (.aload_n 0, 1) := by decide +kernel
theorem dX9_init_355 : decode cX9_init 355 = .ok (.iconst 0, 1) := by decide +kernel
theorem dX9_init_356 : decode cX9_init 356 = .ok (.putfield 135, 3) := by decide +kernel
theorem dX9_init_359 : decode cX9_init 359 = .ok (.aload_n 0, 1) := by decide +kernel
theorem dX9_init_360 : decode cX9_init 360 = .ok (.iconst 0, 1) := by decide +kernel
theorem dX9_init_361 : decode cX9_init 361 = .ok (.putfield 138, 3) := by decide +kernel
theorem dX9_init_364 : decode cX9_init 364 = .ok (.aload_n 0, 1) := by decide +kernel
theorem dX9_init_365 : decode cX9_init 365 = .ok (.iconst 0, 1) := by decide +kernel
theorem dX9_init_366 : decode cX9_init 366 = .ok (.putfield 141, 3) := by decide +kernel
theorem dX9_init_369 : decode cX9_init 369 = .ok (.aload_n 0, 1) := by decide +kernel
theorem dX9_init_370 : decode cX9_init 370 = .ok (.iconst 0, 1) := by decide +kernel
theorem dX9_init_371 : decode cX9_init 371 = .ok (.putfield 144, 3) := by decide +kernel
theorem dX9_init_374 : decode cX9_init 374 = .ok (.aload_n 0, 1) := by decide +kernel
theorem dX9_init_375 : decode cX9_init 375 = .ok (.iconst 0, 1) := by decide +kernel
theorem dX9_init_376 : decode cX9_init 376 = .ok (.putfield 147, 3) := by decide +kernel
theorem dX9_init_379 : decode cX9_init 379 = .ok (.aload_n 0, 1) := by decide +kernel
theorem dX9_init_380 : decode cX9_init 380 = .ok (.bipush 6, 2) := by decide +kernel
theorem dX9_init_382 : decode cX9_init 382 = .ok (.newarray .int, 2) := by decide +kernel
theorem dX9_init_384 : decode cX9_init 384 = .ok (.putfield 150, 3) := by decide +kernel
theorem dX9_init_387 : decode cX9_init 387 = .ok (.aload_n 0, 1) := by decide +kernel
theorem dX9_init_388 : decode cX9_init 388 = .ok (.bipush 6, 2) := by decide +kernel
theorem dX9_init_390 : decode cX9_init 390 = .ok (.newarray .int, 2) := by decide +kernel
theorem dX9_init_392 : decode cX9_init 392 = .ok (.putfield 153, 3) := by decide +kernel
theorem dX9_init_395 : decode cX9_init 395 = .ok (.aload_n 0, 1) := by decide +kernel
theorem dX9_init_396 : decode cX9_init 396 = .ok (.bipush 6, 2) := by decide +kernel
theorem dX9_init_398 : decode cX9_init 398 = .ok (.newarray .int, 2) := by decide +kernel
theorem dX9_init_400 : decode cX9_init 400 = .ok (.putfield 156, 3) := by decide +kernel
theorem dX9_init_403 : decode cX9_init 403 = .ok (.aload_n 0, 1) := by decide +kernel
theorem dX9_init_404 : decode cX9_init 404 = .ok (.iconst 0, 1) := by decide +kernel
theorem dX9_init_405 : decode cX9_init 405 = .ok (.putfield 159, 3) := by decide +kernel
theorem dX9_init_408 : decode cX9_init 408 = .ok (.aload_n 0, 1) := by decide +kernel
theorem dX9_init_409 : decode cX9_init 409 = .ok (.iconst 5, 1) := by decide +kernel
theorem dX9_init_410 : decode cX9_init 410 = .ok (.newarray .int, 2) := by decide +kernel
theorem dX9_init_412 : decode cX9_init 412 = .ok (.putfield 162, 3) := by decide +kernel
theorem dX9_init_415 : decode cX9_init 415 = .ok (.aload_n 0, 1) := by decide +kernel
theorem dX9_init_416 : decode cX9_init 416 = .ok (.iconst 5, 1) := by decide +kernel
theorem dX9_init_417 : decode cX9_init 417 = .ok (.newarray .int, 2) := by decide +kernel
theorem dX9_init_419 : decode cX9_init 419 = .ok (.putfield 165, 3) := by decide +kernel
theorem dX9_init_422 : decode cX9_init 422 = .ok (.aload_n 0, 1) := by decide +kernel
theorem dX9_init_423 : decode cX9_init 423 = .ok (.iconst 5, 1) := by decide +kernel
theorem dX9_init_424 : decode cX9_init 424 = .ok (.newarray .boolean, 2) := by decide +kernel
theorem dX9_init_426 : decode cX9_init 426 = .ok (.putfield 168, 3) := by decide +kernel
theorem dX9_init_429 : decode cX9_init 429 = .ok (.aload_n 0, 1) := by decide +kernel
theorem dX9_init_430 : decode cX9_init 430 = .ok (.iconst 0, 1) := by decide +kernel
theorem dX9_init_431 : decode cX9_init 431 = .ok (.putfield 171, 3) := by decide +kernel
theorem dX9_init_434 : decode cX9_init 434 = .ok (.aload_n 0, 1) := by decide +kernel
theorem dX9_init_435 : decode cX9_init 435 = .ok (.iconst 0, 1) := by decide +kernel
theorem dX9_init_436 : decode cX9_init 436 = .ok (.putfield 174, 3) := by decide +kernel
theorem dX9_init_439 : decode cX9_init 439 = .ok (.aload_n 0, 1) := by decide +kernel
theorem dX9_init_440 : decode cX9_init 440 = .ok (.bipush 10, 2) := by decide +kernel
theorem dX9_init_442 : decode cX9_init 442 = .ok (.newarray .int, 2) := by decide +kernel
theorem dX9_init_444 : decode cX9_init 444 = .ok (.putfield 177, 3) := by decide +kernel
theorem dX9_init_447 : decode cX9_init 447 = .ok (.aload_n 0, 1) := by decide +kernel
theorem dX9_init_448 : decode cX9_init 448 = .ok (.bipush 10, 2) := by decide +kernel
theorem dX9_init_450 : decode cX9_init 450 = .ok (.newarray .int, 2) := by decide +kernel
theorem dX9_init_452 : decode cX9_init 452 = .ok (.putfield 180, 3) := by decide +kernel
theorem dX9_init_455 : decode cX9_init 455 = .ok (.aload_n 0, 1) := by decide +kernel
theorem dX9_init_456 : decode cX9_init 456 = .ok (.bipush 8, 2) := by decide +kernel
theorem dX9_init_458 : decode cX9_init 458 = .ok (.newarray .int, 2) := by decide +kernel
theorem dX9_init_460 : decode cX9_init 460 = .ok (.putfield 183, 3) := by decide +kernel
theorem dX9_init_463 : decode cX9_init 463 = .ok (.aload_n 0, 1) := by decide +kernel
theorem dX9_init_464 : decode cX9_init 464 = .ok (.bipush 8, 2) := by decide +kernel
theorem dX9_init_466 : decode cX9_init 466 = .ok (.newarray .int, 2) := by decide +kernel
theorem dX9_init_468 : decode cX9_init 468 = .ok (.putfield 186, 3) := by decide +kernel
theorem dX9_init_471 : decode cX9_init 471 = .ok (.aload_n 0, 1) := by decide +kernel
theorem dX9_init_472 : decode cX9_init 472 = .ok (.iconst 0, 1) := by decide +kernel
theorem dX9_init_473 : decode cX9_init 473 = .ok (.putfield 189, 3) := by decide +kernel
theorem dX9_init_476 : decode cX9_init 476 = .ok (.aload_n 0, 1) := by decide +kernel
theorem dX9_init_477 : decode cX9_init 477 = .ok (.iconst (-1), 1) := by decide +kernel
theorem dX9_init_478 : decode cX9_init 478 = .ok (.putfield 193, 3) := by decide +kernel
theorem dX9_init_481 : decode cX9_init 481 = .ok (.aload_n 0, 1) := by decide +kernel
theorem dX9_init_482 : decode cX9_init 482 = .ok (.iconst 0, 1) := by decide +kernel
theorem dX9_init_483 : decode cX9_init 483 = .ok (.putfield 196, 3) := by decide +kernel
theorem dX9_init_486 : decode cX9_init 486 = .ok (.aload_n 0, 1) := by decide +kernel
theorem dX9_init_487 : decode cX9_init 487 = .ok (.iconst 0, 1) := by decide +kernel
theorem dX9_init_488 : decode cX9_init 488 = .ok (.putfield 199, 3) := by decide +kernel
theorem dX9_init_491 : decode cX9_init 491 = .ok (.aload_n 0, 1) := by decide +kernel
theorem dX9_init_492 : decode cX9_init 492 = .ok (.iconst 0, 1) := by decide +kernel
theorem dX9_init_493 : decode cX9_init 493 = .ok (.putfield 202, 3) := by decide +kernel
theorem dX9_init_496 : decode cX9_init 496 = .ok (.aload_n 0, 1) := by decide +kernel
theorem dX9_init_497 : decode cX9_init 497 = .ok (.iconst 0, 1) := by decide +kernel
theorem dX9_init_498 : decode cX9_init 498 = .ok (.putfield 205, 3) := by decide +kernel
theorem dX9_init_501 : decode cX9_init 501 = .ok (.aload_n 0, 1) := by decide +kernel
theorem dX9_init_502 : decode cX9_init 502 = .ok (.iconst 0, 1) := by decide +kernel
theorem dX9_init_503 : decode cX9_init 503 = .ok (.putfield 208, 3) := by decide +kernel
theorem dX9_init_506 : decode cX9_init 506 = .ok (.aload_n 0, 1) := by decide +kernel
theorem dX9_init_507 : decode cX9_init 507 = .ok (.iconst 0, 1) := by decide +kernel
theorem dX9_init_508 : decode cX9_init 508 = .ok (.putfield 211, 3) := by decide +kernel
theorem dX9_init_511 : decode cX9_init 511 = .ok (.aload_n 0, 1) := by decide +kernel
theorem dX9_init_512 : decode cX9_init 512 = .ok (.iconst 0, 1) := by decide +kernel
theorem dX9_init_513 : decode cX9_init 513 = .ok (.putfield 214, 3) := by decide +kernel
theorem dX9_init_516 : decode cX9_init 516 = .ok (.aload_n 0, 1) := by decide +kernel
theorem dX9_init_517 : decode cX9_init 517 = .ok (.iconst 0, 1) := by decide +kernel
theorem dX9_init_518 : decode cX9_init 518 = .ok (.putfield 217, 3) := by decide +kernel
theorem dX9_init_521 : decode cX9_init 521 = .ok (.aload_n 0, 1) := by decide +kernel
theorem dX9_init_522 : decode cX9_init 522 = .ok (.iconst 0, 1) := by decide +kernel
theorem dX9_init_523 : decode cX9_init 523 = .ok (.putfield 220, 3) := by decide +kernel
theorem dX9_init_526 : decode cX9_init 526 = .ok (.aload_n 0, 1) := by decide +kernel
theorem dX9_init_527 : decode cX9_init 527 = .ok (.iconst 0, 1) := by decide +kernel
theorem dX9_init_528 : decode cX9_init 528 = .ok (.putfield 223, 3) := by decide +kernel
theorem dX9_init_531 : decode cX9_init 531 = .ok (.aload_n 0, 1) := by decide +kernel
theorem dX9_init_532 : decode cX9_init 532 = .ok (.iconst 0, 1) := by decide +kernel
theorem dX9_init_533 : decode cX9_init 533 = .ok (.putfield 226, 3) := by decide +kernel
theorem dX9_init_536 : decode cX9_init 536 = .ok (.aload_n 0, 1) := by decide +kernel
theorem dX9_init_537 : decode cX9_init 537 = .ok (.iconst 0, 1) := by decide +kernel
theorem dX9_init_538 : decode cX9_init 538 = .ok (.putfield 229, 3) := by decide +kernel
theorem dX9_init_541 : decode cX9_init 541 = .ok (.aload_n 0, 1) := by decide +kernel
theorem dX9_init_542 : decode cX9_init 542 = .ok (.bipush 6, 2) := by decide +kernel
theorem dX9_init_544 : decode cX9_init 544 = .ok (.newarray .int, 2) := by decide +kernel
theorem dX9_init_546 : decode cX9_init 546 = .ok (.putfield 232, 3) := by decide +kernel
theorem dX9_init_549 : decode cX9_init 549 = .ok (.aload_n 0, 1) := by decide +kernel
theorem dX9_init_550 : decode cX9_init 550 = .ok (.bipush 6, 2) := by decide +kernel
theorem dX9_init_552 : decode cX9_init 552 = .ok (.newarray .int, 2) := by decide +kernel
theorem dX9_init_554 : decode cX9_init 554 = .ok (.putfield 235, 3) := by decide +kernel
theorem dX9_init_557 : decode cX9_init 557 = .ok (.aload_n 0, 1) := by decide +kernel
theorem dX9_init_558 : decode cX9_init 558 = .ok (.bipush 6, 2) := by decide +kernel
theorem dX9_init_560 : decode cX9_init 560 = .ok (.newarray .int, 2) := by decide +kernel
theorem dX9_init_562 : decode cX9_init 562 = .ok (.putfield 238, 3) := by decide +kernel
theorem dX9_init_565 : decode cX9_init 565 = .ok (.aload_n 0, 1) := by decide +kernel
theorem dX9_init_566 : decode cX9_init 566 = .ok (.bipush 6, 2) := by decide +kernel
theorem dX9_init_568 : decode cX9_init 568 = .ok (.newarray .int, 2) := by decide +kernel
theorem dX9_init_570 : decode cX9_init 570 = .ok (.putfield 241, 3) := by decide +kernel
theorem dX9_init_573 : decode cX9_init 573 = .ok (.aload_n 0, 1) := by decide +kernel
theorem dX9_init_574 : decode cX9_init 574 = .ok (.bipush 6, 2) := by decide +kernel
theorem dX9_init_576 : decode cX9_init 576 = .ok (.newarray .int, 2) := by decide +kernel
theorem dX9_init_578 : decode cX9_init 578 = .ok (.putfield 244, 3) := by decide +kernel
theorem dX9_init_581 : decode cX9_init 581 = .ok (.aload_n 0, 1) := by decide +kernel
theorem dX9_init_582 : decode cX9_init 582 = .ok (.bipush 6, 2) := by decide +kernel
theorem dX9_init_584 : decode cX9_init 584 = .ok (.newarray .int, 2) := by decide +kernel
theorem dX9_init_586 : decode cX9_init 586 = .ok (.putfield 247, 3) := by decide +kernel
theorem dX9_init_589 : decode cX9_init 589 = .ok (.aload_n 0, 1) := by decide +kernel
theorem dX9_init_590 : decode cX9_init 590 = .ok (.bipush 24, 2) := by decide +kernel
theorem dX9_init_592 : decode cX9_init 592 = .ok (.newarray .int, 2) := by decide +kernel
theorem dX9_init_594 : decode cX9_init 594 = .ok (.putfield 250, 3) := by decide +kernel
theorem dX9_init_597 : decode cX9_init 597 = .ok (.aload_n 0, 1) := by decide +kernel
theorem dX9_init_598 : decode cX9_init 598 = .ok (.iconst 5, 1) := by decide +kernel
theorem dX9_init_599 : decode cX9_init 599 = .ok (.newarray .int, 2) := by decide +kernel
theorem dX9_init_601 : decode cX9_init 601 = .ok (.putfield 253, 3) := by decide +kernel
theorem dX9_init_604 : decode cX9_init 604 = .ok (.aload_n 0, 1) := by decide +kernel
theorem dX9_init_605 : decode cX9_init 605 = .ok (.iconst 5, 1) := by decide +kernel
theorem dX9_init_606 : decode cX9_init 606 = .ok (.newarray .int, 2) := by decide +kernel
theorem dX9_init_608 : decode cX9_init 608 = .ok (.putfield 256, 3) := by decide +kernel
theorem dX9_init_611 : decode cX9_init 611 = .ok (.aload_n 0, 1) := by decide +kernel
theorem dX9_init_612 : decode cX9_init 612 = .ok (.bipush 10, 2) := by decide +kernel
theorem dX9_init_614 : decode cX9_init 614 = .ok (.newarray .int, 2) := by decide +kernel
theorem dX9_init_616 : decode cX9_init 616 = .ok (.putfield 259, 3) := by decide +kernel
theorem dX9_init_619 : decode cX9_init 619 = .ok (.aload_n 0, 1) := by decide +kernel
theorem dX9_init_620 : decode cX9_init 620 = .ok (.bipush 10, 2) := by decide +kernel
theorem dX9_init_622 : decode cX9_init 622 = .ok (.newarray .int, 2) := by decide +kernel
theorem dX9_init_624 : decode cX9_init 624 = .ok (.putfield 262, 3) := by decide +kernel
theorem dX9_init_627 : decode cX9_init 627 = .ok (.aload_n 0, 1) := by decide +kernel
theorem dX9_init_628 : decode cX9_init 628 = .ok (.bipush 8, 2) := by decide +kernel
theorem dX9_init_630 : decode cX9_init 630 = .ok (.newarray .int, 2) := by decide +kernel
theorem dX9_init_632 : decode cX9_init 632 = .ok (.putfield 265, 3) := by decide +kernel
theorem dX9_init_635 : decode cX9_init 635 = .ok (.aload_n 0, 1) := by decide +kernel
theorem dX9_init_636 : decode cX9_init 636 = .ok (.bipush 8, 2) := by decide +kernel
theorem dX9_init_638 : decode cX9_init 638 = .ok (.newarray .int, 2) := by decide +kernel
theorem dX9_init_640 : decode cX9_init 640 = .ok (.putfield 268, 3) := by decide +kernel
theorem dX9_init_643 : decode cX9_init 643 = .ok (.aload_n 0, 1) := by decide +kernel
theorem dX9_init_644 : decode cX9_init 644 = .ok (.iconst 5, 1) := by decide +kernel
theorem dX9_init_645 : decode cX9_init 645 = .ok (.newarray .boolean, 2) := by decide +kernel
theorem dX9_init_647 : decode cX9_init 647 = .ok (.putfield 271, 3) := by decide +kernel
theorem dX9_init_650 : decode cX9_init 650 = .ok (.aload_n 0, 1) := by decide +kernel
theorem dX9_init_651 : decode cX9_init 651 = .ok (.iconst 0, 1) := by decide +kernel
theorem dX9_init_652 : decode cX9_init 652 = .ok (.putfield 274, 3) := by decide +kernel
theorem dX9_init_655 : decode cX9_init 655 = .ok (.aload_n 0, 1) := by decide +kernel
theorem dX9_init_656 : decode cX9_init 656 = .ok (.bipush 20, 2) := by decide +kernel
theorem dX9_init_658 : decode cX9_init 658 = .ok (.newarray .int, 2) := by decide +kernel
theorem dX9_init_660 : decode cX9_init 660 = .ok (.putfield 277, 3) := by decide +kernel
theorem dX9_init_663 : decode cX9_init 663 = .ok (.aload_n 0, 1) := by decide +kernel
theorem dX9_init_664 : decode cX9_init 664 = .ok (.bipush 6, 2) := by decide +kernel
theorem dX9_init_666 : decode cX9_init 666 = .ok (.newarray .int, 2) := by decide +kernel
theorem dX9_init_668 : decode cX9_init 668 = .ok (.dup, 1) := by decide +kernel
theorem dX9_init_669 : decode cX9_init 669 = .ok (.iconst 0, 1) := by decide +kernel
theorem dX9_init_670 : decode cX9_init 670 = .ok (.iconst (-1), 1) := by decide +kernel
theorem dX9_init_671 : decode cX9_init 671 = .ok (.iastore, 1) := by decide +kernel
theorem dX9_init_672 : decode cX9_init 672 = .ok (.dup, 1) := by decide +kernel
theorem dX9_init_673 : decode cX9_init 673 = .ok (.iconst 1, 1) := by decide +kernel
theorem dX9_init_674 : decode cX9_init 674 = .ok (.iconst (-1), 1) := by decide +kernel
theorem dX9_init_675 : decode cX9_init 675 = .ok (.iastore, 1) := by decide +kernel
theorem dX9_init_676 : decode cX9_init 676 = .ok (.dup, 1) := by decide +kernel
theorem dX9_init_677 : decode cX9_init 677 = .ok (.iconst 2, 1) := by decide +kernel
theorem dX9_init_678 : decode cX9_init 678 = .ok (.iconst (-1), 1) := by decide +kernel
theorem dX9_init_679 : decode cX9_init 679 = .ok (.iastore, 1) := by decide +kernel
theorem dX9_init_680 : decode cX9_init 680 = .ok (.dup, 1) := by decide +kernel
theorem dX9_init_681 : decode cX9_init 681 = .ok (.iconst 3, 1) := by decide +kernel
theorem dX9_init_682 : decode cX9_init 682 = .ok (.iconst (-1), 1) := by decide +kernel
theorem dX9_init_683 : decode cX9_init 683 = .ok (.iastore, 1) := by decide +kernel
theorem dX9_init_684 : decode cX9_init 684 = .ok (.dup, 1) := by decide +kernel
theorem dX9_init_685 : decode cX9_init 685 = .ok (.iconst 4, 1) := by decide +kernel
theorem dX9_init_686 : decode cX9_init 686 = .ok (.iconst (-1), 1) := by decide +kernel
theorem dX9_init_687 : decode cX9_init 687 = .ok (.iastore, 1) := by decide +kernel
theorem dX9_init_688 : decode cX9_init 688 = .ok (.dup, 1) := by decide +kernel
theorem dX9_init_689 : decode cX9_init 689 = .ok (.iconst 5, 1) := by decide +kernel
theorem dX9_init_690 : decode cX9_init 690 = .ok (.iconst (-1), 1) := by decide +kernel
theorem dX9_init_691 : decode cX9_init 691 = .ok (.iastore, 1) := by decide +kernel
theorem dX9_init_692 : decode cX9_init 692 = .ok (.putfield 280, 3) := by decide +kernel
theorem dX9_init_695 : decode cX9_init 695 = .ok (.aload_n 0, 1) := by decide +kernel
theorem dX9_init_696 : decode cX9_init 696 = .ok (.bipush 6, 2) := by decide +kernel
theorem dX9_init_698 : decode cX9_init 698 = .ok (.newarray .int, 2) := by decide +kernel
theorem dX9_init_700 : decode cX9_init 700 = .ok (.putfield 283, 3) := by decide +kernel
theorem dX9_init_703 : decode cX9_init 703 = .ok (.aload_n 0, 1) := by decide +kernel
theorem dX9_init_704 : decode cX9_init 704 = .ok (.sipush 360, 3) := by decide +kernel
theorem dX9_init_707 : decode cX9_init 707 = .ok (.newarray .long, 2) := by decide +kernel
theorem dX9_init_709 : decode cX9_init 709 = .ok (.putfield 286, 3) := by decide +kernel
theorem dX9_init_712 : decode cX9_init 712 = .ok (.aload_n 0, 1) := by decide +kernel
theorem dX9_init_713 : decode cX9_init 713 = .ok (.bipush 60, 2) := by decide +kernel
theorem dX9_init_715 : decode cX9_init 715 = .ok (.newarray .long, 2) := by decide +kernel
theorem dX9_init_717 : decode cX9_init 717 = .ok (.putfield 290, 3) := by decide +kernel
theorem dX9_init_720 : decode cX9_init 720 = .ok (.return_, 1) := by decide +kernel
theorem dX9_in_0 : decode cX9_in 0 = .ok (.iload_n 1, 1) := by decide +kernel
theorem dX9_in_1 : decode cX9_in 1 = .ok (.iload_n 2, 1) := by decide +kernel
theorem dX9_in_2 : decode cX9_in 2 = .ok (.if_icmp .lt 12, 3) := by decide +kernel
theorem dX9_in_5 : decode cX9_in 5 = .ok (.iload_n 1, 1) := by decide +kernel
theorem dX9_in_6 : decode cX9_in 6 = .ok (.iload_n 3, 1) := by decide +kernel
theorem dX9_in_7 : decode cX9_in 7 = .ok (.if_icmp .gt 7, 3) := by decide +kernel
theorem dX9_in_10 : decode cX9_in 10 = .ok (.iconst 1, 1) := by decide +kernel
theorem dX9_in_11 : decode cX9_in 11 = .ok (.goto 4, 3) := by decide +kernel
theorem dX9_in_14 : decode cX9_in 14 = .ok (.iconst 0, 1) := by decide +kernel
theorem dX9_in_15 : decode cX9_in 15 = .ok (.ireturn, 1) := by decide +kernel
theorem dX9_has_0 : decode cX9_has 0 = .ok (.iload_n 1, 1) := by decide +kernel
theorem dX9_has_1 : decode cX9_has 1 = .ok (.iload_n 2, 1) := by decide +kernel
theorem dX9_has_2 : decode cX9_has 2 = .ok (.ishr, 1) := by decide +kernel
theorem dX9_has_3 : decode cX9_has 3 = .ok (.iconst 1, 1) := by decide +kernel
theorem dX9_has_4 : decode cX9_has 4 = .ok (.iand, 1) := by decide +kernel
theorem dX9_has_5 : decode cX9_has 5 = .ok (.iconst 1, 1) := by decide +kernel
theorem dX9_has_6 : decode cX9_has 6 = .ok (.if_icmp .ne 7, 3) := by decide +kernel
theorem dX9_has_9 : decode cX9_has 9 = .ok (.iconst 1, 1) := by decide +kernel
theorem dX9_has_10 : decode cX9_has 10 = .ok (.goto 4, 3) := by decide +kernel
theorem dX9_has_13 : decode cX9_has 13 = .ok (.iconst 0, 1) := by decide +kernel
theorem dX9_has_14 : decode cX9_has 14 = .ok (.ireturn, 1) := by decide +kernel
theorem dX9_with0_0 : decode cX9_with0 0 = .ok (.iload_n 3, 1) := by decide +kernel
theorem dX9_with0_1 : decode cX9_with0 1 = .ok (.ifCond .eq 11, 3) := by decide +kernel
theorem dX9_with0_4 : decode cX9_with0 4 = .ok (.iload_n 1, 1) := by decide +kernel
theorem dX9_with0_5 : decode cX9_with0 5 = .ok (.iconst 1, 1) := by decide +kernel
theorem dX9_with0_6 : decode cX9_with0 6 = .ok (.iload_n 2, 1) := by decide +kernel
theorem dX9_with0_7 : decode cX9_with0 7 = .ok (.ishl, 1) := by decide +kernel
theorem dX9_with0_8 : decode cX9_with0 8 = .ok (.ior, 1) := by decide +kernel
theorem dX9_with0_9 : decode cX9_with0 9 = .ok (.goto 10, 3) := by decide +kernel
theorem dX9_with0_12 : decode cX9_with0 12 = .ok (.iload_n 1, 1) := by decide +kernel
theorem dX9_with0_13 : decode cX9_with0 13 = .ok (.iconst 1, 1) := by decide +kernel
theorem dX9_with0_14 : decode cX9_with0 14 = .ok (.iload_n 2, 1) := by decide +kernel
theorem dX9_with0_15 : decode cX9_with0 15 = .ok (.ishl, 1) := by decide +kernel
theorem dX9_with0_16 : decode cX9_with0 16 = .ok (.iconst (-1), 1) := by decide +kernel
theorem dX9_with0_17 : decode cX9_with0 17 = .ok (.ixor, 1) := by decide +kernel
theorem dX9_with0_18 : decode cX9_with0 18 = .ok (.iand, 1) := by decide +kernel
theorem dX9_with0_19 : decode cX9_with0 19 = .ok (.ireturn, 1) := by decide +kernel
theorem dX9_ones_0 : decode cX9_ones 0 = .ok (.iconst 0, 1) := by decide +kernel
theorem dX9_ones_1 : decode cX9_ones 1 = .ok (.istore_n 2, 1) := by decide +kernel
theorem dX9_ones_2 : decode cX9_ones 2 = .ok (.iload_n 1, 1) := by decide +kernel
theorem dX9_ones_3 : decode cX9_ones 3 = .ok (.istore_n 3, 1) := by decide +kernel
theorem dX9_ones_4 : decode cX9_ones 4 = .ok (.iload_n 3, 1) := by decide +kernel
theorem dX9_ones_5 : decode cX9_ones 5 = .ok (.ifCond .eq 15, 3) := by decide +kernel
theorem dX9_ones_8 : decode cX9_ones 8 = .ok (.iinc 2 1, 3) := by decide +kernel
theorem dX9_ones_11 : decode cX9_ones 11 = .ok (.iload_n 3, 1) := by decide +kernel
theorem dX9_ones_12 : decode cX9_ones 12 = .ok (.iload_n 3, 1) := by decide +kernel
theorem dX9_ones_13 : decode cX9_ones 13 = .ok (.iconst 1, 1) := by decide +kernel
theorem dX9_ones_14 : decode cX9_ones 14 = .ok (.isub, 1) := by decide +kernel
theorem dX9_ones_15 : decode cX9_ones 15 = .ok (.iand, 1) := by decide +kernel
theorem dX9_ones_16 : decode cX9_ones 16 = .ok (.istore_n 3, 1) := by decide +kernel
theorem dX9_ones_17 : decode cX9_ones 17 = .ok (.goto (-13), 3) := by decide +kernel
theorem dX9_ones_20 : decode cX9_ones 20 = .ok (.iload_n 2, 1) := by decide +kernel
theorem dX9_ones_21 : decode cX9_ones 21 = .ok (.ireturn, 1) := by decide +kernel
theorem dX9_isGate_0 : decode cX9_isGate 0 = .ok (.aload_n 0, 1) := by decide +kernel
theorem dX9_isGate_1 : decode cX9_isGate 1 = .ok (.iload_n 1, 1) := by decide +kernel
theorem dX9_isGate_2 : decode cX9_isGate 2 = .ok (.iconst 0, 1) := by decide +kernel
theorem dX9_isGate_3 : decode cX9_isGate 3 = .ok (.aload_n 0, 1) := by decide +kernel
theorem dX9_isGate_4 : decode cX9_isGate 4 = .ok (.getfield 7, 3) := by decide +kernel
theorem dX9_isGate_7 : decode cX9_isGate 7 = .ok (.iconst 1, 1) := by decide +kernel
theorem dX9_isGate_8 : decode cX9_isGate 8 = .ok (.isub, 1) := by decide +kernel
theorem dX9_isGate_9 : decode cX9_isGate 9 = .ok (.invokevirtual 293, 3) := by decide +kernel
theorem dX9_isGate_12 : decode cX9_isGate 12 = .ok (.ireturn, 1) := by decide +kernel
theorem dX9_isPerson_0 : decode cX9_isPerson 0 = .ok (.aload_n 0, 1) := by decide +kernel
theorem dX9_isPerson_1 : decode cX9_isPerson 1 = .ok (.iload_n 1, 1) := by decide +kernel
theorem dX9_isPerson_2 : decode cX9_isPerson 2 = .ok (.iconst 0, 1) := by decide +kernel
theorem dX9_isPerson_3 : decode cX9_isPerson 3 = .ok (.aload_n 0, 1) := by decide +kernel
theorem dX9_isPerson_4 : decode cX9_isPerson 4 = .ok (.getfield 13, 3) := by decide +kernel
theorem dX9_isPerson_7 : decode cX9_isPerson 7 = .ok (.iconst 1, 1) := by decide +kernel
theorem dX9_isPerson_8 : decode cX9_isPerson 8 = .ok (.isub, 1) := by decide +kernel
theorem dX9_isPerson_9 : decode cX9_isPerson 9 = .ok (.invokevirtual 293, 3) := by decide +kernel
theorem dX9_isPerson_12 : decode cX9_isPerson 12 = .ok (.ireturn, 1) := by decide +kernel
theorem dX9_isPlace_0 : decode cX9_isPlace 0 = .ok (.aload_n 0, 1) := by decide +kernel
theorem dX9_isPlace_1 : decode cX9_isPlace 1 = .ok (.iload_n 1, 1) := by decide +kernel
theorem dX9_isPlace_2 : decode cX9_isPlace 2 = .ok (.iconst 0, 1) := by decide +kernel
theorem dX9_isPlace_3 : decode cX9_isPlace 3 = .ok (.bipush 29, 2) := by decide +kernel
theorem dX9_isPlace_5 : decode cX9_isPlace 5 = .ok (.invokevirtual 293, 3) := by decide +kernel
theorem dX9_isPlace_8 : decode cX9_isPlace 8 = .ok (.ireturn, 1) := by decide +kernel
theorem dX9_isMinutes_0 : decode cX9_isMinutes 0 = .ok (.aload_n 0, 1) := by decide +kernel
theorem dX9_isMinutes_1 : decode cX9_isMinutes 1 = .ok (.iload_n 1, 1) := by decide +kernel
theorem dX9_isMinutes_2 : decode cX9_isMinutes 2 = .ok (.iconst 0, 1) := by decide +kernel
theorem dX9_isMinutes_3 : decode cX9_isMinutes 3 = .ok (.bipush 99, 2) := by decide +kernel
theorem dX9_isMinutes_5 : decode cX9_isMinutes 5 = .ok (.invokevirtual 293, 3) := by decide +kernel
theorem dX9_isMinutes_8 : decode cX9_isMinutes 8 = .ok (.ireturn, 1) := by decide +kernel
theorem dX9_gate_0 : decode cX9_gate 0 = .ok (.aload_n 0, 1) := by decide +kernel
theorem dX9_gate_1 : decode cX9_gate 1 = .ok (.iload_n 1, 1) := by decide +kernel
theorem dX9_gate_2 : decode cX9_gate 2 = .ok (.invokevirtual 297, 3) := by decide +kernel
theorem dX9_gate_5 : decode cX9_gate 5 = .ok (.ifCond .ne 6, 3) := by decide +kernel
theorem dX9_gate_8 : decode cX9_gate 8 = .ok (.bipush (-2), 2) := by decide +kernel
theorem dX9_gate_10 : decode cX9_gate 10 = .ok (.ireturn, 1) := by decide +kernel
theorem dX9_gate_11 : decode cX9_gate 11 = .ok (.aload_n 0, 1) := by decide +kernel
theorem dX9_gate_12 : decode cX9_gate 12 = .ok (.getfield 7, 3) := by decide +kernel
theorem dX9_gate_15 : decode cX9_gate 15 = .ok (.bipush 6, 2) := by decide +kernel
theorem dX9_gate_17 : decode cX9_gate 17 = .ok (.if_icmp .ne 6, 3) := by decide +kernel
theorem dX9_gate_20 : decode cX9_gate 20 = .ok (.bipush (-4), 2) := by decide +kernel
theorem dX9_gate_22 : decode cX9_gate 22 = .ok (.ireturn, 1) := by decide +kernel
theorem dX9_gate_23 : decode cX9_gate 23 = .ok (.aload_n 0, 1) := by decide +kernel
theorem dX9_gate_24 : decode cX9_gate 24 = .ok (.getfield 37, 3) := by decide +kernel
theorem dX9_gate_27 : decode cX9_gate 27 = .ok (.aload_n 0, 1) := by decide +kernel
theorem dX9_gate_28 : decode cX9_gate 28 = .ok (.getfield 7, 3) := by decide +kernel
theorem dX9_gate_31 : decode cX9_gate 31 = .ok (.iload_n 1, 1) := by decide +kernel
theorem dX9_gate_32 : decode cX9_gate 32 = .ok (.iastore, 1) := by decide +kernel
theorem dX9_gate_33 : decode cX9_gate 33 = .ok (.aload_n 0, 1) := by decide +kernel
theorem dX9_gate_34 : decode cX9_gate 34 = .ok (.aload_n 0, 1) := by decide +kernel
theorem dX9_gate_35 : decode cX9_gate 35 = .ok (.aload_n 0, 1) := by decide +kernel
theorem dX9_gate_36 : decode cX9_gate 36 = .ok (.getfield 19, 3) := by decide +kernel
theorem dX9_gate_39 : decode cX9_gate 39 = .ok (.aload_n 0, 1) := by decide +kernel
theorem dX9_gate_40 : decode cX9_gate 40 = .ok (.getfield 7, 3) := by decide +kernel
theorem dX9_gate_43 : decode cX9_gate 43 = .ok (.iconst 0, 1) := by decide +kernel
theorem dX9_gate_44 : decode cX9_gate 44 = .ok (.invokevirtual 301, 3) := by decide +kernel
theorem dX9_gate_47 : decode cX9_gate 47 = .ok (.putfield 19, 3) := by decide +kernel
theorem dX9_gate_50 : decode cX9_gate 50 = .ok (.aload_n 0, 1) := by decide +kernel
theorem dX9_gate_51 : decode cX9_gate 51 = .ok (.dup, 1) := by decide +kernel
theorem dX9_gate_52 : decode cX9_gate 52 = .ok (.getfield 7, 3) := by decide +kernel
theorem dX9_gate_55 : decode cX9_gate 55 = .ok (.iconst 1, 1) := by decide +kernel
theorem dX9_gate_56 : decode cX9_gate 56 = .ok (.iadd, 1) := by decide +kernel
theorem dX9_gate_57 : decode cX9_gate 57 = .ok (.putfield 7, 3) := by decide +kernel
theorem dX9_gate_60 : decode cX9_gate 60 = .ok (.aload_n 0, 1) := by decide +kernel
theorem dX9_gate_61 : decode cX9_gate 61 = .ok (.getfield 7, 3) := by decide +kernel
theorem dX9_gate_64 : decode cX9_gate 64 = .ok (.iconst 1, 1) := by decide +kernel
theorem dX9_gate_65 : decode cX9_gate 65 = .ok (.isub, 1) := by decide +kernel
theorem dX9_gate_66 : decode cX9_gate 66 = .ok (.ireturn, 1) := by decide +kernel
theorem dX9_person_0 : decode cX9_person 0 = .ok (.aload_n 0, 1) := by decide +kernel
theorem dX9_person_1 : decode cX9_person 1 = .ok (.iload_n 1, 1) := by decide +kernel
theorem dX9_person_2 : decode cX9_person 2 = .ok (.iconst 0, 1) := by decide +kernel
theorem dX9_person_3 : decode cX9_person 3 = .ok (.bipush 6, 2) := by decide +kernel
theorem dX9_person_5 : decode cX9_person 5 = .ok (.invokevirtual 293, 3) := by decide +kernel
theorem dX9_person_8 : decode cX9_person 8 = .ok (.ifCond .ne 5, 3) := by decide +kernel
theorem dX9_person_11 : decode cX9_person 11 = .ok (.iconst (-1), 1) := by decide +kernel
theorem dX9_person_12 : decode cX9_person 12 = .ok (.ireturn, 1) := by decide +kernel
theorem dX9_person_13 : decode cX9_person 13 = .ok (.aload_n 0, 1) := by decide +kernel
theorem dX9_person_14 : decode cX9_person 14 = .ok (.iload_n 2, 1) := by decide +kernel
theorem dX9_person_15 : decode cX9_person 15 = .ok (.iconst 0, 1) := by decide +kernel
theorem dX9_person_16 : decode cX9_person 16 = .ok (.bipush 9, 2) := by decide +kernel
theorem dX9_person_18 : decode cX9_person 18 = .ok (.invokevirtual 293, 3) := by decide +kernel
theorem dX9_person_21 : decode cX9_person 21 = .ok (.ifCond .eq 11, 3) := by decide +kernel
theorem dX9_person_24 : decode cX9_person 24 = .ok (.aload_n 0, 1) := by decide +kernel
theorem dX9_person_25 : decode cX9_person 25 = .ok (.iload_n 3, 1) := by decide +kernel
theorem dX9_person_26 : decode cX9_person 26 = .ok (.invokevirtual 297, 3) := by decide +kernel
theorem dX9_person_29 : decode cX9_person 29 = .ok (.ifCond .ne 6, 3) := by decide +kernel
theorem dX9_person_32 : decode cX9_person 32 = .ok (.bipush (-2), 2) := by decide +kernel
theorem dX9_person_34 : decode cX9_person 34 = .ok (.ireturn, 1) := by decide +kernel
theorem dX9_person_35 : decode cX9_person 35 = .ok (.aload_n 0, 1) := by decide +kernel
theorem dX9_person_36 : decode cX9_person 36 = .ok (.getfield 13, 3) := by decide +kernel
theorem dX9_person_39 : decode cX9_person 39 = .ok (.bipush 6, 2) := by decide +kernel
theorem dX9_person_41 : decode cX9_person 41 = .ok (.if_icmp .ne 6, 3) := by decide +kernel
theorem dX9_person_44 : decode cX9_person 44 = .ok (.bipush (-4), 2) := by decide +kernel
theorem dX9_person_46 : decode cX9_person 46 = .ok (.ireturn, 1) := by decide +kernel
theorem dX9_person_47 : decode cX9_person 47 = .ok (.aload_n 0, 1) := by decide +kernel
theorem dX9_person_48 : decode cX9_person 48 = .ok (.getfield 41, 3) := by decide +kernel
theorem dX9_person_51 : decode cX9_person 51 = .ok (.aload_n 0, 1) := by decide +kernel
theorem dX9_person_52 : decode cX9_person 52 = .ok (.getfield 13, 3) := by decide +kernel
theorem dX9_person_55 : decode cX9_person 55 = .ok (.iload_n 1, 1) := by decide +kernel
theorem dX9_person_56 : decode cX9_person 56 = .ok (.iastore, 1) := by decide +kernel
theorem dX9_person_57 : decode cX9_person 57 = .ok (.aload_n 0, 1) := by decide +kernel
theorem dX9_person_58 : decode cX9_person 58 = .ok (.getfield 44, 3) := by decide +kernel
theorem dX9_person_61 : decode cX9_person 61 = .ok (.aload_n 0, 1) := by decide +kernel
theorem dX9_person_62 : decode cX9_person 62 = .ok (.getfield 13, 3) := by decide +kernel
theorem dX9_person_65 : decode cX9_person 65 = .ok (.iload_n 2, 1) := by decide +kernel
theorem dX9_person_66 : decode cX9_person 66 = .ok (.iastore, 1) := by decide +kernel
theorem dX9_person_67 : decode cX9_person 67 = .ok (.aload_n 0, 1) := by decide +kernel
theorem dX9_person_68 : decode cX9_person 68 = .ok (.getfield 47, 3) := by decide +kernel
theorem dX9_person_71 : decode cX9_person 71 = .ok (.aload_n 0, 1) := by decide +kernel
theorem dX9_person_72 : decode cX9_person 72 = .ok (.getfield 13, 3) := by decide +kernel
theorem dX9_person_75 : decode cX9_person 75 = .ok (.iload_n 3, 1) := by decide +kernel
theorem dX9_person_76 : decode cX9_person 76 = .ok (.iastore, 1) := by decide +kernel
theorem dX9_person_77 : decode cX9_person 77 = .ok (.aload_n 0, 1) := by decide +kernel
theorem dX9_person_78 : decode cX9_person 78 = .ok (.getfield 50, 3) := by decide +kernel
theorem dX9_person_81 : decode cX9_person 81 = .ok (.aload_n 0, 1) := by decide +kernel
theorem dX9_person_82 : decode cX9_person 82 = .ok (.getfield 13, 3) := by decide +kernel
theorem dX9_person_85 : decode cX9_person 85 = .ok (.iconst 0, 1) := by decide +kernel
theorem dX9_person_86 : decode cX9_person 86 = .ok (.iastore, 1) := by decide +kernel
theorem dX9_person_87 : decode cX9_person 87 = .ok (.aload_n 0, 1) := by decide +kernel
theorem dX9_person_88 : decode cX9_person 88 = .ok (.aload_n 0, 1) := by decide +kernel
theorem dX9_person_89 : decode cX9_person 89 = .ok (.aload_n 0, 1) := by decide +kernel
theorem dX9_person_90 : decode cX9_person 90 = .ok (.getfield 22, 3) := by decide +kernel
theorem dX9_person_93 : decode cX9_person 93 = .ok (.aload_n 0, 1) := by decide +kernel
theorem dX9_person_94 : decode cX9_person 94 = .ok (.getfield 13, 3) := by decide +kernel
theorem dX9_person_97 : decode cX9_person 97 = .ok (.iconst 0, 1) := by decide +kernel
theorem dX9_person_98 : decode cX9_person 98 = .ok (.invokevirtual 301, 3) := by decide +kernel
theorem dX9_person_101 : decode cX9_person 101 = .ok (.putfield 22, 3) := by decide +kernel
theorem dX9_person_104 : decode cX9_person 104 = .ok (.aload_n 0, 1) := by decide +kernel
theorem dX9_person_105 : decode cX9_person 105 = .ok (.aload_n 0, 1) := by decide +kernel
theorem dX9_person_106 : decode cX9_person 106 = .ok (.aload_n 0, 1) := by decide +kernel
theorem dX9_person_107 : decode cX9_person 107 = .ok (.getfield 25, 3) := by decide +kernel
theorem dX9_person_110 : decode cX9_person 110 = .ok (.aload_n 0, 1) := by decide +kernel
theorem dX9_person_111 : decode cX9_person 111 = .ok (.getfield 13, 3) := by decide +kernel
theorem dX9_person_114 : decode cX9_person 114 = .ok (.iconst 0, 1) := by decide +kernel
theorem dX9_person_115 : decode cX9_person 115 = .ok (.invokevirtual 301, 3) := by decide +kernel
theorem dX9_person_118 : decode cX9_person 118 = .ok (.putfield 25, 3) := by decide +kernel
theorem dX9_person_121 : decode cX9_person 121 = .ok (.iconst 0, 1) := by decide +kernel
theorem dX9_person_122 : decode cX9_person 122 = .ok (.istore 4, 2) := by decide +kernel
theorem dX9_person_124 : decode cX9_person 124 = .ok (.iload 4, 2) := by decide +kernel
theorem dX9_person_126 : decode cX9_person 126 = .ok (.iconst 4, 1) := by decide +kernel
theorem dX9_person_127 : decode cX9_person 127 = .ok (.if_icmp .ge 24, 3) := by decide +kernel
theorem dX9_person_130 : decode cX9_person 130 = .ok (.aload_n 0, 1) := by decide +kernel
theorem dX9_person_131 : decode cX9_person 131 = .ok (.getfield 53, 3) := by decide +kernel
theorem dX9_person_134 : decode cX9_person 134 = .ok (.iconst 4, 1) := by decide +kernel
theorem dX9_person_135 : decode cX9_person 135 = .ok (.aload_n 0, 1) := by decide +kernel
theorem dX9_person_136 : decode cX9_person 136 = .ok (.getfield 13, 3) := by decide +kernel
theorem dX9_person_139 : decode cX9_person 139 = .ok (.imul, 1) := by decide +kernel
theorem dX9_person_140 : decode cX9_person 140 = .ok (.iload 4, 2) := by decide +kernel
theorem dX9_person_142 : decode cX9_person 142 = .ok (.iadd, 1) := by decide +kernel
theorem dX9_person_143 : decode cX9_person 143 = .ok (.iconst 0, 1) := by decide +kernel
theorem dX9_person_144 : decode cX9_person 144 = .ok (.iastore, 1) := by decide +kernel
theorem dX9_person_145 : decode cX9_person 145 = .ok (.iinc 4 1, 3) := by decide +kernel
theorem dX9_person_148 : decode cX9_person 148 = .ok (.goto (-24), 3) := by decide +kernel
theorem dX9_person_151 : decode cX9_person 151 = .ok (.aload_n 0, 1) := by decide +kernel
theorem dX9_person_152 : decode cX9_person 152 = .ok (.dup, 1) := by decide +kernel
theorem dX9_person_153 : decode cX9_person 153 = .ok (.getfield 13, 3) := by decide +kernel
theorem dX9_person_156 : decode cX9_person 156 = .ok (.iconst 1, 1) := by decide +kernel
theorem dX9_person_157 : decode cX9_person 157 = .ok (.iadd, 1) := by decide +kernel
theorem dX9_person_158 : decode cX9_person 158 = .ok (.putfield 13, 3) := by decide +kernel
theorem dX9_person_161 : decode cX9_person 161 = .ok (.aload_n 0, 1) := by decide +kernel
theorem dX9_person_162 : decode cX9_person 162 = .ok (.getfield 13, 3) := by decide +kernel
theorem dX9_person_165 : decode cX9_person 165 = .ok (.iconst 1, 1) := by decide +kernel
theorem dX9_person_166 : decode cX9_person 166 = .ok (.isub, 1) := by decide +kernel
theorem dX9_person_167 : decode cX9_person 167 = .ok (.ireturn, 1) := by decide +kernel
theorem dX9_puts_0 : decode cX9_puts 0 = .ok (.aload_n 0, 1) := by decide +kernel
theorem dX9_puts_1 : decode cX9_puts 1 = .ok (.getfield 47, 3) := by decide +kernel
theorem dX9_puts_4 : decode cX9_puts 4 = .ok (.iload_n 1, 1) := by decide +kernel
theorem dX9_puts_5 : decode cX9_puts 5 = .ok (.iload_n 2, 1) := by decide +kernel
theorem dX9_puts_6 : decode cX9_puts 6 = .ok (.iastore, 1) := by decide +kernel
theorem dX9_puts_7 : decode cX9_puts 7 = .ok (.aload_n 0, 1) := by decide +kernel
theorem dX9_puts_8 : decode cX9_puts 8 = .ok (.aload_n 0, 1) := by decide +kernel
theorem dX9_puts_9 : decode cX9_puts 9 = .ok (.aload_n 0, 1) := by decide +kernel
theorem dX9_puts_10 : decode cX9_puts 10 = .ok (.getfield 25, 3) := by decide +kernel
theorem dX9_puts_13 : decode cX9_puts 13 = .ok (.iload_n 1, 1) := by decide +kernel
theorem dX9_puts_14 : decode cX9_puts 14 = .ok (.iconst 0, 1) := by decide +kernel
theorem dX9_puts_15 : decode cX9_puts 15 = .ok (.invokevirtual 301, 3) := by decide +kernel
theorem dX9_puts_18 : decode cX9_puts 18 = .ok (.putfield 25, 3) := by decide +kernel
theorem dX9_puts_21 : decode cX9_puts 21 = .ok (.return_, 1) := by decide +kernel
theorem dX9_put_0 : decode cX9_put 0 = .ok (.aload_n 0, 1) := by decide +kernel
theorem dX9_put_1 : decode cX9_put 1 = .ok (.iload_n 1, 1) := by decide +kernel
theorem dX9_put_2 : decode cX9_put 2 = .ok (.invokevirtual 305, 3) := by decide +kernel
theorem dX9_put_5 : decode cX9_put 5 = .ok (.ifCond .ne 5, 3) := by decide +kernel
theorem dX9_put_8 : decode cX9_put 8 = .ok (.iconst (-1), 1) := by decide +kernel
theorem dX9_put_9 : decode cX9_put 9 = .ok (.ireturn, 1) := by decide +kernel
theorem dX9_put_10 : decode cX9_put 10 = .ok (.aload_n 0, 1) := by decide +kernel
theorem dX9_put_11 : decode cX9_put 11 = .ok (.iload_n 2, 1) := by decide +kernel
theorem dX9_put_12 : decode cX9_put 12 = .ok (.invokevirtual 297, 3) := by decide +kernel
theorem dX9_put_15 : decode cX9_put 15 = .ok (.ifCond .ne 6, 3) := by decide +kernel
theorem dX9_put_18 : decode cX9_put 18 = .ok (.bipush (-2), 2) := by decide +kernel
theorem dX9_put_20 : decode cX9_put 20 = .ok (.ireturn, 1) := by decide +kernel
theorem dX9_put_21 : decode cX9_put 21 = .ok (.aload_n 0, 1) := by decide +kernel
theorem dX9_put_22 : decode cX9_put 22 = .ok (.getfield 47, 3) := by decide +kernel
theorem dX9_put_25 : decode cX9_put 25 = .ok (.iload_n 1, 1) := by decide +kernel
theorem dX9_put_26 : decode cX9_put 26 = .ok (.iaload, 1) := by decide +kernel
theorem dX9_put_27 : decode cX9_put 27 = .ok (.istore_n 3, 1) := by decide +kernel
theorem dX9_put_28 : decode cX9_put 28 = .ok (.aload_n 0, 1) := by decide +kernel
theorem dX9_put_29 : decode cX9_put 29 = .ok (.iload_n 1, 1) := by decide +kernel
theorem dX9_put_30 : decode cX9_put 30 = .ok (.iload_n 2, 1) := by decide +kernel
theorem dX9_put_31 : decode cX9_put 31 = .ok (.invokevirtual 308, 3) := by decide +kernel
theorem dX9_put_34 : decode cX9_put 34 = .ok (.iload_n 3, 1) := by decide +kernel
theorem dX9_put_35 : decode cX9_put 35 = .ok (.ireturn, 1) := by decide +kernel
theorem dX9_call_0 : decode cX9_call 0 = .ok (.aload_n 0, 1) := by decide +kernel
theorem dX9_call_1 : decode cX9_call 1 = .ok (.iload_n 1, 1) := by decide +kernel
theorem dX9_call_2 : decode cX9_call 2 = .ok (.invokevirtual 305, 3) := by decide +kernel
theorem dX9_call_5 : decode cX9_call 5 = .ok (.ifCond .ne 5, 3) := by decide +kernel
theorem dX9_call_8 : decode cX9_call 8 = .ok (.iconst (-1), 1) := by decide +kernel
theorem dX9_call_9 : decode cX9_call 9 = .ok (.ireturn, 1) := by decide +kernel
theorem dX9_call_10 : decode cX9_call 10 = .ok (.aload_n 0, 1) := by decide +kernel
theorem dX9_call_11 : decode cX9_call 11 = .ok (.aload_n 0, 1) := by decide +kernel
theorem dX9_call_12 : decode cX9_call 12 = .ok (.getfield 22, 3) := by decide +kernel
theorem dX9_call_15 : decode cX9_call 15 = .ok (.iload_n 1, 1) := by decide +kernel
theorem dX9_call_16 : decode cX9_call 16 = .ok (.invokevirtual 312, 3) := by decide +kernel
theorem dX9_call_19 : decode cX9_call 19 = .ok (.ifCond .eq 7, 3) := by decide +kernel
theorem dX9_call_22 : decode cX9_call 22 = .ok (.iconst 1, 1) := by decide +kernel
theorem dX9_call_23 : decode cX9_call 23 = .ok (.goto 4, 3) := by decide +kernel
theorem dX9_call_26 : decode cX9_call 26 = .ok (.iconst 0, 1) := by decide +kernel
theorem dX9_call_27 : decode cX9_call 27 = .ok (.istore_n 3, 1) := by decide +kernel
theorem dX9_call_28 : decode cX9_call 28 = .ok (.aload_n 0, 1) := by decide +kernel
theorem dX9_call_29 : decode cX9_call 29 = .ok (.aload_n 0, 1) := by decide +kernel
theorem dX9_call_30 : decode cX9_call 30 = .ok (.aload_n 0, 1) := by decide +kernel
theorem dX9_call_31 : decode cX9_call 31 = .ok (.getfield 22, 3) := by decide +kernel
theorem dX9_call_34 : decode cX9_call 34 = .ok (.iload_n 1, 1) := by decide +kernel
theorem dX9_call_35 : decode cX9_call 35 = .ok (.iload_n 2, 1) := by decide +kernel
theorem dX9_call_36 : decode cX9_call 36 = .ok (.invokevirtual 301, 3) := by decide +kernel
theorem dX9_call_39 : decode cX9_call 39 = .ok (.putfield 22, 3) := by decide +kernel
theorem dX9_call_42 : decode cX9_call 42 = .ok (.aload_n 0, 1) := by decide +kernel
theorem dX9_call_43 : decode cX9_call 43 = .ok (.getfield 50, 3) := by decide +kernel
theorem dX9_call_46 : decode cX9_call 46 = .ok (.iload_n 1, 1) := by decide +kernel
theorem dX9_call_47 : decode cX9_call 47 = .ok (.iload_n 2, 1) := by decide +kernel
theorem dX9_call_48 : decode cX9_call 48 = .ok (.ifCond .eq 12, 3) := by decide +kernel
theorem dX9_call_51 : decode cX9_call 51 = .ok (.aload_n 0, 1) := by decide +kernel
theorem dX9_call_52 : decode cX9_call 52 = .ok (.getfield 50, 3) := by decide +kernel
theorem dX9_call_55 : decode cX9_call 55 = .ok (.iload_n 1, 1) := by decide +kernel
theorem dX9_call_56 : decode cX9_call 56 = .ok (.iaload, 1) := by decide +kernel
theorem dX9_call_57 : decode cX9_call 57 = .ok (.goto 4, 3) := by decide +kernel
theorem dX9_call_60 : decode cX9_call 60 = .ok (.iconst 0, 1) := by decide +kernel
theorem dX9_call_61 : decode cX9_call 61 = .ok (.iastore, 1) := by decide +kernel
theorem dX9_call_62 : decode cX9_call 62 = .ok (.iload_n 3, 1) := by decide +kernel
theorem dX9_call_63 : decode cX9_call 63 = .ok (.ireturn, 1) := by decide +kernel
theorem dX9_shut_0 : decode cX9_shut 0 = .ok (.aload_n 0, 1) := by decide +kernel
theorem dX9_shut_1 : decode cX9_shut 1 = .ok (.iload_n 1, 1) := by decide +kernel
theorem dX9_shut_2 : decode cX9_shut 2 = .ok (.invokevirtual 316, 3) := by decide +kernel
theorem dX9_shut_5 : decode cX9_shut 5 = .ok (.ifCond .ne 5, 3) := by decide +kernel
theorem dX9_shut_8 : decode cX9_shut 8 = .ok (.iconst (-1), 1) := by decide +kernel
theorem dX9_shut_9 : decode cX9_shut 9 = .ok (.ireturn, 1) := by decide +kernel
theorem dX9_shut_10 : decode cX9_shut 10 = .ok (.aload_n 0, 1) := by decide +kernel
theorem dX9_shut_11 : decode cX9_shut 11 = .ok (.aload_n 0, 1) := by decide +kernel
theorem dX9_shut_12 : decode cX9_shut 12 = .ok (.getfield 19, 3) := by decide +kernel
theorem dX9_shut_15 : decode cX9_shut 15 = .ok (.iload_n 1, 1) := by decide +kernel
theorem dX9_shut_16 : decode cX9_shut 16 = .ok (.invokevirtual 312, 3) := by decide +kernel
theorem dX9_shut_19 : decode cX9_shut 19 = .ok (.ifCond .eq 7, 3) := by decide +kernel
theorem dX9_shut_22 : decode cX9_shut 22 = .ok (.iconst 1, 1) := by decide +kernel
theorem dX9_shut_23 : decode cX9_shut 23 = .ok (.goto 4, 3) := by decide +kernel
theorem dX9_shut_26 : decode cX9_shut 26 = .ok (.iconst 0, 1) := by decide +kernel
theorem dX9_shut_27 : decode cX9_shut 27 = .ok (.istore_n 3, 1) := by decide +kernel
theorem dX9_shut_28 : decode cX9_shut 28 = .ok (.aload_n 0, 1) := by decide +kernel
theorem dX9_shut_29 : decode cX9_shut 29 = .ok (.aload_n 0, 1) := by decide +kernel
theorem dX9_shut_30 : decode cX9_shut 30 = .ok (.aload_n 0, 1) := by decide +kernel
theorem dX9_shut_31 : decode cX9_shut 31 = .ok (.getfield 19, 3) := by decide +kernel
theorem dX9_shut_34 : decode cX9_shut 34 = .ok (.iload_n 1, 1) := by decide +kernel
theorem dX9_shut_35 : decode cX9_shut 35 = .ok (.iload_n 2, 1) := by decide +kernel
theorem dX9_shut_36 : decode cX9_shut 36 = .ok (.invokevirtual 301, 3) := by decide +kernel
theorem dX9_shut_39 : decode cX9_shut 39 = .ok (.putfield 19, 3) := by decide +kernel
theorem dX9_shut_42 : decode cX9_shut 42 = .ok (.iload_n 3, 1) := by decide +kernel
theorem dX9_shut_43 : decode cX9_shut 43 = .ok (.ireturn, 1) := by decide +kernel
theorem dX9_row_0 : decode cX9_row 0 = .ok (.aload_n 0, 1) := by decide +kernel
theorem dX9_row_1 : decode cX9_row 1 = .ok (.iload_n 1, 1) := by decide +kernel
theorem dX9_row_2 : decode cX9_row 2 = .ok (.invokevirtual 305, 3) := by decide +kernel
theorem dX9_row_5 : decode cX9_row 5 = .ok (.ifCond .eq 13, 3) := by decide +kernel
theorem dX9_row_8 : decode cX9_row 8 = .ok (.aload_n 0, 1) := by decide +kernel
theorem dX9_row_9 : decode cX9_row 9 = .ok (.iload_n 2, 1) := by decide +kernel
theorem dX9_row_10 : decode cX9_row 10 = .ok (.iconst 0, 1) := by decide +kernel
theorem dX9_row_11 : decode cX9_row 11 = .ok (.iconst 3, 1) := by decide +kernel
theorem dX9_row_12 : decode cX9_row 12 = .ok (.invokevirtual 293, 3) := by decide +kernel
theorem dX9_row_15 : decode cX9_row 15 = .ok (.ifCond .ne 5, 3) := by decide +kernel
theorem dX9_row_18 : decode cX9_row 18 = .ok (.iconst (-1), 1) := by decide +kernel
theorem dX9_row_19 : decode cX9_row 19 = .ok (.ireturn, 1) := by decide +kernel
theorem dX9_row_20 : decode cX9_row 20 = .ok (.aload_n 0, 1) := by decide +kernel
theorem dX9_row_21 : decode cX9_row 21 = .ok (.iload_n 3, 1) := by decide +kernel
theorem dX9_row_22 : decode cX9_row 22 = .ok (.iconst 0, 1) := by decide +kernel
theorem dX9_row_23 : decode cX9_row 23 = .ok (.bipush 9, 2) := by decide +kernel
theorem dX9_row_25 : decode cX9_row 25 = .ok (.invokevirtual 293, 3) := by decide +kernel
theorem dX9_row_28 : decode cX9_row 28 = .ok (.ifCond .ne 6, 3) := by decide +kernel
theorem dX9_row_31 : decode cX9_row 31 = .ok (.bipush (-2), 2) := by decide +kernel
theorem dX9_row_33 : decode cX9_row 33 = .ok (.ireturn, 1) := by decide +kernel
theorem dX9_row_34 : decode cX9_row 34 = .ok (.aload_n 0, 1) := by decide +kernel
theorem dX9_row_35 : decode cX9_row 35 = .ok (.getfield 41, 3) := by decide +kernel
theorem dX9_row_38 : decode cX9_row 38 = .ok (.iload_n 1, 1) := by decide +kernel
theorem dX9_row_39 : decode cX9_row 39 = .ok (.iaload, 1) := by decide +kernel
theorem dX9_row_40 : decode cX9_row 40 = .ok (.bipush 6, 2) := by decide +kernel
theorem dX9_row_42 : decode cX9_row 42 = .ok (.if_icmp .eq 6, 3) := by decide +kernel
theorem dX9_row_45 : decode cX9_row 45 = .ok (.bipush (-3), 2) := by decide +kernel
theorem dX9_row_47 : decode cX9_row 47 = .ok (.ireturn, 1) := by decide +kernel
theorem dX9_row_48 : decode cX9_row 48 = .ok (.aload_n 0, 1) := by decide +kernel
theorem dX9_row_49 : decode cX9_row 49 = .ok (.getfield 53, 3) := by decide +kernel
theorem dX9_row_52 : decode cX9_row 52 = .ok (.iconst 4, 1) := by decide +kernel
theorem dX9_row_53 : decode cX9_row 53 = .ok (.iload_n 1, 1) := by decide +kernel
theorem dX9_row_54 : decode cX9_row 54 = .ok (.imul, 1) := by decide +kernel
theorem dX9_row_55 : decode cX9_row 55 = .ok (.iload_n 2, 1) := by decide +kernel
theorem dX9_row_56 : decode cX9_row 56 = .ok (.iadd, 1) := by decide +kernel
theorem dX9_row_57 : decode cX9_row 57 = .ok (.iaload, 1) := by decide +kernel
theorem dX9_row_58 : decode cX9_row 58 = .ok (.istore 4, 2) := by decide +kernel
theorem dX9_row_60 : decode cX9_row 60 = .ok (.aload_n 0, 1) := by decide +kernel
theorem dX9_row_61 : decode cX9_row 61 = .ok (.getfield 53, 3) := by decide +kernel
theorem dX9_row_64 : decode cX9_row 64 = .ok (.iconst 4, 1) := by decide +kernel
theorem dX9_row_65 : decode cX9_row 65 = .ok (.iload_n 1, 1) := by decide +kernel
theorem dX9_row_66 : decode cX9_row 66 = .ok (.imul, 1) := by decide +kernel
theorem dX9_row_67 : decode cX9_row 67 = .ok (.iload_n 2, 1) := by decide +kernel
theorem dX9_row_68 : decode cX9_row 68 = .ok (.iadd, 1) := by decide +kernel
theorem dX9_row_69 : decode cX9_row 69 = .ok (.iload_n 3, 1) := by decide +kernel
theorem dX9_row_70 : decode cX9_row 70 = .ok (.iastore, 1) := by decide +kernel
theorem dX9_row_71 : decode cX9_row 71 = .ok (.iload 4, 2) := by decide +kernel
theorem dX9_row_73 : decode cX9_row 73 = .ok (.ireturn, 1) := by decide +kernel
theorem dX9_round_0 : decode cX9_round 0 = .ok (.iload_n 1, 1) := by decide +kernel
theorem dX9_round_1 : decode cX9_round 1 = .ok (.iconst (-1), 1) := by decide +kernel
theorem dX9_round_2 : decode cX9_round 2 = .ok (.if_icmp .ne 20, 3) := by decide +kernel
theorem dX9_round_5 : decode cX9_round 5 = .ok (.aload_n 0, 1) := by decide +kernel
theorem dX9_round_6 : decode cX9_round 6 = .ok (.iconst 0, 1) := by decide +kernel
theorem dX9_round_7 : decode cX9_round 7 = .ok (.putfield 34, 3) := by decide +kernel
theorem dX9_round_10 : decode cX9_round 10 = .ok (.aload_n 0, 1) := by decide +kernel
theorem dX9_round_11 : decode cX9_round 11 = .ok (.iconst 0, 1) := by decide +kernel
theorem dX9_round_12 : decode cX9_round 12 = .ok (.putfield 31, 3) := by decide +kernel
theorem dX9_round_15 : decode cX9_round 15 = .ok (.aload_n 0, 1) := by decide +kernel
theorem dX9_round_16 : decode cX9_round 16 = .ok (.iconst 0, 1) := by decide +kernel
theorem dX9_round_17 : decode cX9_round 17 = .ok (.putfield 28, 3) := by decide +kernel
theorem dX9_round_20 : decode cX9_round 20 = .ok (.iconst 0, 1) := by decide +kernel
theorem dX9_round_21 : decode cX9_round 21 = .ok (.ireturn, 1) := by decide +kernel
theorem dX9_round_22 : decode cX9_round 22 = .ok (.aload_n 0, 1) := by decide +kernel
theorem dX9_round_23 : decode cX9_round 23 = .ok (.iload_n 1, 1) := by decide +kernel
theorem dX9_round_24 : decode cX9_round 24 = .ok (.invokevirtual 316, 3) := by decide +kernel
theorem dX9_round_27 : decode cX9_round 27 = .ok (.ifCond .ne 5, 3) := by decide +kernel
theorem dX9_round_30 : decode cX9_round 30 = .ok (.iconst (-1), 1) := by decide +kernel
theorem dX9_round_31 : decode cX9_round 31 = .ok (.ireturn, 1) := by decide +kernel
theorem dX9_round_32 : decode cX9_round 32 = .ok (.aload_n 0, 1) := by decide +kernel
theorem dX9_round_33 : decode cX9_round 33 = .ok (.getfield 34, 3) := by decide +kernel
theorem dX9_round_36 : decode cX9_round 36 = .ok (.bipush 6, 2) := by decide +kernel
theorem dX9_round_38 : decode cX9_round 38 = .ok (.if_icmp .ne 6, 3) := by decide +kernel
theorem dX9_round_41 : decode cX9_round 41 = .ok (.bipush (-4), 2) := by decide +kernel
theorem dX9_round_43 : decode cX9_round 43 = .ok (.ireturn, 1) := by decide +kernel
theorem dX9_round_44 : decode cX9_round 44 = .ok (.aload_n 0, 1) := by decide +kernel
theorem dX9_round_45 : decode cX9_round 45 = .ok (.getfield 56, 3) := by decide +kernel
theorem dX9_round_48 : decode cX9_round 48 = .ok (.aload_n 0, 1) := by decide +kernel
theorem dX9_round_49 : decode cX9_round 49 = .ok (.getfield 34, 3) := by decide +kernel
theorem dX9_round_52 : decode cX9_round 52 = .ok (.iload_n 1, 1) := by decide +kernel
theorem dX9_round_53 : decode cX9_round 53 = .ok (.iastore, 1) := by decide +kernel
theorem dX9_round_54 : decode cX9_round 54 = .ok (.aload_n 0, 1) := by decide +kernel
theorem dX9_round_55 : decode cX9_round 55 = .ok (.dup, 1) := by decide +kernel
theorem dX9_round_56 : decode cX9_round 56 = .ok (.getfield 34, 3) := by decide +kernel
theorem dX9_round_59 : decode cX9_round 59 = .ok (.iconst 1, 1) := by decide +kernel
theorem dX9_round_60 : decode cX9_round 60 = .ok (.iadd, 1) := by decide +kernel
theorem dX9_round_61 : decode cX9_round 61 = .ok (.putfield 34, 3) := by decide +kernel
theorem dX9_round_64 : decode cX9_round 64 = .ok (.aload_n 0, 1) := by decide +kernel
theorem dX9_round_65 : decode cX9_round 65 = .ok (.getfield 34, 3) := by decide +kernel
theorem dX9_round_68 : decode cX9_round 68 = .ok (.ireturn, 1) := by decide +kernel
theorem dX9_feed_0 : decode cX9_feed 0 = .ok (.aload_n 0, 1) := by decide +kernel
theorem dX9_feed_1 : decode cX9_feed 1 = .ok (.iload_n 1, 1) := by decide +kernel
theorem dX9_feed_2 : decode cX9_feed 2 = .ok (.iconst 0, 1) := by decide +kernel
theorem dX9_feed_3 : decode cX9_feed 3 = .ok (.bipush 127, 2) := by decide +kernel
theorem dX9_feed_5 : decode cX9_feed 5 = .ok (.invokevirtual 293, 3) := by decide +kernel
theorem dX9_feed_8 : decode cX9_feed 8 = .ok (.ifCond .ne 6, 3) := by decide +kernel
theorem dX9_feed_11 : decode cX9_feed 11 = .ok (.bipush (-2), 2) := by decide +kernel
theorem dX9_feed_13 : decode cX9_feed 13 = .ok (.ireturn, 1) := by decide +kernel
theorem dX9_feed_14 : decode cX9_feed 14 = .ok (.aload_n 0, 1) := by decide +kernel
theorem dX9_feed_15 : decode cX9_feed 15 = .ok (.getfield 65, 3) := by decide +kernel
theorem dX9_feed_18 : decode cX9_feed 18 = .ok (.bipush 100, 2) := by decide +kernel
theorem dX9_feed_20 : decode cX9_feed 20 = .ok (.if_icmp .ne 6, 3) := by decide +kernel
theorem dX9_feed_23 : decode cX9_feed 23 = .ok (.bipush (-4), 2) := by decide +kernel
theorem dX9_feed_25 : decode cX9_feed 25 = .ok (.ireturn, 1) := by decide +kernel
theorem dX9_feed_26 : decode cX9_feed 26 = .ok (.aload_n 0, 1) := by decide +kernel
theorem dX9_feed_27 : decode cX9_feed 27 = .ok (.getfield 74, 3) := by decide +kernel
theorem dX9_feed_30 : decode cX9_feed 30 = .ok (.aload_n 0, 1) := by decide +kernel
theorem dX9_feed_31 : decode cX9_feed 31 = .ok (.getfield 65, 3) := by decide +kernel
theorem dX9_feed_34 : decode cX9_feed 34 = .ok (.iload_n 1, 1) := by decide +kernel
theorem dX9_feed_35 : decode cX9_feed 35 = .ok (.iastore, 1) := by decide +kernel
theorem dX9_feed_36 : decode cX9_feed 36 = .ok (.aload_n 0, 1) := by decide +kernel
theorem dX9_feed_37 : decode cX9_feed 37 = .ok (.dup, 1) := by decide +kernel
theorem dX9_feed_38 : decode cX9_feed 38 = .ok (.getfield 65, 3) := by decide +kernel
theorem dX9_feed_41 : decode cX9_feed 41 = .ok (.iconst 1, 1) := by decide +kernel
theorem dX9_feed_42 : decode cX9_feed 42 = .ok (.iadd, 1) := by decide +kernel
theorem dX9_feed_43 : decode cX9_feed 43 = .ok (.putfield 65, 3) := by decide +kernel
theorem dX9_feed_46 : decode cX9_feed 46 = .ok (.aload_n 0, 1) := by decide +kernel
theorem dX9_feed_47 : decode cX9_feed 47 = .ok (.getfield 65, 3) := by decide +kernel
theorem dX9_feed_50 : decode cX9_feed 50 = .ok (.ireturn, 1) := by decide +kernel
theorem dX9_next_0 : decode cX9_next 0 = .ok (.aload_n 0, 1) := by decide +kernel
theorem dX9_next_1 : decode cX9_next 1 = .ok (.getfield 68, 3) := by decide +kernel
theorem dX9_next_4 : decode cX9_next 4 = .ok (.aload_n 0, 1) := by decide +kernel
theorem dX9_next_5 : decode cX9_next 5 = .ok (.getfield 65, 3) := by decide +kernel
theorem dX9_next_8 : decode cX9_next 8 = .ok (.if_icmp .ge 15, 3) := by decide +kernel
theorem dX9_next_11 : decode cX9_next 11 = .ok (.aload_n 0, 1) := by decide +kernel
theorem dX9_next_12 : decode cX9_next 12 = .ok (.getfield 74, 3) := by decide +kernel
theorem dX9_next_15 : decode cX9_next 15 = .ok (.aload_n 0, 1) := by decide +kernel
theorem dX9_next_16 : decode cX9_next 16 = .ok (.getfield 68, 3) := by decide +kernel
theorem dX9_next_19 : decode cX9_next 19 = .ok (.iaload, 1) := by decide +kernel
theorem dX9_next_20 : decode cX9_next 20 = .ok (.goto 4, 3) := by decide +kernel
theorem dX9_next_23 : decode cX9_next 23 = .ok (.iconst (-1), 1) := by decide +kernel
theorem dX9_next_24 : decode cX9_next 24 = .ok (.ireturn, 1) := by decide +kernel
theorem dX9_takes_0 : decode cX9_takes 0 = .ok (.aload_n 0, 1) := by decide +kernel
theorem dX9_takes_1 : decode cX9_takes 1 = .ok (.invokevirtual 319, 3) := by decide +kernel
theorem dX9_takes_4 : decode cX9_takes 4 = .ok (.iload_n 1, 1) := by decide +kernel
theorem dX9_takes_5 : decode cX9_takes 5 = .ok (.if_icmp .eq 5, 3) := by decide +kernel
theorem dX9_takes_8 : decode cX9_takes 8 = .ok (.iconst 0, 1) := by decide +kernel
theorem dX9_takes_9 : decode cX9_takes 9 = .ok (.ireturn, 1) := by decide +kernel
theorem dX9_takes_10 : decode cX9_takes 10 = .ok (.aload_n 0, 1) := by decide +kernel
theorem dX9_takes_11 : decode cX9_takes 11 = .ok (.dup, 1) := by decide +kernel
theorem dX9_takes_12 : decode cX9_takes 12 = .ok (.getfield 68, 3) := by decide +kernel
theorem dX9_takes_15 : decode cX9_takes 15 = .ok (.iconst 1, 1) := by decide +kernel
theorem dX9_takes_16 : decode cX9_takes 16 = .ok (.iadd, 1) := by decide +kernel
theorem dX9_takes_17 : decode cX9_takes 17 = .ok (.putfield 68, 3) := by decide +kernel
theorem dX9_takes_20 : decode cX9_takes 20 = .ok (.iconst 1, 1) := by decide +kernel
theorem dX9_takes_21 : decode cX9_takes 21 = .ok (.ireturn, 1) := by decide +kernel
theorem dX9_takesWord_0 : decode cX9_takesWord 0 = .ok (.iconst 0, 1) := by decide +kernel
theorem dX9_takesWord_1 : decode cX9_takesWord 1 = .ok (.istore_n 3, 1) := by decide +kernel
theorem dX9_takesWord_2 : decode cX9_takesWord 2 = .ok (.iload_n 3, 1) := by decide +kernel
theorem dX9_takesWord_3 : decode cX9_takesWord 3 = .ok (.iload_n 2, 1) := by decide +kernel
theorem dX9_takesWord_4 : decode cX9_takesWord 4 = .ok (.if_icmp .ge 26, 3) := by decide +kernel
theorem dX9_takesWord_7 : decode cX9_takesWord 7 = .ok (.aload_n 0, 1) := by decide +kernel
theorem dX9_takesWord_8 : decode cX9_takesWord 8 = .ok (.aload_n 0, 1) := by decide +kernel
theorem dX9_takesWord_9 : decode cX9_takesWord 9 = .ok (.getfield 107, 3) := by decide +kernel
theorem dX9_takesWord_12 : decode cX9_takesWord 12 = .ok (.iload_n 1, 1) := by decide +kernel
theorem dX9_takesWord_13 : decode cX9_takesWord 13 = .ok (.iload_n 3, 1) := by decide +kernel
theorem dX9_takesWord_14 : decode cX9_takesWord 14 = .ok (.iadd, 1) := by decide +kernel
theorem dX9_takesWord_15 : decode cX9_takesWord 15 = .ok (.iaload, 1) := by decide +kernel
theorem dX9_takesWord_16 : decode cX9_takesWord 16 = .ok (.invokevirtual 323, 3) := by decide +kernel
theorem dX9_takesWord_19 : decode cX9_takesWord 19 = .ok (.ifCond .ne 5, 3) := by decide +kernel
theorem dX9_takesWord_22 : decode cX9_takesWord 22 = .ok (.iconst 0, 1) := by decide +kernel
theorem dX9_takesWord_23 : decode cX9_takesWord 23 = .ok (.ireturn, 1) := by decide +kernel
theorem dX9_takesWord_24 : decode cX9_takesWord 24 = .ok (.iinc 3 1, 3) := by decide +kernel
theorem dX9_takesWord_27 : decode cX9_takesWord 27 = .ok (.goto (-25), 3) := by decide +kernel
theorem dX9_takesWord_30 : decode cX9_takesWord 30 = .ok (.aload_n 0, 1) := by decide +kernel
theorem dX9_takesWord_31 : decode cX9_takesWord 31 = .ok (.bipush 32, 2) := by decide +kernel
theorem dX9_takesWord_33 : decode cX9_takesWord 33 = .ok (.invokevirtual 323, 3) := by decide +kernel
theorem dX9_takesWord_36 : decode cX9_takesWord 36 = .ok (.ireturn, 1) := by decide +kernel
theorem dX9_isDigit_0 : decode cX9_isDigit 0 = .ok (.aload_n 0, 1) := by decide +kernel
theorem dX9_isDigit_1 : decode cX9_isDigit 1 = .ok (.aload_n 0, 1) := by decide +kernel
theorem dX9_isDigit_2 : decode cX9_isDigit 2 = .ok (.invokevirtual 319, 3) := by decide +kernel
theorem dX9_isDigit_5 : decode cX9_isDigit 5 = .ok (.bipush 48, 2) := by decide +kernel
theorem dX9_isDigit_7 : decode cX9_isDigit 7 = .ok (.bipush 57, 2) := by decide +kernel
theorem dX9_isDigit_9 : decode cX9_isDigit 9 = .ok (.invokevirtual 293, 3) := by decide +kernel
theorem dX9_isDigit_12 : decode cX9_isDigit 12 = .ok (.ireturn, 1) := by decide +kernel
theorem dX9_takesNumber_0 : decode cX9_takesNumber 0 = .ok (.aload_n 0, 1) := by decide +kernel
theorem dX9_takesNumber_1 : decode cX9_takesNumber 1 = .ok (.invokevirtual 326, 3) := by decide +kernel
theorem dX9_takesNumber_4 : decode cX9_takesNumber 4 = .ok (.ifCond .ne 5, 3) := by decide +kernel
theorem dX9_takesNumber_7 : decode cX9_takesNumber 7 = .ok (.iconst 0, 1) := by decide +kernel
theorem dX9_takesNumber_8 : decode cX9_takesNumber 8 = .ok (.ireturn, 1) := by decide +kernel
theorem dX9_takesNumber_9 : decode cX9_takesNumber 9 = .ok (.aload_n 0, 1) := by decide +kernel
theorem dX9_takesNumber_10 : decode cX9_takesNumber 10 = .ok (.iconst 0, 1) := by decide +kernel
theorem dX9_takesNumber_11 : decode cX9_takesNumber 11 = .ok (.putfield 71, 3) := by decide +kernel
theorem dX9_takesNumber_14 : decode cX9_takesNumber 14 = .ok (.iconst 0, 1) := by decide +kernel
theorem dX9_takesNumber_15 : decode cX9_takesNumber 15 = .ok (.istore_n 1, 1) := by decide +kernel
theorem dX9_takesNumber_16 : decode cX9_takesNumber 16 = .ok (.iload_n 1, 1) := by decide +kernel
theorem dX9_takesNumber_17 : decode cX9_takesNumber 17 = .ok (.iconst 2, 1) := by decide +kernel
theorem dX9_takesNumber_18 : decode cX9_takesNumber 18 = .ok (.if_icmp .ge 45, 3) := by decide +kernel
theorem dX9_takesNumber_21 : decode cX9_takesNumber 21 = .ok (.aload_n 0, 1) := by decide +kernel
theorem dX9_takesNumber_22 : decode cX9_takesNumber 22 = .ok (.invokevirtual 326, 3) := by decide +kernel
theorem dX9_takesNumber_25 : decode cX9_takesNumber 25 = .ok (.ifCond .eq 38, 3) := by decide +kernel
theorem dX9_takesNumber_28 : decode cX9_takesNumber 28 = .ok (.aload_n 0, 1) := by decide +kernel
theorem dX9_takesNumber_29 : decode cX9_takesNumber 29 = .ok (.bipush 10, 2) := by decide +kernel
theorem dX9_takesNumber_31 : decode cX9_takesNumber 31 = .ok (.aload_n 0, 1) := by decide +kernel
theorem dX9_takesNumber_32 : decode cX9_takesNumber 32 = .ok (.getfield 71, 3) := by decide +kernel
theorem dX9_takesNumber_35 : decode cX9_takesNumber 35 = .ok (.imul, 1) := by decide +kernel
theorem dX9_takesNumber_36 : decode cX9_takesNumber 36 = .ok (.aload_n 0, 1) := by decide +kernel
theorem dX9_takesNumber_37 : decode cX9_takesNumber 37 = .ok (.invokevirtual 319, 3) := by decide +kernel
theorem dX9_takesNumber_40 : decode cX9_takesNumber 40 = .ok (.iadd, 1) := by decide +kernel
theorem dX9_takesNumber_41 : decode cX9_takesNumber 41 = .ok (.bipush 48, 2) := by decide +kernel
theorem dX9_takesNumber_43 : decode cX9_takesNumber 43 = .ok (.isub, 1) := by decide +kernel
theorem dX9_takesNumber_44 : decode cX9_takesNumber 44 = .ok (.putfield 71, 3) := by decide +kernel
theorem dX9_takesNumber_47 : decode cX9_takesNumber 47 = .ok (.aload_n 0, 1) := by decide +kernel
theorem dX9_takesNumber_48 : decode cX9_takesNumber 48 = .ok (.dup, 1) := by decide +kernel
theorem dX9_takesNumber_49 : decode cX9_takesNumber 49 = .ok (.getfield 68, 3) := by decide +kernel
theorem dX9_takesNumber_52 : decode cX9_takesNumber 52 = .ok (.iconst 1, 1) := by decide +kernel
theorem dX9_takesNumber_53 : decode cX9_takesNumber 53 = .ok (.iadd, 1) := by decide +kernel
theorem dX9_takesNumber_54 : decode cX9_takesNumber 54 = .ok (.putfield 68, 3) := by decide +kernel
theorem dX9_takesNumber_57 : decode cX9_takesNumber 57 = .ok (.iinc 1 1, 3) := by decide +kernel
theorem dX9_takesNumber_60 : decode cX9_takesNumber 60 = .ok (.goto (-44), 3) := by decide +kernel
theorem dX9_takesNumber_63 : decode cX9_takesNumber 63 = .ok (.iconst 1, 1) := by decide +kernel
theorem dX9_takesNumber_64 : decode cX9_takesNumber 64 = .ok (.ireturn, 1) := by decide +kernel
theorem dX9_emits_0 : decode cX9_emits 0 = .ok (.aload_n 0, 1) := by decide +kernel
theorem dX9_emits_1 : decode cX9_emits 1 = .ok (.getfield 92, 3) := by decide +kernel
theorem dX9_emits_4 : decode cX9_emits 4 = .ok (.aload_n 0, 1) := by decide +kernel
theorem dX9_emits_5 : decode cX9_emits 5 = .ok (.getfield 98, 3) := by decide +kernel
theorem dX9_emits_8 : decode cX9_emits 8 = .ok (.iload_n 1, 1) := by decide +kernel
theorem dX9_emits_9 : decode cX9_emits 9 = .ok (.iastore, 1) := by decide +kernel
theorem dX9_emits_10 : decode cX9_emits 10 = .ok (.aload_n 0, 1) := by decide +kernel
theorem dX9_emits_11 : decode cX9_emits 11 = .ok (.dup, 1) := by decide +kernel
theorem dX9_emits_12 : decode cX9_emits 12 = .ok (.getfield 98, 3) := by decide +kernel
theorem dX9_emits_15 : decode cX9_emits 15 = .ok (.iconst 1, 1) := by decide +kernel
theorem dX9_emits_16 : decode cX9_emits 16 = .ok (.iadd, 1) := by decide +kernel
theorem dX9_emits_17 : decode cX9_emits 17 = .ok (.putfield 98, 3) := by decide +kernel
theorem dX9_emits_20 : decode cX9_emits 20 = .ok (.return_, 1) := by decide +kernel
theorem dX9_whole_0 : decode cX9_whole 0 = .ok (.aload_n 0, 1) := by decide +kernel
theorem dX9_whole_1 : decode cX9_whole 1 = .ok (.getfield 101, 3) := by decide +kernel
theorem dX9_whole_4 : decode cX9_whole 4 = .ok (.ifCond .le 48, 3) := by decide +kernel
theorem dX9_whole_7 : decode cX9_whole 7 = .ok (.aload_n 0, 1) := by decide +kernel
theorem dX9_whole_8 : decode cX9_whole 8 = .ok (.getfield 95, 3) := by decide +kernel
theorem dX9_whole_11 : decode cX9_whole 11 = .ok (.aload_n 0, 1) := by decide +kernel
theorem dX9_whole_12 : decode cX9_whole 12 = .ok (.getfield 101, 3) := by decide +kernel
theorem dX9_whole_15 : decode cX9_whole 15 = .ok (.iconst 1, 1) := by decide +kernel
theorem dX9_whole_16 : decode cX9_whole 16 = .ok (.isub, 1) := by decide +kernel
theorem dX9_whole_17 : decode cX9_whole 17 = .ok (.iaload, 1) := by decide +kernel
theorem dX9_whole_18 : decode cX9_whole 18 = .ok (.bipush 33, 2) := by decide +kernel
theorem dX9_whole_20 : decode cX9_whole 20 = .ok (.if_icmp .ne 32, 3) := by decide +kernel
theorem dX9_whole_23 : decode cX9_whole 23 = .ok (.aload_n 0, 1) := by decide +kernel
theorem dX9_whole_24 : decode cX9_whole 24 = .ok (.bipush (-33), 2) := by decide +kernel
theorem dX9_whole_26 : decode cX9_whole 26 = .ok (.invokevirtual 330, 3) := by decide +kernel
theorem dX9_whole_29 : decode cX9_whole 29 = .ok (.aload_n 0, 1) := by decide +kernel
theorem dX9_whole_30 : decode cX9_whole 30 = .ok (.dup, 1) := by decide +kernel
theorem dX9_whole_31 : decode cX9_whole 31 = .ok (.getfield 101, 3) := by decide +kernel
theorem dX9_whole_34 : decode cX9_whole 34 = .ok (.iconst 1, 1) := by decide +kernel
theorem dX9_whole_35 : decode cX9_whole 35 = .ok (.isub, 1) := by decide +kernel
theorem dX9_whole_36 : decode cX9_whole 36 = .ok (.putfield 101, 3) := by decide +kernel
theorem dX9_whole_39 : decode cX9_whole 39 = .ok (.aload_n 0, 1) := by decide +kernel
theorem dX9_whole_40 : decode cX9_whole 40 = .ok (.dup, 1) := by decide +kernel
theorem dX9_whole_41 : decode cX9_whole 41 = .ok (.getfield 104, 3) := by decide +kernel
theorem dX9_whole_44 : decode cX9_whole 44 = .ok (.iconst 1, 1) := by decide +kernel
theorem dX9_whole_45 : decode cX9_whole 45 = .ok (.isub, 1) := by decide +kernel
theorem dX9_whole_46 : decode cX9_whole 46 = .ok (.putfield 104, 3) := by decide +kernel
theorem dX9_whole_49 : decode cX9_whole 49 = .ok (.goto (-49), 3) := by decide +kernel
theorem dX9_whole_52 : decode cX9_whole 52 = .ok (.return_, 1) := by decide +kernel
theorem dX9_settle_0 : decode cX9_settle 0 = .ok (.aload_n 0, 1) := by decide +kernel
theorem dX9_settle_1 : decode cX9_settle 1 = .ok (.getfield 101, 3) := by decide +kernel
theorem dX9_settle_4 : decode cX9_settle 4 = .ok (.ifCond .le 68, 3) := by decide +kernel
theorem dX9_settle_7 : decode cX9_settle 7 = .ok (.aload_n 0, 1) := by decide +kernel
theorem dX9_settle_8 : decode cX9_settle 8 = .ok (.getfield 95, 3) := by decide +kernel
theorem dX9_settle_11 : decode cX9_settle 11 = .ok (.aload_n 0, 1) := by decide +kernel
theorem dX9_settle_12 : decode cX9_settle 12 = .ok (.getfield 101, 3) := by decide +kernel
theorem dX9_settle_15 : decode cX9_settle 15 = .ok (.iconst 1, 1) := by decide +kernel
theorem dX9_settle_16 : decode cX9_settle 16 = .ok (.isub, 1) := by decide +kernel
theorem dX9_settle_17 : decode cX9_settle 17 = .ok (.iaload, 1) := by decide +kernel
theorem dX9_settle_18 : decode cX9_settle 18 = .ok (.bipush 38, 2) := by decide +kernel
theorem dX9_settle_20 : decode cX9_settle 20 = .ok (.if_icmp .eq 25, 3) := by decide +kernel
theorem dX9_settle_23 : decode cX9_settle 23 = .ok (.aload_n 0, 1) := by decide +kernel
theorem dX9_settle_24 : decode cX9_settle 24 = .ok (.getfield 95, 3) := by decide +kernel
theorem dX9_settle_27 : decode cX9_settle 27 = .ok (.aload_n 0, 1) := by decide +kernel
theorem dX9_settle_28 : decode cX9_settle 28 = .ok (.getfield 101, 3) := by decide +kernel
theorem dX9_settle_31 : decode cX9_settle 31 = .ok (.iconst 1, 1) := by decide +kernel
theorem dX9_settle_32 : decode cX9_settle 32 = .ok (.isub, 1) := by decide +kernel
theorem dX9_settle_33 : decode cX9_settle 33 = .ok (.iaload, 1) := by decide +kernel
theorem dX9_settle_34 : decode cX9_settle 34 = .ok (.bipush 124, 2) := by decide +kernel
theorem dX9_settle_36 : decode cX9_settle 36 = .ok (.if_icmp .ne 36, 3) := by decide +kernel
theorem dX9_settle_39 : decode cX9_settle 39 = .ok (.iload_n 1, 1) := by decide +kernel
theorem dX9_settle_40 : decode cX9_settle 40 = .ok (.bipush 38, 2) := by decide +kernel
theorem dX9_settle_42 : decode cX9_settle 42 = .ok (.if_icmp .eq 30, 3) := by decide +kernel
theorem dX9_settle_45 : decode cX9_settle 45 = .ok (.aload_n 0, 1) := by decide +kernel
theorem dX9_settle_46 : decode cX9_settle 46 = .ok (.dup, 1) := by decide +kernel
theorem dX9_settle_47 : decode cX9_settle 47 = .ok (.getfield 101, 3) := by decide +kernel
theorem dX9_settle_50 : decode cX9_settle 50 = .ok (.iconst 1, 1) := by decide +kernel
theorem dX9_settle_51 : decode cX9_settle 51 = .ok (.isub, 1) := by decide +kernel
theorem dX9_settle_52 : decode cX9_settle 52 = .ok (.putfield 101, 3) := by decide +kernel
theorem dX9_settle_55 : decode cX9_settle 55 = .ok (.aload_n 0, 1) := by decide +kernel
theorem dX9_settle_56 : decode cX9_settle 56 = .ok (.aload_n 0, 1) := by decide +kernel
theorem dX9_settle_57 : decode cX9_settle 57 = .ok (.getfield 95, 3) := by decide +kernel
theorem dX9_settle_60 : decode cX9_settle 60 = .ok (.aload_n 0, 1) := by decide +kernel
theorem dX9_settle_61 : decode cX9_settle 61 = .ok (.getfield 101, 3) := by decide +kernel
theorem dX9_settle_64 : decode cX9_settle 64 = .ok (.iaload, 1) := by decide +kernel
theorem dX9_settle_65 : decode cX9_settle 65 = .ok (.ineg, 1) := by decide +kernel
theorem dX9_settle_66 : decode cX9_settle 66 = .ok (.invokevirtual 330, 3) := by decide +kernel
theorem dX9_settle_69 : decode cX9_settle 69 = .ok (.goto (-69), 3) := by decide +kernel
theorem dX9_settle_72 : decode cX9_settle 72 = .ok (.return_, 1) := by decide +kernel
theorem dX9_place_0 : decode cX9_place 0 = .ok (.iload_n 1, 1) := by decide +kernel
theorem dX9_place_1 : decode cX9_place 1 = .ok (.tableswitch 99 102 119 #[95, 99, 99, 99, 99, 89, 99, 97, 99, 99, 87, 99, 99, 99, 99, 99, 91, 93], 87) := by decide +kernel
theorem dX9_place_88 : decode cX9_place 88 = .ok (.iconst 0, 1) := by decide +kernel
theorem dX9_place_89 : decode cX9_place 89 = .ok (.ireturn, 1) := by decide +kernel
theorem dX9_place_90 : decode cX9_place 90 = .ok (.iconst 1, 1) := by decide +kernel
theorem dX9_place_91 : decode cX9_place 91 = .ok (.ireturn, 1) := by decide +kernel
theorem dX9_place_92 : decode cX9_place 92 = .ok (.iconst 2, 1) := by decide +kernel
theorem dX9_place_93 : decode cX9_place 93 = .ok (.ireturn, 1) := by decide +kernel
theorem dX9_place_94 : decode cX9_place 94 = .ok (.iconst 3, 1) := by decide +kernel
theorem dX9_place_95 : decode cX9_place 95 = .ok (.ireturn, 1) := by decide +kernel
theorem dX9_place_96 : decode cX9_place 96 = .ok (.iconst 4, 1) := by decide +kernel
theorem dX9_place_97 : decode cX9_place 97 = .ok (.ireturn, 1) := by decide +kernel
theorem dX9_place_98 : decode cX9_place 98 = .ok (.iconst 5, 1) := by decide +kernel
theorem dX9_place_99 : decode cX9_place 99 = .ok (.ireturn, 1) := by decide +kernel
theorem dX9_place_100 : decode cX9_place 100 = .ok (.iconst (-1), 1) := by decide +kernel
theorem dX9_place_101 : decode cX9_place 101 = .ok (.ireturn, 1) := by decide +kernel
theorem dX9_takesTest_0 : decode cX9_takesTest 0 = .ok (.aload_n 0, 1) := by decide +kernel
theorem dX9_takesTest_1 : decode cX9_takesTest 1 = .ok (.aload_n 0, 1) := by decide +kernel
theorem dX9_takesTest_2 : decode cX9_takesTest 2 = .ok (.invokevirtual 319, 3) := by decide +kernel
theorem dX9_takesTest_5 : decode cX9_takesTest 5 = .ok (.invokevirtual 334, 3) := by decide +kernel
theorem dX9_takesTest_8 : decode cX9_takesTest 8 = .ok (.istore_n 1, 1) := by decide +kernel
theorem dX9_takesTest_9 : decode cX9_takesTest 9 = .ok (.iload_n 1, 1) := by decide +kernel
theorem dX9_takesTest_10 : decode cX9_takesTest 10 = .ok (.ifCond .ge 5, 3) := by decide +kernel
theorem dX9_takesTest_13 : decode cX9_takesTest 13 = .ok (.iconst 0, 1) := by decide +kernel
theorem dX9_takesTest_14 : decode cX9_takesTest 14 = .ok (.ireturn, 1) := by decide +kernel
theorem dX9_takesTest_15 : decode cX9_takesTest 15 = .ok (.aload_n 0, 1) := by decide +kernel
theorem dX9_takesTest_16 : decode cX9_takesTest 16 = .ok (.dup, 1) := by decide +kernel
theorem dX9_takesTest_17 : decode cX9_takesTest 17 = .ok (.getfield 68, 3) := by decide +kernel
theorem dX9_takesTest_20 : decode cX9_takesTest 20 = .ok (.iconst 1, 1) := by decide +kernel
theorem dX9_takesTest_21 : decode cX9_takesTest 21 = .ok (.iadd, 1) := by decide +kernel
theorem dX9_takesTest_22 : decode cX9_takesTest 22 = .ok (.putfield 68, 3) := by decide +kernel
theorem dX9_takesTest_25 : decode cX9_takesTest 25 = .ok (.aload_n 0, 1) := by decide +kernel
theorem dX9_takesTest_26 : decode cX9_takesTest 26 = .ok (.invokevirtual 319, 3) := by decide +kernel
theorem dX9_takesTest_29 : decode cX9_takesTest 29 = .ok (.istore_n 2, 1) := by decide +kernel
theorem dX9_takesTest_30 : decode cX9_takesTest 30 = .ok (.aload_n 0, 1) := by decide +kernel
theorem dX9_takesTest_31 : decode cX9_takesTest 31 = .ok (.iload_n 2, 1) := by decide +kernel
theorem dX9_takesTest_32 : decode cX9_takesTest 32 = .ok (.bipush 60, 2) := by decide +kernel
theorem dX9_takesTest_34 : decode cX9_takesTest 34 = .ok (.bipush 62, 2) := by decide +kernel
theorem dX9_takesTest_36 : decode cX9_takesTest 36 = .ok (.invokevirtual 293, 3) := by decide +kernel
theorem dX9_takesTest_39 : decode cX9_takesTest 39 = .ok (.ifCond .ne 5, 3) := by decide +kernel
theorem dX9_takesTest_42 : decode cX9_takesTest 42 = .ok (.iconst 0, 1) := by decide +kernel
theorem dX9_takesTest_43 : decode cX9_takesTest 43 = .ok (.ireturn, 1) := by decide +kernel
theorem dX9_takesTest_44 : decode cX9_takesTest 44 = .ok (.aload_n 0, 1) := by decide +kernel
theorem dX9_takesTest_45 : decode cX9_takesTest 45 = .ok (.dup, 1) := by decide +kernel
theorem dX9_takesTest_46 : decode cX9_takesTest 46 = .ok (.getfield 68, 3) := by decide +kernel
theorem dX9_takesTest_49 : decode cX9_takesTest 49 = .ok (.iconst 1, 1) := by decide +kernel
theorem dX9_takesTest_50 : decode cX9_takesTest 50 = .ok (.iadd, 1) := by decide +kernel
theorem dX9_takesTest_51 : decode cX9_takesTest 51 = .ok (.putfield 68, 3) := by decide +kernel
theorem dX9_takesTest_54 : decode cX9_takesTest 54 = .ok (.aload_n 0, 1) := by decide +kernel
theorem dX9_takesTest_55 : decode cX9_takesTest 55 = .ok (.invokevirtual 338, 3) := by decide +kernel
theorem dX9_takesTest_58 : decode cX9_takesTest 58 = .ok (.ifCond .ne 5, 3) := by decide +kernel
theorem dX9_takesTest_61 : decode cX9_takesTest 61 = .ok (.iconst 0, 1) := by decide +kernel
theorem dX9_takesTest_62 : decode cX9_takesTest 62 = .ok (.ireturn, 1) := by decide +kernel
theorem dX9_takesTest_63 : decode cX9_takesTest 63 = .ok (.aload_n 0, 1) := by decide +kernel
theorem dX9_takesTest_64 : decode cX9_takesTest 64 = .ok (.sipush 1000, 3) := by decide +kernel
theorem dX9_takesTest_67 : decode cX9_takesTest 67 = .ok (.iload_n 1, 1) := by decide +kernel
theorem dX9_takesTest_68 : decode cX9_takesTest 68 = .ok (.imul, 1) := by decide +kernel
theorem dX9_takesTest_69 : decode cX9_takesTest 69 = .ok (.bipush 100, 2) := by decide +kernel
theorem dX9_takesTest_71 : decode cX9_takesTest 71 = .ok (.iload_n 2, 1) := by decide +kernel
theorem dX9_takesTest_72 : decode cX9_takesTest 72 = .ok (.bipush 60, 2) := by decide +kernel
theorem dX9_takesTest_74 : decode cX9_takesTest 74 = .ok (.isub, 1) := by decide +kernel
theorem dX9_takesTest_75 : decode cX9_takesTest 75 = .ok (.imul, 1) := by decide +kernel
theorem dX9_takesTest_76 : decode cX9_takesTest 76 = .ok (.iadd, 1) := by decide +kernel
theorem dX9_takesTest_77 : decode cX9_takesTest 77 = .ok (.aload_n 0, 1) := by decide +kernel
theorem dX9_takesTest_78 : decode cX9_takesTest 78 = .ok (.getfield 71, 3) := by decide +kernel
theorem dX9_takesTest_81 : decode cX9_takesTest 81 = .ok (.iadd, 1) := by decide +kernel
theorem dX9_takesTest_82 : decode cX9_takesTest 82 = .ok (.invokevirtual 330, 3) := by decide +kernel
theorem dX9_takesTest_85 : decode cX9_takesTest 85 = .ok (.aload_n 0, 1) := by decide +kernel
theorem dX9_takesTest_86 : decode cX9_takesTest 86 = .ok (.invokevirtual 341, 3) := by decide +kernel
theorem dX9_takesTest_89 : decode cX9_takesTest 89 = .ok (.iconst 1, 1) := by decide +kernel
theorem dX9_takesTest_90 : decode cX9_takesTest 90 = .ok (.ireturn, 1) := by decide +kernel
theorem dX9_takesE_0 : decode cX9_takesE 0 = .ok (.aload_n 0, 1) := by decide +kernel
theorem dX9_takesE_1 : decode cX9_takesE 1 = .ok (.iconst 0, 1) := by decide +kernel
theorem dX9_takesE_2 : decode cX9_takesE 2 = .ok (.putfield 101, 3) := by decide +kernel
theorem dX9_takesE_5 : decode cX9_takesE 5 = .ok (.aload_n 0, 1) := by decide +kernel
theorem dX9_takesE_6 : decode cX9_takesE 6 = .ok (.iconst 0, 1) := by decide +kernel
theorem dX9_takesE_7 : decode cX9_takesE 7 = .ok (.putfield 104, 3) := by decide +kernel
theorem dX9_takesE_10 : decode cX9_takesE 10 = .ok (.aload_n 0, 1) := by decide +kernel
theorem dX9_takesE_11 : decode cX9_takesE 11 = .ok (.getfield 86, 3) := by decide +kernel
theorem dX9_takesE_14 : decode cX9_takesE 14 = .ok (.iload_n 1, 1) := by decide +kernel
theorem dX9_takesE_15 : decode cX9_takesE 15 = .ok (.aload_n 0, 1) := by decide +kernel
theorem dX9_takesE_16 : decode cX9_takesE 16 = .ok (.getfield 98, 3) := by decide +kernel
theorem dX9_takesE_19 : decode cX9_takesE 19 = .ok (.iastore, 1) := by decide +kernel
theorem dX9_takesE_20 : decode cX9_takesE 20 = .ok (.iconst 1, 1) := by decide +kernel
theorem dX9_takesE_21 : decode cX9_takesE 21 = .ok (.istore_n 2, 1) := by decide +kernel
theorem dX9_takesE_22 : decode cX9_takesE 22 = .ok (.aload_n 0, 1) := by decide +kernel
theorem dX9_takesE_23 : decode cX9_takesE 23 = .ok (.invokevirtual 319, 3) := by decide +kernel
theorem dX9_takesE_26 : decode cX9_takesE 26 = .ok (.istore_n 3, 1) := by decide +kernel
theorem dX9_takesE_27 : decode cX9_takesE 27 = .ok (.iload_n 2, 1) := by decide +kernel
theorem dX9_takesE_28 : decode cX9_takesE 28 = .ok (.ifCond .eq 82, 3) := by decide +kernel
theorem dX9_takesE_31 : decode cX9_takesE 31 = .ok (.iload_n 3, 1) := by decide +kernel
theorem dX9_takesE_32 : decode cX9_takesE 32 = .ok (.bipush 33, 2) := by decide +kernel
theorem dX9_takesE_34 : decode cX9_takesE 34 = .ok (.if_icmp .eq 9, 3) := by decide +kernel
theorem dX9_takesE_37 : decode cX9_takesE 37 = .ok (.iload_n 3, 1) := by decide +kernel
theorem dX9_takesE_38 : decode cX9_takesE 38 = .ok (.bipush 40, 2) := by decide +kernel
theorem dX9_takesE_40 : decode cX9_takesE 40 = .ok (.if_icmp .ne 56, 3) := by decide +kernel
theorem dX9_takesE_43 : decode cX9_takesE 43 = .ok (.aload_n 0, 1) := by decide +kernel
theorem dX9_takesE_44 : decode cX9_takesE 44 = .ok (.getfield 104, 3) := by decide +kernel
theorem dX9_takesE_47 : decode cX9_takesE 47 = .ok (.iconst 4, 1) := by decide +kernel
theorem dX9_takesE_48 : decode cX9_takesE 48 = .ok (.if_icmp .ne 5, 3) := by decide +kernel
theorem dX9_takesE_51 : decode cX9_takesE 51 = .ok (.iconst 0, 1) := by decide +kernel
theorem dX9_takesE_52 : decode cX9_takesE 52 = .ok (.ireturn, 1) := by decide +kernel
theorem dX9_takesE_53 : decode cX9_takesE 53 = .ok (.aload_n 0, 1) := by decide +kernel
theorem dX9_takesE_54 : decode cX9_takesE 54 = .ok (.dup, 1) := by decide +kernel
theorem dX9_takesE_55 : decode cX9_takesE 55 = .ok (.getfield 104, 3) := by decide +kernel
theorem dX9_takesE_58 : decode cX9_takesE 58 = .ok (.iconst 1, 1) := by decide +kernel
theorem dX9_takesE_59 : decode cX9_takesE 59 = .ok (.iadd, 1) := by decide +kernel
theorem dX9_takesE_60 : decode cX9_takesE 60 = .ok (.putfield 104, 3) := by decide +kernel
theorem dX9_takesE_63 : decode cX9_takesE 63 = .ok (.aload_n 0, 1) := by decide +kernel
theorem dX9_takesE_64 : decode cX9_takesE 64 = .ok (.getfield 95, 3) := by decide +kernel
theorem dX9_takesE_67 : decode cX9_takesE 67 = .ok (.aload_n 0, 1) := by decide +kernel
theorem dX9_takesE_68 : decode cX9_takesE 68 = .ok (.getfield 101, 3) := by decide +kernel
theorem dX9_takesE_71 : decode cX9_takesE 71 = .ok (.iload_n 3, 1) := by decide +kernel
