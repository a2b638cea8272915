theorem dX9_init_0 : decode cX9_init 0 = .ok (.aload_n 0, 1) := by decide +kernel
theorem dX9_init_1 : decode cX9_init 1 = .ok (.invokespecial 1, 3) := by decide +kernel
theorem dX9_init_4 : decode cX9_init 4 = .ok (.aload_n 0, 1) := by decide +kernel
theorem dX9_init_5 : decode cX9_init 5 = .ok (.bipush 6, 2) := by decide +kernel
theorem dX9_init_7 : decode cX9_init 7 = .ok (.newarray .int, 2) := by decide +kernel
theorem dX9_init_9 : decode cX9_init 9 = .ok (.putfield 9, 3) := by decide +kernel
theorem dX9_init_12 : decode cX9_init 12 = .ok (.aload_n 0, 1) := by decide +kernel
theorem dX9_init_13 : decode cX9_init 13 = .ok (.bipush 6, 2) := by decide +kernel
theorem dX9_init_15 : decode cX9_init 15 = .ok (.newarray .int, 2) := by decide +kernel
theorem dX9_init_17 : decode cX9_init 17 = .ok (.putfield 13, 3) := by decide +kernel
theorem dX9_init_20 : decode cX9_init 20 = .ok (.aload_n 0, 1) := by decide +kernel
theorem dX9_init_21 : decode cX9_init 21 = .ok (.new 16, 3) := by decide +kernel
theorem dX9_init_24 : decode cX9_init 24 = .ok (.dup, 1) := by decide +kernel
theorem dX9_init_25 : decode cX9_init 25 = .ok (.invokespecial 18, 3) := by decide +kernel
theorem dX9_init_28 : decode cX9_init 28 = .ok (.putfield 19, 3) := by decide +kernel
theorem dX9_init_31 : decode cX9_init 31 = .ok (.aload_n 0, 1) := by decide +kernel
theorem dX9_init_32 : decode cX9_init 32 = .ok (.new 16, 3) := by decide +kernel
theorem dX9_init_35 : decode cX9_init 35 = .ok (.dup, 1) := by decide +kernel
theorem dX9_init_36 : decode cX9_init 36 = .ok (.invokespecial 18, 3) := by decide +kernel
theorem dX9_init_39 : decode cX9_init 39 = .ok (.putfield 23, 3) := by decide +kernel
theorem dX9_init_42 : decode cX9_init 42 = .ok (.aload_n 0, 1) := by decide +kernel
theorem dX9_init_43 : decode cX9_init 43 = .ok (.iconst 4, 1) := by decide +kernel
theorem dX9_init_44 : decode cX9_init 44 = .ok (.anewarray 26, 3) := by decide +kernel
theorem dX9_init_47 : decode cX9_init 47 = .ok (.putfield 28, 3) := by decide +kernel
theorem dX9_init_50 : decode cX9_init 50 = .ok (.aload_n 0, 1) := by decide +kernel
theorem dX9_init_51 : decode cX9_init 51 = .ok (.new 32, 3) := by decide +kernel
theorem dX9_init_54 : decode cX9_init 54 = .ok (.dup, 1) := by decide +kernel
theorem dX9_init_55 : decode cX9_init 55 = .ok (.invokespecial 34, 3) := by decide +kernel
theorem dX9_init_58 : decode cX9_init 58 = .ok (.putfield 35, 3) := by decide +kernel
theorem dX9_init_61 : decode cX9_init 61 = .ok (.aload_n 0, 1) := by decide +kernel
theorem dX9_init_62 : decode cX9_init 62 = .ok (.sipush 150, 3) := by decide +kernel
theorem dX9_init_65 : decode cX9_init 65 = .ok (.anewarray 39, 3) := by decide +kernel
theorem dX9_init_68 : decode cX9_init 68 = .ok (.putfield 41, 3) := by decide +kernel
theorem dX9_init_71 : decode cX9_init 71 = .ok (.aload_n 0, 1) := by decide +kernel
theorem dX9_init_72 : decode cX9_init 72 = .ok (.iconst 0, 1) := by decide +kernel
theorem dX9_init_73 : decode cX9_init 73 = .ok (.putfield 45, 3) := by decide +kernel
theorem dX9_init_76 : decode cX9_init 76 = .ok (.aload_n 0, 1) := by decide +kernel
theorem dX9_init_77 : decode cX9_init 77 = .ok (.sipush 200, 3) := by decide +kernel
theorem dX9_init_80 : decode cX9_init 80 = .ok (.newarray .boolean, 2) := by decide +kernel
theorem dX9_init_82 : decode cX9_init 82 = .ok (.putfield 49, 3) := by decide +kernel
theorem dX9_init_85 : decode cX9_init 85 = .ok (.aload_n 0, 1) := by decide +kernel
theorem dX9_init_86 : decode cX9_init 86 = .ok (.iconst 0, 1) := by decide +kernel
theorem dX9_init_87 : decode cX9_init 87 = .ok (.putfield 53, 3) := by decide +kernel
theorem dX9_init_90 : decode cX9_init 90 = .ok (.aload_n 0, 1) := by decide +kernel
theorem dX9_init_91 : decode cX9_init 91 = .ok (.iconst 0, 1) := by decide +kernel
theorem dX9_init_92 : decode cX9_init 92 = .ok (.putfield 56, 3) := by decide +kernel
theorem dX9_init_95 : decode cX9_init 95 = .ok (.aload_n 0, 1) := by decide +kernel
theorem dX9_init_96 : decode cX9_init 96 = .ok (.iconst 0, 1) := by decide +kernel
theorem dX9_init_97 : decode cX9_init 97 = .ok (.bipush 100, 2) := by decide +kernel
theorem dX9_init_99 : decode cX9_init 99 = .ok (.iload_n 1, 1) := by decide +kernel
theorem dX9_init_100 : decode cX9_init 100 = .ok (.invokestatic 59, 3) := by decide +kernel
theorem dX9_init_103 : decode cX9_init 103 = .ok (.invokestatic 65, 3) := by decide +kernel
theorem dX9_init_106 : decode cX9_init 106 = .ok (.putfield 68, 3) := by decide +kernel
theorem dX9_init_109 : decode cX9_init 109 = .ok (.iconst 0, 1) := by decide +kernel
theorem dX9_init_110 : decode cX9_init 110 = .ok (.istore_n 2, 1) := by decide +kernel
theorem dX9_init_111 : decode cX9_init 111 = .ok (.iload_n 2, 1) := by decide +kernel
theorem dX9_init_112 : decode cX9_init 112 = .ok (.bipush 6, 2) := by decide +kernel
theorem dX9_init_114 : decode cX9_init 114 = .ok (.if_icmp .ge 16, 3) := by decide +kernel
theorem dX9_init_117 : decode cX9_init 117 = .ok (.aload_n 0, 1) := by decide +kernel
theorem dX9_init_118 : decode cX9_init 118 = .ok (.getfield 13, 3) := by decide +kernel
theorem dX9_init_121 : decode cX9_init 121 = .ok (.iload_n 2, 1) := by decide +kernel
theorem dX9_init_122 : decode cX9_init 122 = .ok (.iconst (-1), 1) := by decide +kernel
theorem dX9_init_123 : decode cX9_init 123 = .ok (.iastore, 1) := by decide +kernel
theorem dX9_init_124 : decode cX9_init 124 = .ok (.iinc 2 1, 3) := by decide +kernel
theorem dX9_init_127 : decode cX9_init 127 = .ok (.goto (-16), 3) := by decide +kernel
theorem dX9_init_130 : decode cX9_init 130 = .ok (.iconst 0, 1) := by decide +kernel
theorem dX9_init_131 : decode cX9_init 131 = .ok (.istore_n 2, 1) := by decide +kernel
theorem dX9_init_132 : decode cX9_init 132 = .ok (.iload_n 2, 1) := by decide +kernel
theorem dX9_init_133 : decode cX9_init 133 = .ok (.aload_n 0, 1) := by decide +kernel
theorem dX9_init_134 : decode cX9_init 134 = .ok (.getfield 28, 3) := by decide +kernel
theorem dX9_init_137 : decode cX9_init 137 = .ok (.arraylength, 1) := by decide +kernel
theorem dX9_init_138 : decode cX9_init 138 = .ok (.if_icmp .ge 22, 3) := by decide +kernel
theorem dX9_init_141 : decode cX9_init 141 = .ok (.aload_n 0, 1) := by decide +kernel
theorem dX9_init_142 : decode cX9_init 142 = .ok (.getfield 28, 3) := by decide +kernel
theorem dX9_init_145 : decode cX9_init 145 = .ok (.iload_n 2, 1) := by decide +kernel
theorem dX9_init_146 : decode cX9_init 146 = .ok (.new 26, 3) := by decide +kernel
theorem dX9_init_149 : decode cX9_init 149 = .ok (.dup, 1) := by decide +kernel
theorem dX9_init_150 : decode cX9_init 150 = .ok (.invokespecial 71, 3) := by decide +kernel
theorem dX9_init_153 : decode cX9_init 153 = .ok (.aastore, 1) := by decide +kernel
theorem dX9_init_154 : decode cX9_init 154 = .ok (.iinc 2 1, 3) := by decide +kernel
theorem dX9_init_157 : decode cX9_init 157 = .ok (.goto (-25), 3) := by decide +kernel
theorem dX9_init_160 : decode cX9_init 160 = .ok (.return_, 1) := by decide +kernel
theorem dX9_enrol_0 : decode cX9_enrol 0 = .ok (.iload_n 1, 1) := by decide +kernel
theorem dX9_enrol_1 : decode cX9_enrol 1 = .ok (.invokestatic 72, 3) := by decide +kernel
theorem dX9_enrol_4 : decode cX9_enrol 4 = .ok (.ifCond .ne 5, 3) := by decide +kernel
theorem dX9_enrol_7 : decode cX9_enrol 7 = .ok (.iconst (-1), 1) := by decide +kernel
theorem dX9_enrol_8 : decode cX9_enrol 8 = .ok (.ireturn, 1) := by decide +kernel
theorem dX9_enrol_9 : decode cX9_enrol 9 = .ok (.aload_n 0, 1) := by decide +kernel
theorem dX9_enrol_10 : decode cX9_enrol 10 = .ok (.iconst 1, 1) := by decide +kernel
theorem dX9_enrol_11 : decode cX9_enrol 11 = .ok (.iconst 0, 1) := by decide +kernel
theorem dX9_enrol_12 : decode cX9_enrol 12 = .ok (.invokevirtual 76, 3) := by decide +kernel
theorem dX9_enrol_15 : decode cX9_enrol 15 = .ok (.ifCond .ne 6, 3) := by decide +kernel
theorem dX9_enrol_18 : decode cX9_enrol 18 = .ok (.bipush (-7), 2) := by decide +kernel
theorem dX9_enrol_20 : decode cX9_enrol 20 = .ok (.ireturn, 1) := by decide +kernel
theorem dX9_enrol_21 : decode cX9_enrol 21 = .ok (.aload_n 0, 1) := by decide +kernel
theorem dX9_enrol_22 : decode cX9_enrol 22 = .ok (.invokevirtual 80, 3) := by decide +kernel
theorem dX9_enrol_25 : decode cX9_enrol 25 = .ok (.istore_n 2, 1) := by decide +kernel
theorem dX9_enrol_26 : decode cX9_enrol 26 = .ok (.aload_n 0, 1) := by decide +kernel
theorem dX9_enrol_27 : decode cX9_enrol 27 = .ok (.getfield 13, 3) := by decide +kernel
theorem dX9_enrol_30 : decode cX9_enrol 30 = .ok (.iload_n 1, 1) := by decide +kernel
theorem dX9_enrol_31 : decode cX9_enrol 31 = .ok (.iload_n 2, 1) := by decide +kernel
theorem dX9_enrol_32 : decode cX9_enrol 32 = .ok (.iastore, 1) := by decide +kernel
theorem dX9_enrol_33 : decode cX9_enrol 33 = .ok (.aload_n 0, 1) := by decide +kernel
theorem dX9_enrol_34 : decode cX9_enrol 34 = .ok (.getfield 19, 3) := by decide +kernel
theorem dX9_enrol_37 : decode cX9_enrol 37 = .ok (.iload_n 1, 1) := by decide +kernel
theorem dX9_enrol_38 : decode cX9_enrol 38 = .ok (.iload_n 2, 1) := by decide +kernel
theorem dX9_enrol_39 : decode cX9_enrol 39 = .ok (.invokevirtual 84, 3) := by decide +kernel
theorem dX9_enrol_42 : decode cX9_enrol 42 = .ok (.iload_n 2, 1) := by decide +kernel
theorem dX9_enrol_43 : decode cX9_enrol 43 = .ok (.ireturn, 1) := by decide +kernel
theorem dX9_remove_0 : decode cX9_remove 0 = .ok (.aload_n 0, 1) := by decide +kernel
theorem dX9_remove_1 : decode cX9_remove 1 = .ok (.getfield 19, 3) := by decide +kernel
theorem dX9_remove_4 : decode cX9_remove 4 = .ok (.iload_n 1, 1) := by decide +kernel
theorem dX9_remove_5 : decode cX9_remove 5 = .ok (.invokevirtual 88, 3) := by decide +kernel
theorem dX9_remove_8 : decode cX9_remove 8 = .ok (.ifCond .ne 5, 3) := by decide +kernel
theorem dX9_remove_11 : decode cX9_remove 11 = .ok (.iconst 0, 1) := by decide +kernel
theorem dX9_remove_12 : decode cX9_remove 12 = .ok (.ireturn, 1) := by decide +kernel
theorem dX9_remove_13 : decode cX9_remove 13 = .ok (.aload_n 0, 1) := by decide +kernel
theorem dX9_remove_14 : decode cX9_remove 14 = .ok (.getfield 19, 3) := by decide +kernel
theorem dX9_remove_17 : decode cX9_remove 17 = .ok (.iload_n 1, 1) := by decide +kernel
theorem dX9_remove_18 : decode cX9_remove 18 = .ok (.invokevirtual 91, 3) := by decide +kernel
theorem dX9_remove_21 : decode cX9_remove 21 = .ok (.iconst 1, 1) := by decide +kernel
theorem dX9_remove_22 : decode cX9_remove 22 = .ok (.ireturn, 1) := by decide +kernel
theorem dX9_limit_0 : decode cX9_limit 0 = .ok (.aload_n 0, 1) := by decide +kernel
theorem dX9_limit_1 : decode cX9_limit 1 = .ok (.getfield 19, 3) := by decide +kernel
theorem dX9_limit_4 : decode cX9_limit 4 = .ok (.iload_n 1, 1) := by decide +kernel
theorem dX9_limit_5 : decode cX9_limit 5 = .ok (.invokevirtual 88, 3) := by decide +kernel
theorem dX9_limit_8 : decode cX9_limit 8 = .ok (.ifCond .eq 15, 3) := by decide +kernel
theorem dX9_limit_11 : decode cX9_limit 11 = .ok (.iload_n 2, 1) := by decide +kernel
theorem dX9_limit_12 : decode cX9_limit 12 = .ok (.iconst 1, 1) := by decide +kernel
theorem dX9_limit_13 : decode cX9_limit 13 = .ok (.if_icmp .lt 10, 3) := by decide +kernel
theorem dX9_limit_16 : decode cX9_limit 16 = .ok (.iload_n 2, 1) := by decide +kernel
theorem dX9_limit_17 : decode cX9_limit 17 = .ok (.sipush 1000, 3) := by decide +kernel
theorem dX9_limit_20 : decode cX9_limit 20 = .ok (.if_icmp .le 5, 3) := by decide +kernel
theorem dX9_limit_23 : decode cX9_limit 23 = .ok (.iconst 0, 1) := by decide +kernel
theorem dX9_limit_24 : decode cX9_limit 24 = .ok (.ireturn, 1) := by decide +kernel
theorem dX9_limit_25 : decode cX9_limit 25 = .ok (.aload_n 0, 1) := by decide +kernel
theorem dX9_limit_26 : decode cX9_limit 26 = .ok (.getfield 19, 3) := by decide +kernel
theorem dX9_limit_29 : decode cX9_limit 29 = .ok (.getfield 95, 3) := by decide +kernel
theorem dX9_limit_32 : decode cX9_limit 32 = .ok (.iload_n 1, 1) := by decide +kernel
theorem dX9_limit_33 : decode cX9_limit 33 = .ok (.iload_n 2, 1) := by decide +kernel
theorem dX9_limit_34 : decode cX9_limit 34 = .ok (.iastore, 1) := by decide +kernel
theorem dX9_limit_35 : decode cX9_limit 35 = .ok (.iconst 1, 1) := by decide +kernel
theorem dX9_limit_36 : decode cX9_limit 36 = .ok (.ireturn, 1) := by decide +kernel
theorem dX9_allow_0 : decode cX9_allow 0 = .ok (.aload_n 0, 1) := by decide +kernel
theorem dX9_allow_1 : decode cX9_allow 1 = .ok (.getfield 19, 3) := by decide +kernel
theorem dX9_allow_4 : decode cX9_allow 4 = .ok (.iload_n 1, 1) := by decide +kernel
theorem dX9_allow_5 : decode cX9_allow 5 = .ok (.invokevirtual 88, 3) := by decide +kernel
theorem dX9_allow_8 : decode cX9_allow 8 = .ok (.ifCond .eq 19, 3) := by decide +kernel
theorem dX9_allow_11 : decode cX9_allow 11 = .ok (.iload_n 2, 1) := by decide +kernel
theorem dX9_allow_12 : decode cX9_allow 12 = .ok (.invokestatic 98, 3) := by decide +kernel
theorem dX9_allow_15 : decode cX9_allow 15 = .ok (.ifCond .eq 12, 3) := by decide +kernel
theorem dX9_allow_18 : decode cX9_allow 18 = .ok (.iload_n 3, 1) := by decide +kernel
theorem dX9_allow_19 : decode cX9_allow 19 = .ok (.ifCond .lt 8, 3) := by decide +kernel
theorem dX9_allow_22 : decode cX9_allow 22 = .ok (.iload_n 3, 1) := by decide +kernel
theorem dX9_allow_23 : decode cX9_allow 23 = .ok (.iconst 3, 1) := by decide +kernel
theorem dX9_allow_24 : decode cX9_allow 24 = .ok (.if_icmp .le 5, 3) := by decide +kernel
theorem dX9_allow_27 : decode cX9_allow 27 = .ok (.iconst 0, 1) := by decide +kernel
theorem dX9_allow_28 : decode cX9_allow 28 = .ok (.ireturn, 1) := by decide +kernel
theorem dX9_allow_29 : decode cX9_allow 29 = .ok (.aload_n 0, 1) := by decide +kernel
theorem dX9_allow_30 : decode cX9_allow 30 = .ok (.getfield 19, 3) := by decide +kernel
theorem dX9_allow_33 : decode cX9_allow 33 = .ok (.getfield 101, 3) := by decide +kernel
theorem dX9_allow_36 : decode cX9_allow 36 = .ok (.iload_n 1, 1) := by decide +kernel
theorem dX9_allow_37 : decode cX9_allow 37 = .ok (.aaload, 1) := by decide +kernel
theorem dX9_allow_38 : decode cX9_allow 38 = .ok (.iload_n 2, 1) := by decide +kernel
theorem dX9_allow_39 : decode cX9_allow 39 = .ok (.iload_n 3, 1) := by decide +kernel
theorem dX9_allow_40 : decode cX9_allow 40 = .ok (.iastore, 1) := by decide +kernel
theorem dX9_allow_41 : decode cX9_allow 41 = .ok (.iconst 1, 1) := by decide +kernel
theorem dX9_allow_42 : decode cX9_allow 42 = .ok (.ireturn, 1) := by decide +kernel
theorem dX9_save_0 : decode cX9_save 0 = .ok (.aload_n 0, 1) := by decide +kernel
theorem dX9_save_1 : decode cX9_save 1 = .ok (.getfield 23, 3) := by decide +kernel
theorem dX9_save_4 : decode cX9_save 4 = .ok (.aload_n 0, 1) := by decide +kernel
theorem dX9_save_5 : decode cX9_save 5 = .ok (.getfield 19, 3) := by decide +kernel
theorem dX9_save_8 : decode cX9_save 8 = .ok (.invokevirtual 105, 3) := by decide +kernel
theorem dX9_save_11 : decode cX9_save 11 = .ok (.aload_n 0, 1) := by decide +kernel
theorem dX9_save_12 : decode cX9_save 12 = .ok (.getfield 23, 3) := by decide +kernel
theorem dX9_save_15 : decode cX9_save 15 = .ok (.invokevirtual 109, 3) := by decide +kernel
theorem dX9_save_18 : decode cX9_save 18 = .ok (.ireturn, 1) := by decide +kernel
theorem dX9_crash_0 : decode cX9_crash 0 = .ok (.aload_n 0, 1) := by decide +kernel
theorem dX9_crash_1 : decode cX9_crash 1 = .ok (.getfield 19, 3) := by decide +kernel
theorem dX9_crash_4 : decode cX9_crash 4 = .ok (.aload_n 0, 1) := by decide +kernel
theorem dX9_crash_5 : decode cX9_crash 5 = .ok (.getfield 23, 3) := by decide +kernel
theorem dX9_crash_8 : decode cX9_crash 8 = .ok (.invokevirtual 105, 3) := by decide +kernel
theorem dX9_crash_11 : decode cX9_crash 11 = .ok (.aload_n 0, 1) := by decide +kernel
theorem dX9_crash_12 : decode cX9_crash 12 = .ok (.getfield 19, 3) := by decide +kernel
theorem dX9_crash_15 : decode cX9_crash 15 = .ok (.invokevirtual 109, 3) := by decide +kernel
theorem dX9_crash_18 : decode cX9_crash 18 = .ok (.ireturn, 1) := by decide +kernel
theorem dX9_tick_0 : decode cX9_tick 0 = .ok (.iload_n 1, 1) := by decide +kernel
theorem dX9_tick_1 : decode cX9_tick 1 = .ok (.invokestatic 72, 3) := by decide +kernel
theorem dX9_tick_4 : decode cX9_tick 4 = .ok (.ifCond .eq 15, 3) := by decide +kernel
theorem dX9_tick_7 : decode cX9_tick 7 = .ok (.iload_n 2, 1) := by decide +kernel
theorem dX9_tick_8 : decode cX9_tick 8 = .ok (.iconst 1, 1) := by decide +kernel
theorem dX9_tick_9 : decode cX9_tick 9 = .ok (.if_icmp .lt 10, 3) := by decide +kernel
theorem dX9_tick_12 : decode cX9_tick 12 = .ok (.iload_n 2, 1) := by decide +kernel
theorem dX9_tick_13 : decode cX9_tick 13 = .ok (.sipush 1000, 3) := by decide +kernel
theorem dX9_tick_16 : decode cX9_tick 16 = .ok (.if_icmp .le 5, 3) := by decide +kernel
theorem dX9_tick_19 : decode cX9_tick 19 = .ok (.iconst (-1), 1) := by decide +kernel
theorem dX9_tick_20 : decode cX9_tick 20 = .ok (.ireturn, 1) := by decide +kernel
theorem dX9_tick_21 : decode cX9_tick 21 = .ok (.aload_n 0, 1) := by decide +kernel
theorem dX9_tick_22 : decode cX9_tick 22 = .ok (.getfield 9, 3) := by decide +kernel
theorem dX9_tick_25 : decode cX9_tick 25 = .ok (.iload_n 1, 1) := by decide +kernel
theorem dX9_tick_26 : decode cX9_tick 26 = .ok (.dup2, 1) := by decide +kernel
theorem dX9_tick_27 : decode cX9_tick 27 = .ok (.iaload, 1) := by decide +kernel
theorem dX9_tick_28 : decode cX9_tick 28 = .ok (.iload_n 2, 1) := by decide +kernel
theorem dX9_tick_29 : decode cX9_tick 29 = .ok (.iadd, 1) := by decide +kernel
theorem dX9_tick_30 : decode cX9_tick 30 = .ok (.iastore, 1) := by decide +kernel
theorem dX9_tick_31 : decode cX9_tick 31 = .ok (.aload_n 0, 1) := by decide +kernel
theorem dX9_tick_32 : decode cX9_tick 32 = .ok (.getfield 9, 3) := by decide +kernel
theorem dX9_tick_35 : decode cX9_tick 35 = .ok (.iload_n 1, 1) := by decide +kernel
theorem dX9_tick_36 : decode cX9_tick 36 = .ok (.iaload, 1) := by decide +kernel
theorem dX9_tick_37 : decode cX9_tick 37 = .ok (.ireturn, 1) := by decide +kernel
theorem dX9_login_0 : decode cX9_login 0 = .ok (.aload_n 0, 1) := by decide +kernel
theorem dX9_login_1 : decode cX9_login 1 = .ok (.iload_n 1, 1) := by decide +kernel
theorem dX9_login_2 : decode cX9_login 2 = .ok (.invokevirtual 112, 3) := by decide +kernel
theorem dX9_login_5 : decode cX9_login 5 = .ok (.astore_n 3, 1) := by decide +kernel
theorem dX9_login_6 : decode cX9_login 6 = .ok (.aload_n 3, 1) := by decide +kernel
theorem dX9_login_7 : decode cX9_login 7 = .ok (.ifnull 20, 3) := by decide +kernel
theorem dX9_login_10 : decode cX9_login 10 = .ok (.aload_n 0, 1) := by decide +kernel
theorem dX9_login_11 : decode cX9_login 11 = .ok (.getfield 13, 3) := by decide +kernel
theorem dX9_login_14 : decode cX9_login 14 = .ok (.iload_n 1, 1) := by decide +kernel
theorem dX9_login_15 : decode cX9_login 15 = .ok (.iaload, 1) := by decide +kernel
theorem dX9_login_16 : decode cX9_login 16 = .ok (.iconst (-1), 1) := by decide +kernel
theorem dX9_login_17 : decode cX9_login 17 = .ok (.if_icmp .eq 10, 3) := by decide +kernel
theorem dX9_login_20 : decode cX9_login 20 = .ok (.iload_n 2, 1) := by decide +kernel
theorem dX9_login_21 : decode cX9_login 21 = .ok (.invokestatic 116, 3) := by decide +kernel
theorem dX9_login_24 : decode cX9_login 24 = .ok (.ifCond .ne 5, 3) := by decide +kernel
theorem dX9_login_27 : decode cX9_login 27 = .ok (.iconst (-1), 1) := by decide +kernel
theorem dX9_login_28 : decode cX9_login 28 = .ok (.ireturn, 1) := by decide +kernel
theorem dX9_login_29 : decode cX9_login 29 = .ok (.aload_n 0, 1) := by decide +kernel
theorem dX9_login_30 : decode cX9_login 30 = .ok (.iconst 0, 1) := by decide +kernel
theorem dX9_login_31 : decode cX9_login 31 = .ok (.iconst 1, 1) := by decide +kernel
theorem dX9_login_32 : decode cX9_login 32 = .ok (.invokevirtual 76, 3) := by decide +kernel
theorem dX9_login_35 : decode cX9_login 35 = .ok (.ifCond .ne 6, 3) := by decide +kernel
theorem dX9_login_38 : decode cX9_login 38 = .ok (.bipush (-7), 2) := by decide +kernel
theorem dX9_login_40 : decode cX9_login 40 = .ok (.ireturn, 1) := by decide +kernel
theorem dX9_login_41 : decode cX9_login 41 = .ok (.aload_n 3, 1) := by decide +kernel
theorem dX9_login_42 : decode cX9_login 42 = .ok (.aload_n 0, 1) := by decide +kernel
theorem dX9_login_43 : decode cX9_login 43 = .ok (.invokevirtual 119, 3) := by decide +kernel
theorem dX9_login_46 : decode cX9_login 46 = .ok (.iload_n 2, 1) := by decide +kernel
theorem dX9_login_47 : decode cX9_login 47 = .ok (.aload_n 0, 1) := by decide +kernel
theorem dX9_login_48 : decode cX9_login 48 = .ok (.getfield 13, 3) := by decide +kernel
theorem dX9_login_51 : decode cX9_login 51 = .ok (.iload_n 1, 1) := by decide +kernel
theorem dX9_login_52 : decode cX9_login 52 = .ok (.iaload, 1) := by decide +kernel
theorem dX9_login_53 : decode cX9_login 53 = .ok (.invokevirtual 122, 3) := by decide +kernel
theorem dX9_login_56 : decode cX9_login 56 = .ok (.aload_n 0, 1) := by decide +kernel
theorem dX9_login_57 : decode cX9_login 57 = .ok (.new 126, 3) := by decide +kernel
theorem dX9_login_60 : decode cX9_login 60 = .ok (.dup, 1) := by decide +kernel
theorem dX9_login_61 : decode cX9_login 61 = .ok (.aload_n 0, 1) := by decide +kernel
theorem dX9_login_62 : decode cX9_login 62 = .ok (.getfield 13, 3) := by decide +kernel
theorem dX9_login_65 : decode cX9_login 65 = .ok (.iload_n 1, 1) := by decide +kernel
theorem dX9_login_66 : decode cX9_login 66 = .ok (.iaload, 1) := by decide +kernel
theorem dX9_login_67 : decode cX9_login 67 = .ok (.iload_n 1, 1) := by decide +kernel
theorem dX9_login_68 : decode cX9_login 68 = .ok (.aload_n 0, 1) := by decide +kernel
theorem dX9_login_69 : decode cX9_login 69 = .ok (.getfield 9, 3) := by decide +kernel
theorem dX9_login_72 : decode cX9_login 72 = .ok (.iload_n 1, 1) := by decide +kernel
theorem dX9_login_73 : decode cX9_login 73 = .ok (.iaload, 1) := by decide +kernel
theorem dX9_login_74 : decode cX9_login 74 = .ok (.invokespecial 128, 3) := by decide +kernel
theorem dX9_login_77 : decode cX9_login 77 = .ok (.invokevirtual 130, 3) := by decide +kernel
theorem dX9_login_80 : decode cX9_login 80 = .ok (.ireturn, 1) := by decide +kernel
theorem dX9_ask_0 : decode cX9_ask 0 = .ok (.aload_n 0, 1) := by decide +kernel
theorem dX9_ask_1 : decode cX9_ask 1 = .ok (.iload_n 1, 1) := by decide +kernel
theorem dX9_ask_2 : decode cX9_ask 2 = .ok (.invokevirtual 112, 3) := by decide +kernel
theorem dX9_ask_5 : decode cX9_ask 5 = .ok (.astore_n 3, 1) := by decide +kernel
theorem dX9_ask_6 : decode cX9_ask 6 = .ok (.aload_n 3, 1) := by decide +kernel
theorem dX9_ask_7 : decode cX9_ask 7 = .ok (.ifnull 18, 3) := by decide +kernel
theorem dX9_ask_10 : decode cX9_ask 10 = .ok (.aload_n 3, 1) := by decide +kernel
theorem dX9_ask_11 : decode cX9_ask 11 = .ok (.iconst 0, 1) := by decide +kernel
theorem dX9_ask_12 : decode cX9_ask 12 = .ok (.invokevirtual 134, 3) := by decide +kernel
theorem dX9_ask_15 : decode cX9_ask 15 = .ok (.ifCond .eq 10, 3) := by decide +kernel
theorem dX9_ask_18 : decode cX9_ask 18 = .ok (.iload_n 2, 1) := by decide +kernel
theorem dX9_ask_19 : decode cX9_ask 19 = .ok (.invokestatic 116, 3) := by decide +kernel
theorem dX9_ask_22 : decode cX9_ask 22 = .ok (.ifCond .ne 5, 3) := by decide +kernel
theorem dX9_ask_25 : decode cX9_ask 25 = .ok (.iconst (-1), 1) := by decide +kernel
theorem dX9_ask_26 : decode cX9_ask 26 = .ok (.ireturn, 1) := by decide +kernel
theorem dX9_ask_27 : decode cX9_ask 27 = .ok (.aload_n 0, 1) := by decide +kernel
theorem dX9_ask_28 : decode cX9_ask 28 = .ok (.iconst 0, 1) := by decide +kernel
theorem dX9_ask_29 : decode cX9_ask 29 = .ok (.iconst 1, 1) := by decide +kernel
theorem dX9_ask_30 : decode cX9_ask 30 = .ok (.invokevirtual 76, 3) := by decide +kernel
theorem dX9_ask_33 : decode cX9_ask 33 = .ok (.ifCond .ne 6, 3) := by decide +kernel
theorem dX9_ask_36 : decode cX9_ask 36 = .ok (.bipush (-7), 2) := by decide +kernel
theorem dX9_ask_38 : decode cX9_ask 38 = .ok (.ireturn, 1) := by decide +kernel
theorem dX9_ask_39 : decode cX9_ask 39 = .ok (.aload_n 3, 1) := by decide +kernel
theorem dX9_ask_40 : decode cX9_ask 40 = .ok (.getfield 137, 3) := by decide +kernel
theorem dX9_ask_43 : decode cX9_ask 43 = .ok (.iconst 0, 1) := by decide +kernel
theorem dX9_ask_44 : decode cX9_ask 44 = .ok (.iaload, 1) := by decide +kernel
theorem dX9_ask_45 : decode cX9_ask 45 = .ok (.istore 4, 2) := by decide +kernel
theorem dX9_ask_47 : decode cX9_ask 47 = .ok (.aload_n 3, 1) := by decide +kernel
theorem dX9_ask_48 : decode cX9_ask 48 = .ok (.aload_n 0, 1) := by decide +kernel
theorem dX9_ask_49 : decode cX9_ask 49 = .ok (.invokevirtual 119, 3) := by decide +kernel
theorem dX9_ask_52 : decode cX9_ask 52 = .ok (.iload_n 2, 1) := by decide +kernel
theorem dX9_ask_53 : decode cX9_ask 53 = .ok (.iload 4, 2) := by decide +kernel
theorem dX9_ask_55 : decode cX9_ask 55 = .ok (.invokevirtual 122, 3) := by decide +kernel
theorem dX9_ask_58 : decode cX9_ask 58 = .ok (.aload_n 0, 1) := by decide +kernel
theorem dX9_ask_59 : decode cX9_ask 59 = .ok (.new 140, 3) := by decide +kernel
theorem dX9_ask_62 : decode cX9_ask 62 = .ok (.dup, 1) := by decide +kernel
theorem dX9_ask_63 : decode cX9_ask 63 = .ok (.iload 4, 2) := by decide +kernel
theorem dX9_ask_65 : decode cX9_ask 65 = .ok (.iload_n 1, 1) := by decide +kernel
theorem dX9_ask_66 : decode cX9_ask 66 = .ok (.aload_n 0, 1) := by decide +kernel
theorem dX9_ask_67 : decode cX9_ask 67 = .ok (.getfield 9, 3) := by decide +kernel
theorem dX9_ask_70 : decode cX9_ask 70 = .ok (.iload_n 1, 1) := by decide +kernel
theorem dX9_ask_71 : decode cX9_ask 71 = .ok (.iaload, 1) := by decide +kernel
theorem dX9_ask_72 : decode cX9_ask 72 = .ok (.aload_n 3, 1) := by decide +kernel
theorem dX9_ask_73 : decode cX9_ask 73 = .ok (.invokevirtual 142, 3) := by decide +kernel
theorem dX9_ask_76 : decode cX9_ask 76 = .ok (.new 145, 3) := by decide +kernel
theorem dX9_ask_79 : decode cX9_ask 79 = .ok (.dup, 1) := by decide +kernel
theorem dX9_ask_80 : decode cX9_ask 80 = .ok (.iconst 0, 1) := by decide +kernel
theorem dX9_ask_81 : decode cX9_ask 81 = .ok (.iconst 0, 1) := by decide +kernel
theorem dX9_ask_82 : decode cX9_ask 82 = .ok (.iconst 0, 1) := by decide +kernel
theorem dX9_ask_83 : decode cX9_ask 83 = .ok (.invokespecial 147, 3) := by decide +kernel
theorem dX9_ask_86 : decode cX9_ask 86 = .ok (.invokespecial 148, 3) := by decide +kernel
theorem dX9_ask_89 : decode cX9_ask 89 = .ok (.invokevirtual 130, 3) := by decide +kernel
theorem dX9_ask_92 : decode cX9_ask 92 = .ok (.ireturn, 1) := by decide +kernel
theorem dX9_receive_0 : decode cX9_receive 0 = .ok (.aload_n 0, 1) := by decide +kernel
theorem dX9_receive_1 : decode cX9_receive 1 = .ok (.iload_n 1, 1) := by decide +kernel
theorem dX9_receive_2 : decode cX9_receive 2 = .ok (.invokevirtual 112, 3) := by decide +kernel
theorem dX9_receive_5 : decode cX9_receive 5 = .ok (.astore 4, 2) := by decide +kernel
theorem dX9_receive_7 : decode cX9_receive 7 = .ok (.aload 4, 2) := by decide +kernel
theorem dX9_receive_9 : decode cX9_receive 9 = .ok (.ifnull 19, 3) := by decide +kernel
theorem dX9_receive_12 : decode cX9_receive 12 = .ok (.aload 4, 2) := by decide +kernel
theorem dX9_receive_14 : decode cX9_receive 14 = .ok (.invokevirtual 151, 3) := by decide +kernel
theorem dX9_receive_17 : decode cX9_receive 17 = .ok (.ifCond .eq 11, 3) := by decide +kernel
theorem dX9_receive_20 : decode cX9_receive 20 = .ok (.aload_n 0, 1) := by decide +kernel
theorem dX9_receive_21 : decode cX9_receive 21 = .ok (.iload_n 3, 1) := by decide +kernel
theorem dX9_receive_22 : decode cX9_receive 22 = .ok (.invokevirtual 155, 3) := by decide +kernel
theorem dX9_receive_25 : decode cX9_receive 25 = .ok (.ifnonnull 5, 3) := by decide +kernel
theorem dX9_receive_28 : decode cX9_receive 28 = .ok (.iconst 0, 1) := by decide +kernel
theorem dX9_receive_29 : decode cX9_receive 29 = .ok (.ireturn, 1) := by decide +kernel
theorem dX9_receive_30 : decode cX9_receive 30 = .ok (.aload_n 0, 1) := by decide +kernel
theorem dX9_receive_31 : decode cX9_receive 31 = .ok (.iload_n 2, 1) := by decide +kernel
theorem dX9_receive_32 : decode cX9_receive 32 = .ok (.aload 4, 2) := by decide +kernel
theorem dX9_receive_34 : decode cX9_receive 34 = .ok (.getfield 159, 3) := by decide +kernel
theorem dX9_receive_37 : decode cX9_receive 37 = .ok (.invokevirtual 162, 3) := by decide +kernel
theorem dX9_receive_40 : decode cX9_receive 40 = .ok (.astore 5, 2) := by decide +kernel
theorem dX9_receive_42 : decode cX9_receive 42 = .ok (.aload 5, 2) := by decide +kernel
theorem dX9_receive_44 : decode cX9_receive 44 = .ok (.ifnull 29, 3) := by decide +kernel
theorem dX9_receive_47 : decode cX9_receive 47 = .ok (.aload 5, 2) := by decide +kernel
theorem dX9_receive_49 : decode cX9_receive 49 = .ok (.getfield 166, 3) := by decide +kernel
theorem dX9_receive_52 : decode cX9_receive 52 = .ok (.aload 4, 2) := by decide +kernel
theorem dX9_receive_54 : decode cX9_receive 54 = .ok (.getfield 171, 3) := by decide +kernel
theorem dX9_receive_57 : decode cX9_receive 57 = .ok (.if_icmp .ne 16, 3) := by decide +kernel
theorem dX9_receive_60 : decode cX9_receive 60 = .ok (.aload 5, 2) := by decide +kernel
theorem dX9_receive_62 : decode cX9_receive 62 = .ok (.getfield 174, 3) := by decide +kernel
theorem dX9_receive_65 : decode cX9_receive 65 = .ok (.aload 4, 2) := by decide +kernel
theorem dX9_receive_67 : decode cX9_receive 67 = .ok (.getfield 177, 3) := by decide +kernel
theorem dX9_receive_70 : decode cX9_receive 70 = .ok (.if_icmp .eq 5, 3) := by decide +kernel
theorem dX9_receive_73 : decode cX9_receive 73 = .ok (.iconst 0, 1) := by decide +kernel
theorem dX9_receive_74 : decode cX9_receive 74 = .ok (.ireturn, 1) := by decide +kernel
theorem dX9_receive_75 : decode cX9_receive 75 = .ok (.aload 4, 2) := by decide +kernel
theorem dX9_receive_77 : decode cX9_receive 77 = .ok (.iload_n 3, 1) := by decide +kernel
theorem dX9_receive_78 : decode cX9_receive 78 = .ok (.aload 5, 2) := by decide +kernel
theorem dX9_receive_80 : decode cX9_receive 80 = .ok (.getfield 180, 3) := by decide +kernel
theorem dX9_receive_83 : decode cX9_receive 83 = .ok (.invokevirtual 183, 3) := by decide +kernel
theorem dX9_receive_86 : decode cX9_receive 86 = .ok (.iconst 1, 1) := by decide +kernel
theorem dX9_receive_87 : decode cX9_receive 87 = .ok (.ireturn, 1) := by decide +kernel
theorem dX9_order_0 : decode cX9_order 0 = .ok (.aload_n 0, 1) := by decide +kernel
theorem dX9_order_1 : decode cX9_order 1 = .ok (.iload_n 1, 1) := by decide +kernel
theorem dX9_order_2 : decode cX9_order 2 = .ok (.invokevirtual 112, 3) := by decide +kernel
theorem dX9_order_5 : decode cX9_order 5 = .ok (.astore 5, 2) := by decide +kernel
theorem dX9_order_7 : decode cX9_order 7 = .ok (.aload 5, 2) := by decide +kernel
theorem dX9_order_9 : decode cX9_order 9 = .ok (.ifnull 12, 3) := by decide +kernel
theorem dX9_order_12 : decode cX9_order 12 = .ok (.aload 5, 2) := by decide +kernel
theorem dX9_order_14 : decode cX9_order 14 = .ok (.iconst 1, 1) := by decide +kernel
theorem dX9_order_15 : decode cX9_order 15 = .ok (.invokevirtual 134, 3) := by decide +kernel
theorem dX9_order_18 : decode cX9_order 18 = .ok (.ifCond .ne 5, 3) := by decide +kernel
theorem dX9_order_21 : decode cX9_order 21 = .ok (.iconst (-1), 1) := by decide +kernel
theorem dX9_order_22 : decode cX9_order 22 = .ok (.ireturn, 1) := by decide +kernel
theorem dX9_order_23 : decode cX9_order 23 = .ok (.iload_n 2, 1) := by decide +kernel
theorem dX9_order_24 : decode cX9_order 24 = .ok (.iconst 1, 1) := by decide +kernel
theorem dX9_order_25 : decode cX9_order 25 = .ok (.if_icmp .lt 15, 3) := by decide +kernel
theorem dX9_order_28 : decode cX9_order 28 = .ok (.iload_n 2, 1) := by decide +kernel
theorem dX9_order_29 : decode cX9_order 29 = .ok (.iconst 3, 1) := by decide +kernel
theorem dX9_order_30 : decode cX9_order 30 = .ok (.if_icmp .gt 10, 3) := by decide +kernel
theorem dX9_order_33 : decode cX9_order 33 = .ok (.iload_n 3, 1) := by decide +kernel
theorem dX9_order_34 : decode cX9_order 34 = .ok (.invokestatic 98, 3) := by decide +kernel
theorem dX9_order_37 : decode cX9_order 37 = .ok (.ifCond .ne 5, 3) := by decide +kernel
theorem dX9_order_40 : decode cX9_order 40 = .ok (.iconst (-1), 1) := by decide +kernel
theorem dX9_order_41 : decode cX9_order 41 = .ok (.ireturn, 1) := by decide +kernel
theorem dX9_order_42 : decode cX9_order 42 = .ok (.aload_n 0, 1) := by decide +kernel
theorem dX9_order_43 : decode cX9_order 43 = .ok (.iconst 0, 1) := by decide +kernel
theorem dX9_order_44 : decode cX9_order 44 = .ok (.iconst 1, 1) := by decide +kernel
theorem dX9_order_45 : decode cX9_order 45 = .ok (.invokevirtual 76, 3) := by decide +kernel
theorem dX9_order_48 : decode cX9_order 48 = .ok (.ifCond .ne 6, 3) := by decide +kernel
theorem dX9_order_51 : decode cX9_order 51 = .ok (.bipush (-7), 2) := by decide +kernel
theorem dX9_order_53 : decode cX9_order 53 = .ok (.ireturn, 1) := by decide +kernel
theorem dX9_order_54 : decode cX9_order 54 = .ok (.aload 5, 2) := by decide +kernel
theorem dX9_order_56 : decode cX9_order 56 = .ok (.getfield 137, 3) := by decide +kernel
theorem dX9_order_59 : decode cX9_order 59 = .ok (.iconst 1, 1) := by decide +kernel
theorem dX9_order_60 : decode cX9_order 60 = .ok (.iaload, 1) := by decide +kernel
theorem dX9_order_61 : decode cX9_order 61 = .ok (.istore 6, 2) := by decide +kernel
theorem dX9_order_63 : decode cX9_order 63 = .ok (.aload_n 0, 1) := by decide +kernel
theorem dX9_order_64 : decode cX9_order 64 = .ok (.new 140, 3) := by decide +kernel
theorem dX9_order_67 : decode cX9_order 67 = .ok (.dup, 1) := by decide +kernel
theorem dX9_order_68 : decode cX9_order 68 = .ok (.iload 6, 2) := by decide +kernel
theorem dX9_order_70 : decode cX9_order 70 = .ok (.iload_n 1, 1) := by decide +kernel
theorem dX9_order_71 : decode cX9_order 71 = .ok (.aload_n 0, 1) := by decide +kernel
theorem dX9_order_72 : decode cX9_order 72 = .ok (.getfield 9, 3) := by decide +kernel
theorem dX9_order_75 : decode cX9_order 75 = .ok (.iload_n 1, 1) := by decide +kernel
theorem dX9_order_76 : decode cX9_order 76 = .ok (.iaload, 1) := by decide +kernel
theorem dX9_order_77 : decode cX9_order 77 = .ok (.aload 5, 2) := by decide +kernel
theorem dX9_order_79 : decode cX9_order 79 = .ok (.invokevirtual 142, 3) := by decide +kernel
theorem dX9_order_82 : decode cX9_order 82 = .ok (.new 145, 3) := by decide +kernel
theorem dX9_order_85 : decode cX9_order 85 = .ok (.dup, 1) := by decide +kernel
theorem dX9_order_86 : decode cX9_order 86 = .ok (.iload_n 2, 1) := by decide +kernel
theorem dX9_order_87 : decode cX9_order 87 = .ok (.iload_n 3, 1) := by decide +kernel
theorem dX9_order_88 : decode cX9_order 88 = .ok (.iload 4, 2) := by decide +kernel
theorem dX9_order_90 : decode cX9_order 90 = .ok (.invokespecial 147, 3) := by decide +kernel
theorem dX9_order_93 : decode cX9_order 93 = .ok (.invokespecial 148, 3) := by decide +kernel
theorem dX9_order_96 : decode cX9_order 96 = .ok (.invokevirtual 130, 3) := by decide +kernel
theorem dX9_order_99 : decode cX9_order 99 = .ok (.ireturn, 1) := by decide +kernel
theorem dX9_issue_0 : decode cX9_issue 0 = .ok (.aload_n 0, 1) := by decide +kernel
theorem dX9_issue_1 : decode cX9_issue 1 = .ok (.iload_n 1, 1) := by decide +kernel
theorem dX9_issue_2 : decode cX9_issue 2 = .ok (.invokevirtual 186, 3) := by decide +kernel
theorem dX9_issue_5 : decode cX9_issue 5 = .ok (.ifCond .eq 17, 3) := by decide +kernel
theorem dX9_issue_8 : decode cX9_issue 8 = .ok (.aload_n 0, 1) := by decide +kernel
theorem dX9_issue_9 : decode cX9_issue 9 = .ok (.iload_n 2, 1) := by decide +kernel
theorem dX9_issue_10 : decode cX9_issue 10 = .ok (.invokevirtual 189, 3) := by decide +kernel
theorem dX9_issue_13 : decode cX9_issue 13 = .ok (.ifCond .eq 9, 3) := by decide +kernel
theorem dX9_issue_16 : decode cX9_issue 16 = .ok (.iload 5, 2) := by decide +kernel
theorem dX9_issue_18 : decode cX9_issue 18 = .ok (.iconst 1, 1) := by decide +kernel
theorem dX9_issue_19 : decode cX9_issue 19 = .ok (.if_icmp .ge 5, 3) := by decide +kernel
theorem dX9_issue_22 : decode cX9_issue 22 = .ok (.iconst (-1), 1) := by decide +kernel
theorem dX9_issue_23 : decode cX9_issue 23 = .ok (.ireturn, 1) := by decide +kernel
theorem dX9_issue_24 : decode cX9_issue 24 = .ok (.aload_n 0, 1) := by decide +kernel
theorem dX9_issue_25 : decode cX9_issue 25 = .ok (.iload 4, 2) := by decide +kernel
theorem dX9_issue_27 : decode cX9_issue 27 = .ok (.aload_n 0, 1) := by decide +kernel
theorem dX9_issue_28 : decode cX9_issue 28 = .ok (.getfield 19, 3) := by decide +kernel
theorem dX9_issue_31 : decode cX9_issue 31 = .ok (.getfield 192, 3) := by decide +kernel
theorem dX9_issue_34 : decode cX9_issue 34 = .ok (.iload_n 1, 1) := by decide +kernel
theorem dX9_issue_35 : decode cX9_issue 35 = .ok (.iaload, 1) := by decide +kernel
theorem dX9_issue_36 : decode cX9_issue 36 = .ok (.invokevirtual 195, 3) := by decide +kernel
theorem dX9_issue_39 : decode cX9_issue 39 = .ok (.astore 6, 2) := by decide +kernel
theorem dX9_issue_41 : decode cX9_issue 41 = .ok (.aload 6, 2) := by decide +kernel
theorem dX9_issue_43 : decode cX9_issue 43 = .ok (.ifnonnull 6, 3) := by decide +kernel
theorem dX9_issue_46 : decode cX9_issue 46 = .ok (.bipush (-2), 2) := by decide +kernel
theorem dX9_issue_48 : decode cX9_issue 48 = .ok (.ireturn, 1) := by decide +kernel
theorem dX9_issue_49 : decode cX9_issue 49 = .ok (.aload 6, 2) := by decide +kernel
theorem dX9_issue_51 : decode cX9_issue 51 = .ok (.getfield 199, 3) := by decide +kernel
theorem dX9_issue_54 : decode cX9_issue 54 = .ok (.iload_n 1, 1) := by decide +kernel
theorem dX9_issue_55 : decode cX9_issue 55 = .ok (.if_icmp .eq 6, 3) := by decide +kernel
theorem dX9_issue_58 : decode cX9_issue 58 = .ok (.bipush (-3), 2) := by decide +kernel
theorem dX9_issue_60 : decode cX9_issue 60 = .ok (.ireturn, 1) := by decide +kernel
theorem dX9_issue_61 : decode cX9_issue 61 = .ok (.aload_n 0, 1) := by decide +kernel
theorem dX9_issue_62 : decode cX9_issue 62 = .ok (.aload 6, 2) := by decide +kernel
theorem dX9_issue_64 : decode cX9_issue 64 = .ok (.getfield 202, 3) := by decide +kernel
theorem dX9_issue_67 : decode cX9_issue 67 = .ok (.aload_n 0, 1) := by decide +kernel
theorem dX9_issue_68 : decode cX9_issue 68 = .ok (.getfield 9, 3) := by decide +kernel
theorem dX9_issue_71 : decode cX9_issue 71 = .ok (.iconst 0, 1) := by decide +kernel
theorem dX9_issue_72 : decode cX9_issue 72 = .ok (.iaload, 1) := by decide +kernel
theorem dX9_issue_73 : decode cX9_issue 73 = .ok (.invokevirtual 205, 3) := by decide +kernel
theorem dX9_issue_76 : decode cX9_issue 76 = .ok (.ifCond .ne 6, 3) := by decide +kernel
theorem dX9_issue_79 : decode cX9_issue 79 = .ok (.bipush (-4), 2) := by decide +kernel
theorem dX9_issue_81 : decode cX9_issue 81 = .ok (.ireturn, 1) := by decide +kernel
theorem dX9_issue_82 : decode cX9_issue 82 = .ok (.aload_n 0, 1) := by decide +kernel
theorem dX9_issue_83 : decode cX9_issue 83 = .ok (.iconst 1, 1) := by decide +kernel
theorem dX9_issue_84 : decode cX9_issue 84 = .ok (.iconst 2, 1) := by decide +kernel
theorem dX9_issue_85 : decode cX9_issue 85 = .ok (.invokevirtual 76, 3) := by decide +kernel
theorem dX9_issue_88 : decode cX9_issue 88 = .ok (.ifCond .ne 6, 3) := by decide +kernel
theorem dX9_issue_91 : decode cX9_issue 91 = .ok (.bipush (-7), 2) := by decide +kernel
theorem dX9_issue_93 : decode cX9_issue 93 = .ok (.ireturn, 1) := by decide +kernel
theorem dX9_issue_94 : decode cX9_issue 94 = .ok (.aload_n 0, 1) := by decide +kernel
theorem dX9_issue_95 : decode cX9_issue 95 = .ok (.iload_n 1, 1) := by decide +kernel
theorem dX9_issue_96 : decode cX9_issue 96 = .ok (.iload_n 2, 1) := by decide +kernel
theorem dX9_issue_97 : decode cX9_issue 97 = .ok (.iload 5, 2) := by decide +kernel
theorem dX9_issue_99 : decode cX9_issue 99 = .ok (.invokevirtual 208, 3) := by decide +kernel
theorem dX9_issue_102 : decode cX9_issue 102 = .ok (.istore 7, 2) := by decide +kernel
theorem dX9_issue_104 : decode cX9_issue 104 = .ok (.iload_n 2, 1) := by decide +kernel
theorem dX9_issue_105 : decode cX9_issue 105 = .ok (.ifCond .ne 24, 3) := by decide +kernel
theorem dX9_issue_108 : decode cX9_issue 108 = .ok (.aload_n 0, 1) := by decide +kernel
theorem dX9_issue_109 : decode cX9_issue 109 = .ok (.getfield 9, 3) := by decide +kernel
theorem dX9_issue_112 : decode cX9_issue 112 = .ok (.iconst 0, 1) := by decide +kernel
theorem dX9_issue_113 : decode cX9_issue 113 = .ok (.iaload, 1) := by decide +kernel
theorem dX9_issue_114 : decode cX9_issue 114 = .ok (.iconst 5, 1) := by decide +kernel
theorem dX9_issue_115 : decode cX9_issue 115 = .ok (.aload_n 0, 1) := by decide +kernel
theorem dX9_issue_116 : decode cX9_issue 116 = .ok (.getfield 19, 3) := by decide +kernel
theorem dX9_issue_119 : decode cX9_issue 119 = .ok (.getfield 95, 3) := by decide +kernel
theorem dX9_issue_122 : decode cX9_issue 122 = .ok (.iload_n 1, 1) := by decide +kernel
theorem dX9_issue_123 : decode cX9_issue 123 = .ok (.iaload, 1) := by decide +kernel
theorem dX9_issue_124 : decode cX9_issue 124 = .ok (.imul, 1) := by decide +kernel
theorem dX9_issue_125 : decode cX9_issue 125 = .ok (.iadd, 1) := by decide +kernel
theorem dX9_issue_126 : decode cX9_issue 126 = .ok (.goto 5, 3) := by decide +kernel
theorem dX9_issue_129 : decode cX9_issue 129 = .ok (.iload 7, 2) := by decide +kernel
theorem dX9_issue_131 : decode cX9_issue 131 = .ok (.istore 8, 2) := by decide +kernel
theorem dX9_issue_133 : decode cX9_issue 133 = .ok (.aload_n 0, 1) := by decide +kernel
theorem dX9_issue_134 : decode cX9_issue 134 = .ok (.iload_n 1, 1) := by decide +kernel
theorem dX9_issue_135 : decode cX9_issue 135 = .ok (.iload_n 2, 1) := by decide +kernel
theorem dX9_issue_136 : decode cX9_issue 136 = .ok (.iload_n 3, 1) := by decide +kernel
theorem dX9_issue_137 : decode cX9_issue 137 = .ok (.aload_n 0, 1) := by decide +kernel
theorem dX9_issue_138 : decode cX9_issue 138 = .ok (.getfield 19, 3) := by decide +kernel
theorem dX9_issue_141 : decode cX9_issue 141 = .ok (.getfield 192, 3) := by decide +kernel
theorem dX9_issue_144 : decode cX9_issue 144 = .ok (.iload_n 1, 1) := by decide +kernel
theorem dX9_issue_145 : decode cX9_issue 145 = .ok (.iaload, 1) := by decide +kernel
theorem dX9_issue_146 : decode cX9_issue 146 = .ok (.iload 7, 2) := by decide +kernel
theorem dX9_issue_148 : decode cX9_issue 148 = .ok (.iload 8, 2) := by decide +kernel
theorem dX9_issue_150 : decode cX9_issue 150 = .ok (.invokevirtual 212, 3) := by decide +kernel
theorem dX9_issue_153 : decode cX9_issue 153 = .ok (.ireturn, 1) := by decide +kernel
theorem dX9_grant_0 : decode cX9_grant 0 = .ok (.aload_n 0, 1) := by decide +kernel
theorem dX9_grant_1 : decode cX9_grant 1 = .ok (.iload_n 3, 1) := by decide +kernel
theorem dX9_grant_2 : decode cX9_grant 2 = .ok (.invokevirtual 189, 3) := by decide +kernel
theorem dX9_grant_5 : decode cX9_grant 5 = .ok (.ifCond .eq 20, 3) := by decide +kernel
theorem dX9_grant_8 : decode cX9_grant 8 = .ok (.aload_n 0, 1) := by decide +kernel
theorem dX9_grant_9 : decode cX9_grant 9 = .ok (.getfield 19, 3) := by decide +kernel
theorem dX9_grant_12 : decode cX9_grant 12 = .ok (.iconst 0, 1) := by decide +kernel
theorem dX9_grant_13 : decode cX9_grant 13 = .ok (.invokevirtual 88, 3) := by decide +kernel
theorem dX9_grant_16 : decode cX9_grant 16 = .ok (.ifCond .eq 9, 3) := by decide +kernel
theorem dX9_grant_19 : decode cX9_grant 19 = .ok (.iload 5, 2) := by decide +kernel
theorem dX9_grant_21 : decode cX9_grant 21 = .ok (.iconst 1, 1) := by decide +kernel
theorem dX9_grant_22 : decode cX9_grant 22 = .ok (.if_icmp .ge 5, 3) := by decide +kernel
theorem dX9_grant_25 : decode cX9_grant 25 = .ok (.iconst (-1), 1) := by decide +kernel
theorem dX9_grant_26 : decode cX9_grant 26 = .ok (.ireturn, 1) := by decide +kernel
theorem dX9_grant_27 : decode cX9_grant 27 = .ok (.aload_n 0, 1) := by decide +kernel
theorem dX9_grant_28 : decode cX9_grant 28 = .ok (.iload_n 1, 1) := by decide +kernel
theorem dX9_grant_29 : decode cX9_grant 29 = .ok (.aload_n 0, 1) := by decide +kernel
theorem dX9_grant_30 : decode cX9_grant 30 = .ok (.getfield 19, 3) := by decide +kernel
theorem dX9_grant_33 : decode cX9_grant 33 = .ok (.getfield 192, 3) := by decide +kernel
theorem dX9_grant_36 : decode cX9_grant 36 = .ok (.iconst 0, 1) := by decide +kernel
theorem dX9_grant_37 : decode cX9_grant 37 = .ok (.iaload, 1) := by decide +kernel
theorem dX9_grant_38 : decode cX9_grant 38 = .ok (.invokevirtual 216, 3) := by decide +kernel
theorem dX9_grant_41 : decode cX9_grant 41 = .ok (.astore 6, 2) := by decide +kernel
theorem dX9_grant_43 : decode cX9_grant 43 = .ok (.aload 6, 2) := by decide +kernel
theorem dX9_grant_45 : decode cX9_grant 45 = .ok (.ifnonnull 7, 3) := by decide +kernel
theorem dX9_grant_48 : decode cX9_grant 48 = .ok (.aconst_null, 1) := by decide +kernel
theorem dX9_grant_49 : decode cX9_grant 49 = .ok (.goto 13, 3) := by decide +kernel
theorem dX9_grant_52 : decode cX9_grant 52 = .ok (.aload_n 0, 1) := by decide +kernel
theorem dX9_grant_53 : decode cX9_grant 53 = .ok (.iload_n 2, 1) := by decide +kernel
theorem dX9_grant_54 : decode cX9_grant 54 = .ok (.aload 6, 2) := by decide +kernel
theorem dX9_grant_56 : decode cX9_grant 56 = .ok (.getfield 220, 3) := by decide +kernel
theorem dX9_grant_59 : decode cX9_grant 59 = .ok (.invokevirtual 223, 3) := by decide +kernel
theorem dX9_grant_62 : decode cX9_grant 62 = .ok (.astore 7, 2) := by decide +kernel
theorem dX9_grant_64 : decode cX9_grant 64 = .ok (.aload 6, 2) := by decide +kernel
theorem dX9_grant_66 : decode cX9_grant 66 = .ok (.ifnull 8, 3) := by decide +kernel
theorem dX9_grant_69 : decode cX9_grant 69 = .ok (.aload 7, 2) := by decide +kernel
theorem dX9_grant_71 : decode cX9_grant 71 = .ok (.ifnonnull 6, 3) := by decide +kernel
theorem dX9_grant_74 : decode cX9_grant 74 = .ok (.bipush (-2), 2) := by decide +kernel
theorem dX9_grant_76 : decode cX9_grant 76 = .ok (.ireturn, 1) := by decide +kernel
theorem dX9_grant_77 : decode cX9_grant 77 = .ok (.aload 6, 2) := by decide +kernel
theorem dX9_grant_79 : decode cX9_grant 79 = .ok (.getfield 227, 3) := by decide +kernel
theorem dX9_grant_82 : decode cX9_grant 82 = .ok (.istore 8, 2) := by decide +kernel
theorem dX9_grant_84 : decode cX9_grant 84 = .ok (.aload 7, 2) := by decide +kernel
theorem dX9_grant_86 : decode cX9_grant 86 = .ok (.getfield 228, 3) := by decide +kernel
theorem dX9_grant_89 : decode cX9_grant 89 = .ok (.iload 8, 2) := by decide +kernel
theorem dX9_grant_91 : decode cX9_grant 91 = .ok (.if_icmp .ne 23, 3) := by decide +kernel
theorem dX9_grant_94 : decode cX9_grant 94 = .ok (.aload 7, 2) := by decide +kernel
theorem dX9_grant_96 : decode cX9_grant 96 = .ok (.getfield 229, 3) := by decide +kernel
theorem dX9_grant_99 : decode cX9_grant 99 = .ok (.getfield 233, 3) := by decide +kernel
theorem dX9_grant_102 : decode cX9_grant 102 = .ok (.ifCond .ne 12, 3) := by decide +kernel
theorem dX9_grant_105 : decode cX9_grant 105 = .ok (.aload_n 0, 1) := by decide +kernel
theorem dX9_grant_106 : decode cX9_grant 106 = .ok (.iload 8, 2) := by decide +kernel
theorem dX9_grant_108 : decode cX9_grant 108 = .ok (.invokevirtual 186, 3) := by decide +kernel
theorem dX9_grant_111 : decode cX9_grant 111 = .ok (.ifCond .ne 6, 3) := by decide +kernel
theorem dX9_grant_114 : decode cX9_grant 114 = .ok (.bipush (-3), 2) := by decide +kernel
theorem dX9_grant_116 : decode cX9_grant 116 = .ok (.ireturn, 1) := by decide +kernel
theorem dX9_grant_117 : decode cX9_grant 117 = .ok (.aload_n 0, 1) := by decide +kernel
theorem dX9_grant_118 : decode cX9_grant 118 = .ok (.aload 7, 2) := by decide +kernel
theorem dX9_grant_120 : decode cX9_grant 120 = .ok (.getfield 236, 3) := by decide +kernel
theorem dX9_grant_123 : decode cX9_grant 123 = .ok (.aload_n 0, 1) := by decide +kernel
theorem dX9_grant_124 : decode cX9_grant 124 = .ok (.getfield 9, 3) := by decide +kernel
theorem dX9_grant_127 : decode cX9_grant 127 = .ok (.iconst 0, 1) := by decide +kernel
theorem dX9_grant_128 : decode cX9_grant 128 = .ok (.iaload, 1) := by decide +kernel
theorem dX9_grant_129 : decode cX9_grant 129 = .ok (.invokevirtual 205, 3) := by decide +kernel
theorem dX9_grant_132 : decode cX9_grant 132 = .ok (.ifCond .eq 17, 3) := by decide +kernel
theorem dX9_grant_135 : decode cX9_grant 135 = .ok (.aload_n 0, 1) := by decide +kernel
theorem dX9_grant_136 : decode cX9_grant 136 = .ok (.getfield 9, 3) := by decide +kernel
theorem dX9_grant_139 : decode cX9_grant 139 = .ok (.iconst 0, 1) := by decide +kernel
theorem dX9_grant_140 : decode cX9_grant 140 = .ok (.iaload, 1) := by decide +kernel
theorem dX9_grant_141 : decode cX9_grant 141 = .ok (.aload 6, 2) := by decide +kernel
theorem dX9_grant_143 : decode cX9_grant 143 = .ok (.getfield 237, 3) := by decide +kernel
theorem dX9_grant_146 : decode cX9_grant 146 = .ok (.if_icmp .le 6, 3) := by decide +kernel
theorem dX9_grant_149 : decode cX9_grant 149 = .ok (.bipush (-4), 2) := by decide +kernel
theorem dX9_grant_151 : decode cX9_grant 151 = .ok (.ireturn, 1) := by decide +kernel
theorem dX9_grant_152 : decode cX9_grant 152 = .ok (.aload_n 0, 1) := by decide +kernel
theorem dX9_grant_153 : decode cX9_grant 153 = .ok (.iconst 1, 1) := by decide +kernel
theorem dX9_grant_154 : decode cX9_grant 154 = .ok (.iconst 2, 1) := by decide +kernel
theorem dX9_grant_155 : decode cX9_grant 155 = .ok (.invokevirtual 76, 3) := by decide +kernel
theorem dX9_grant_158 : decode cX9_grant 158 = .ok (.ifCond .ne 6, 3) := by decide +kernel
theorem dX9_grant_161 : decode cX9_grant 161 = .ok (.bipush (-7), 2) := by decide +kernel
theorem dX9_grant_163 : decode cX9_grant 163 = .ok (.ireturn, 1) := by decide +kernel
theorem dX9_grant_164 : decode cX9_grant 164 = .ok (.iload_n 3, 1) := by decide +kernel
theorem dX9_grant_165 : decode cX9_grant 165 = .ok (.ifCond .ne 11, 3) := by decide +kernel
theorem dX9_grant_168 : decode cX9_grant 168 = .ok (.aload 6, 2) := by decide +kernel
theorem dX9_grant_170 : decode cX9_grant 170 = .ok (.getfield 240, 3) := by decide +kernel
theorem dX9_grant_173 : decode cX9_grant 173 = .ok (.goto 8, 3) := by decide +kernel
theorem dX9_grant_176 : decode cX9_grant 176 = .ok (.aload 6, 2) := by decide +kernel
theorem dX9_grant_178 : decode cX9_grant 178 = .ok (.getfield 237, 3) := by decide +kernel
theorem dX9_grant_181 : decode cX9_grant 181 = .ok (.istore 9, 2) := by decide +kernel
theorem dX9_grant_183 : decode cX9_grant 183 = .ok (.aload_n 0, 1) := by decide +kernel
theorem dX9_grant_184 : decode cX9_grant 184 = .ok (.iload 8, 2) := by decide +kernel
theorem dX9_grant_186 : decode cX9_grant 186 = .ok (.iload_n 3, 1) := by decide +kernel
theorem dX9_grant_187 : decode cX9_grant 187 = .ok (.iload 5, 2) := by decide +kernel
theorem dX9_grant_189 : decode cX9_grant 189 = .ok (.invokevirtual 208, 3) := by decide +kernel
theorem dX9_grant_192 : decode cX9_grant 192 = .ok (.iload 9, 2) := by decide +kernel
theorem dX9_grant_194 : decode cX9_grant 194 = .ok (.invokestatic 59, 3) := by decide +kernel
theorem dX9_grant_197 : decode cX9_grant 197 = .ok (.istore 10, 2) := by decide +kernel
theorem dX9_grant_199 : decode cX9_grant 199 = .ok (.iload_n 3, 1) := by decide +kernel
theorem dX9_grant_200 : decode cX9_grant 200 = .ok (.ifCond .ne 11, 3) := by decide +kernel
theorem dX9_grant_203 : decode cX9_grant 203 = .ok (.aload 6, 2) := by decide +kernel
theorem dX9_grant_205 : decode cX9_grant 205 = .ok (.getfield 240, 3) := by decide +kernel
theorem dX9_grant_208 : decode cX9_grant 208 = .ok (.goto 5, 3) := by decide +kernel
theorem dX9_grant_211 : decode cX9_grant 211 = .ok (.iload 10, 2) := by decide +kernel
theorem dX9_grant_213 : decode cX9_grant 213 = .ok (.istore 11, 2) := by decide +kernel
theorem dX9_grant_215 : decode cX9_grant 215 = .ok (.aload_n 0, 1) := by decide +kernel
theorem dX9_grant_216 : decode cX9_grant 216 = .ok (.iload 8, 2) := by decide +kernel
theorem dX9_grant_218 : decode cX9_grant 218 = .ok (.iload_n 3, 1) := by decide +kernel
theorem dX9_grant_219 : decode cX9_grant 219 = .ok (.iload 4, 2) := by decide +kernel
theorem dX9_grant_221 : decode cX9_grant 221 = .ok (.aload 6, 2) := by decide +kernel
theorem dX9_grant_223 : decode cX9_grant 223 = .ok (.getfield 220, 3) := by decide +kernel
theorem dX9_grant_226 : decode cX9_grant 226 = .ok (.iload 10, 2) := by decide +kernel
theorem dX9_grant_228 : decode cX9_grant 228 = .ok (.iload 11, 2) := by decide +kernel
theorem dX9_grant_230 : decode cX9_grant 230 = .ok (.invokevirtual 212, 3) := by decide +kernel
theorem dX9_grant_233 : decode cX9_grant 233 = .ok (.ireturn, 1) := by decide +kernel
theorem dX9_serve_0 : decode cX9_serve 0 = .ok (.aload_n 0, 1) := by decide +kernel
theorem dX9_serve_1 : decode cX9_serve 1 = .ok (.getfield 9, 3) := by decide +kernel
theorem dX9_serve_4 : decode cX9_serve 4 = .ok (.iconst 1, 1) := by decide +kernel
theorem dX9_serve_5 : decode cX9_serve 5 = .ok (.iaload, 1) := by decide +kernel
theorem dX9_serve_6 : decode cX9_serve 6 = .ok (.istore_n 3, 1) := by decide +kernel
theorem dX9_serve_7 : decode cX9_serve 7 = .ok (.aload_n 0, 1) := by decide +kernel
theorem dX9_serve_8 : decode cX9_serve 8 = .ok (.getfield 35, 3) := by decide +kernel
theorem dX9_serve_11 : decode cX9_serve 11 = .ok (.iload_n 3, 1) := by decide +kernel
theorem dX9_serve_12 : decode cX9_serve 12 = .ok (.aload_n 0, 1) := by decide +kernel
theorem dX9_serve_13 : decode cX9_serve 13 = .ok (.getfield 68, 3) := by decide +kernel
theorem dX9_serve_16 : decode cX9_serve 16 = .ok (.isub, 1) := by decide +kernel
theorem dX9_serve_17 : decode cX9_serve 17 = .ok (.invokevirtual 243, 3) := by decide +kernel
theorem dX9_serve_20 : decode cX9_serve 20 = .ok (.aload_n 0, 1) := by decide +kernel
theorem dX9_serve_21 : decode cX9_serve 21 = .ok (.iload_n 1, 1) := by decide +kernel
theorem dX9_serve_22 : decode cX9_serve 22 = .ok (.aload_n 0, 1) := by decide +kernel
theorem dX9_serve_23 : decode cX9_serve 23 = .ok (.getfield 13, 3) := by decide +kernel
theorem dX9_serve_26 : decode cX9_serve 26 = .ok (.iconst 1, 1) := by decide +kernel
theorem dX9_serve_27 : decode cX9_serve 27 = .ok (.iaload, 1) := by decide +kernel
theorem dX9_serve_28 : decode cX9_serve 28 = .ok (.invokevirtual 216, 3) := by decide +kernel
theorem dX9_serve_31 : decode cX9_serve 31 = .ok (.astore 4, 2) := by decide +kernel
theorem dX9_serve_33 : decode cX9_serve 33 = .ok (.aload 4, 2) := by decide +kernel
theorem dX9_serve_35 : decode cX9_serve 35 = .ok (.ifnonnull 7, 3) := by decide +kernel
theorem dX9_serve_38 : decode cX9_serve 38 = .ok (.aconst_null, 1) := by decide +kernel
theorem dX9_serve_39 : decode cX9_serve 39 = .ok (.goto 13, 3) := by decide +kernel
theorem dX9_serve_42 : decode cX9_serve 42 = .ok (.aload_n 0, 1) := by decide +kernel
theorem dX9_serve_43 : decode cX9_serve 43 = .ok (.iload_n 2, 1) := by decide +kernel
theorem dX9_serve_44 : decode cX9_serve 44 = .ok (.aload 4, 2) := by decide +kernel
theorem dX9_serve_46 : decode cX9_serve 46 = .ok (.getfield 220, 3) := by decide +kernel
theorem dX9_serve_49 : decode cX9_serve 49 = .ok (.invokevirtual 223, 3) := by decide +kernel
theorem dX9_serve_52 : decode cX9_serve 52 = .ok (.astore 5, 2) := by decide +kernel
theorem dX9_serve_54 : decode cX9_serve 54 = .ok (.aload 4, 2) := by decide +kernel
theorem dX9_serve_56 : decode cX9_serve 56 = .ok (.ifnull 8, 3) := by decide +kernel
theorem dX9_serve_59 : decode cX9_serve 59 = .ok (.aload 5, 2) := by decide +kernel
theorem dX9_serve_61 : decode cX9_serve 61 = .ok (.ifnonnull 6, 3) := by decide +kernel
theorem dX9_serve_64 : decode cX9_serve 64 = .ok (.bipush (-2), 2) := by decide +kernel
theorem dX9_serve_66 : decode cX9_serve 66 = .ok (.ireturn, 1) := by decide +kernel
theorem dX9_serve_67 : decode cX9_serve 67 = .ok (.aload 5, 2) := by decide +kernel
theorem dX9_serve_69 : decode cX9_serve 69 = .ok (.getfield 228, 3) := by decide +kernel
theorem dX9_serve_72 : decode cX9_serve 72 = .ok (.aload 4, 2) := by decide +kernel
theorem dX9_serve_74 : decode cX9_serve 74 = .ok (.getfield 227, 3) := by decide +kernel
theorem dX9_serve_77 : decode cX9_serve 77 = .ok (.if_icmp .ne 14, 3) := by decide +kernel
theorem dX9_serve_80 : decode cX9_serve 80 = .ok (.aload 5, 2) := by decide +kernel
theorem dX9_serve_82 : decode cX9_serve 82 = .ok (.getfield 229, 3) := by decide +kernel
theorem dX9_serve_85 : decode cX9_serve 85 = .ok (.getfield 233, 3) := by decide +kernel
theorem dX9_serve_88 : decode cX9_serve 88 = .ok (.ifCond .ne 6, 3) := by decide +kernel
theorem dX9_serve_91 : decode cX9_serve 91 = .ok (.bipush (-3), 2) := by decide +kernel
theorem dX9_serve_93 : decode cX9_serve 93 = .ok (.ireturn, 1) := by decide +kernel
theorem dX9_serve_94 : decode cX9_serve 94 = .ok (.aload_n 0, 1) := by decide +kernel
theorem dX9_serve_95 : decode cX9_serve 95 = .ok (.aload 5, 2) := by decide +kernel
theorem dX9_serve_97 : decode cX9_serve 97 = .ok (.getfield 236, 3) := by decide +kernel
theorem dX9_serve_100 : decode cX9_serve 100 = .ok (.iload_n 3, 1) := by decide +kernel
theorem dX9_serve_101 : decode cX9_serve 101 = .ok (.invokevirtual 205, 3) := by decide +kernel
theorem dX9_serve_104 : decode cX9_serve 104 = .ok (.ifCond .eq 26, 3) := by decide +kernel
theorem dX9_serve_107 : decode cX9_serve 107 = .ok (.iload_n 3, 1) := by decide +kernel
theorem dX9_serve_108 : decode cX9_serve 108 = .ok (.aload 4, 2) := by decide +kernel
theorem dX9_serve_110 : decode cX9_serve 110 = .ok (.getfield 237, 3) := by decide +kernel
theorem dX9_serve_113 : decode cX9_serve 113 = .ok (.if_icmp .gt 17, 3) := by decide +kernel
theorem dX9_serve_116 : decode cX9_serve 116 = .ok (.aload 4, 2) := by decide +kernel
theorem dX9_serve_118 : decode cX9_serve 118 = .ok (.getfield 246, 3) := by decide +kernel
theorem dX9_serve_121 : decode cX9_serve 121 = .ok (.iload_n 3, 1) := by decide +kernel
theorem dX9_serve_122 : decode cX9_serve 122 = .ok (.aload_n 0, 1) := by decide +kernel
theorem dX9_serve_123 : decode cX9_serve 123 = .ok (.getfield 68, 3) := by decide +kernel
theorem dX9_serve_126 : decode cX9_serve 126 = .ok (.iadd, 1) := by decide +kernel
theorem dX9_serve_127 : decode cX9_serve 127 = .ok (.if_icmp .le 6, 3) := by decide +kernel
theorem dX9_serve_130 : decode cX9_serve 130 = .ok (.bipush (-4), 2) := by decide +kernel
theorem dX9_serve_132 : decode cX9_serve 132 = .ok (.ireturn, 1) := by decide +kernel
theorem dX9_serve_133 : decode cX9_serve 133 = .ok (.aload_n 0, 1) := by decide +kernel
theorem dX9_serve_134 : decode cX9_serve 134 = .ok (.getfield 35, 3) := by decide +kernel
theorem dX9_serve_137 : decode cX9_serve 137 = .ok (.aload 5, 2) := by decide +kernel
theorem dX9_serve_139 : decode cX9_serve 139 = .ok (.invokevirtual 249, 3) := by decide +kernel
theorem dX9_serve_142 : decode cX9_serve 142 = .ok (.ifCond .eq 6, 3) := by decide +kernel
theorem dX9_serve_145 : decode cX9_serve 145 = .ok (.bipush (-5), 2) := by decide +kernel
theorem dX9_serve_147 : decode cX9_serve 147 = .ok (.ireturn, 1) := by decide +kernel
theorem dX9_serve_148 : decode cX9_serve 148 = .ok (.aload_n 0, 1) := by decide +kernel
theorem dX9_serve_149 : decode cX9_serve 149 = .ok (.getfield 19, 3) := by decide +kernel
theorem dX9_serve_152 : decode cX9_serve 152 = .ok (.aload 5, 2) := by decide +kernel
theorem dX9_serve_154 : decode cX9_serve 154 = .ok (.getfield 228, 3) := by decide +kernel
theorem dX9_serve_157 : decode cX9_serve 157 = .ok (.aload 5, 2) := by decide +kernel
theorem dX9_serve_159 : decode cX9_serve 159 = .ok (.getfield 229, 3) := by decide +kernel
theorem dX9_serve_162 : decode cX9_serve 162 = .ok (.invokevirtual 253, 3) := by decide +kernel
theorem dX9_serve_165 : decode cX9_serve 165 = .ok (.ifCond .ne 6, 3) := by decide +kernel
theorem dX9_serve_168 : decode cX9_serve 168 = .ok (.bipush (-6), 2) := by decide +kernel
theorem dX9_serve_170 : decode cX9_serve 170 = .ok (.ireturn, 1) := by decide +kernel
theorem dX9_serve_171 : decode cX9_serve 171 = .ok (.aload_n 0, 1) := by decide +kernel
theorem dX9_serve_172 : decode cX9_serve 172 = .ok (.getfield 35, 3) := by decide +kernel
theorem dX9_serve_175 : decode cX9_serve 175 = .ok (.invokevirtual 257, 3) := by decide +kernel
theorem dX9_serve_178 : decode cX9_serve 178 = .ok (.ifCond .eq 6, 3) := by decide +kernel
theorem dX9_serve_181 : decode cX9_serve 181 = .ok (.bipush (-7), 2) := by decide +kernel
theorem dX9_serve_183 : decode cX9_serve 183 = .ok (.ireturn, 1) := by decide +kernel
theorem dX9_serve_184 : decode cX9_serve 184 = .ok (.aload_n 0, 1) := by decide +kernel
theorem dX9_serve_185 : decode cX9_serve 185 = .ok (.getfield 35, 3) := by decide +kernel
theorem dX9_serve_188 : decode cX9_serve 188 = .ok (.aload 5, 2) := by decide +kernel
