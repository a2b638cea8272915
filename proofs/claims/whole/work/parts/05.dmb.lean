theorem dX10_ask_58 : decode cX10_ask 58 = .ok (.getfield 74, 3) := by decide +kernel
theorem dX10_ask_61 : decode cX10_ask 61 = .ok (.iload_n 1, 1) := by decide +kernel
theorem dX10_ask_62 : decode cX10_ask 62 = .ok (.dup2, 1) := by decide +kernel
theorem dX10_ask_63 : decode cX10_ask 63 = .ok (.iaload, 1) := by decide +kernel
theorem dX10_ask_64 : decode cX10_ask 64 = .ok (.iconst 1, 1) := by decide +kernel
theorem dX10_ask_65 : decode cX10_ask 65 = .ok (.iadd, 1) := by decide +kernel
theorem dX10_ask_66 : decode cX10_ask 66 = .ok (.iastore, 1) := by decide +kernel
theorem dX10_ask_67 : decode cX10_ask 67 = .ok (.aload_n 0, 1) := by decide +kernel
theorem dX10_ask_68 : decode cX10_ask 68 = .ok (.aload_n 0, 1) := by decide +kernel
theorem dX10_ask_69 : decode cX10_ask 69 = .ok (.getfield 71, 3) := by decide +kernel
theorem dX10_ask_72 : decode cX10_ask 72 = .ok (.iconst 2, 1) := by decide +kernel
theorem dX10_ask_73 : decode cX10_ask 73 = .ok (.iload_n 1, 1) := by decide +kernel
theorem dX10_ask_74 : decode cX10_ask 74 = .ok (.imul, 1) := by decide +kernel
theorem dX10_ask_75 : decode cX10_ask 75 = .ok (.iaload, 1) := by decide +kernel
theorem dX10_ask_76 : decode cX10_ask 76 = .ok (.iload_n 1, 1) := by decide +kernel
theorem dX10_ask_77 : decode cX10_ask 77 = .ok (.aload_n 0, 1) := by decide +kernel
theorem dX10_ask_78 : decode cX10_ask 78 = .ok (.getfield 7, 3) := by decide +kernel
theorem dX10_ask_81 : decode cX10_ask 81 = .ok (.iload_n 1, 1) := by decide +kernel
theorem dX10_ask_82 : decode cX10_ask 82 = .ok (.iaload, 1) := by decide +kernel
theorem dX10_ask_83 : decode cX10_ask 83 = .ok (.aload_n 0, 1) := by decide +kernel
theorem dX10_ask_84 : decode cX10_ask 84 = .ok (.getfield 74, 3) := by decide +kernel
theorem dX10_ask_87 : decode cX10_ask 87 = .ok (.iload_n 1, 1) := by decide +kernel
theorem dX10_ask_88 : decode cX10_ask 88 = .ok (.iaload, 1) := by decide +kernel
theorem dX10_ask_89 : decode cX10_ask 89 = .ok (.invokevirtual 123, 3) := by decide +kernel
theorem dX10_ask_92 : decode cX10_ask 92 = .ok (.ireturn, 1) := by decide +kernel
theorem dX10_receive_0 : decode cX10_receive 0 = .ok (.aload_n 0, 1) := by decide +kernel
theorem dX10_receive_1 : decode cX10_receive 1 = .ok (.iload_n 1, 1) := by decide +kernel
theorem dX10_receive_2 : decode cX10_receive 2 = .ok (.invokevirtual 112, 3) := by decide +kernel
theorem dX10_receive_5 : decode cX10_receive 5 = .ok (.ifCond .eq 26, 3) := by decide +kernel
theorem dX10_receive_8 : decode cX10_receive 8 = .ok (.aload_n 0, 1) := by decide +kernel
theorem dX10_receive_9 : decode cX10_receive 9 = .ok (.getfield 59, 3) := by decide +kernel
theorem dX10_receive_12 : decode cX10_receive 12 = .ok (.iload_n 1, 1) := by decide +kernel
theorem dX10_receive_13 : decode cX10_receive 13 = .ok (.iaload, 1) := by decide +kernel
theorem dX10_receive_14 : decode cX10_receive 14 = .ok (.ifCond .eq 17, 3) := by decide +kernel
theorem dX10_receive_17 : decode cX10_receive 17 = .ok (.iload_n 3, 1) := by decide +kernel
theorem dX10_receive_18 : decode cX10_receive 18 = .ok (.iconst 0, 1) := by decide +kernel
theorem dX10_receive_19 : decode cX10_receive 19 = .ok (.aload_n 0, 1) := by decide +kernel
theorem dX10_receive_20 : decode cX10_receive 20 = .ok (.getfield 102, 3) := by decide +kernel
theorem dX10_receive_23 : decode cX10_receive 23 = .ok (.iconst 1, 1) := by decide +kernel
theorem dX10_receive_24 : decode cX10_receive 24 = .ok (.isub, 1) := by decide +kernel
theorem dX10_receive_25 : decode cX10_receive 25 = .ok (.invokestatic 87, 3) := by decide +kernel
theorem dX10_receive_28 : decode cX10_receive 28 = .ok (.ifCond .ne 5, 3) := by decide +kernel
theorem dX10_receive_31 : decode cX10_receive 31 = .ok (.iconst 0, 1) := by decide +kernel
theorem dX10_receive_32 : decode cX10_receive 32 = .ok (.ireturn, 1) := by decide +kernel
theorem dX10_receive_33 : decode cX10_receive 33 = .ok (.aload_n 0, 1) := by decide +kernel
theorem dX10_receive_34 : decode cX10_receive 34 = .ok (.aload_n 0, 1) := by decide +kernel
theorem dX10_receive_35 : decode cX10_receive 35 = .ok (.getfield 65, 3) := by decide +kernel
theorem dX10_receive_38 : decode cX10_receive 38 = .ok (.iload_n 1, 1) := by decide +kernel
theorem dX10_receive_39 : decode cX10_receive 39 = .ok (.iaload, 1) := by decide +kernel
theorem dX10_receive_40 : decode cX10_receive 40 = .ok (.iload_n 2, 1) := by decide +kernel
theorem dX10_receive_41 : decode cX10_receive 41 = .ok (.iconst 3, 1) := by decide +kernel
theorem dX10_receive_42 : decode cX10_receive 42 = .ok (.invokevirtual 126, 3) := by decide +kernel
theorem dX10_receive_45 : decode cX10_receive 45 = .ok (.ifCond .eq 33, 3) := by decide +kernel
theorem dX10_receive_48 : decode cX10_receive 48 = .ok (.aload_n 0, 1) := by decide +kernel
theorem dX10_receive_49 : decode cX10_receive 49 = .ok (.getfield 41, 3) := by decide +kernel
theorem dX10_receive_52 : decode cX10_receive 52 = .ok (.iload_n 2, 1) := by decide +kernel
theorem dX10_receive_53 : decode cX10_receive 53 = .ok (.iaload, 1) := by decide +kernel
theorem dX10_receive_54 : decode cX10_receive 54 = .ok (.aload_n 0, 1) := by decide +kernel
theorem dX10_receive_55 : decode cX10_receive 55 = .ok (.getfield 59, 3) := by decide +kernel
theorem dX10_receive_58 : decode cX10_receive 58 = .ok (.iload_n 1, 1) := by decide +kernel
theorem dX10_receive_59 : decode cX10_receive 59 = .ok (.iaload, 1) := by decide +kernel
theorem dX10_receive_60 : decode cX10_receive 60 = .ok (.if_icmp .ne 18, 3) := by decide +kernel
theorem dX10_receive_63 : decode cX10_receive 63 = .ok (.aload_n 0, 1) := by decide +kernel
theorem dX10_receive_64 : decode cX10_receive 64 = .ok (.getfield 44, 3) := by decide +kernel
theorem dX10_receive_67 : decode cX10_receive 67 = .ok (.iload_n 2, 1) := by decide +kernel
theorem dX10_receive_68 : decode cX10_receive 68 = .ok (.iaload, 1) := by decide +kernel
theorem dX10_receive_69 : decode cX10_receive 69 = .ok (.aload_n 0, 1) := by decide +kernel
theorem dX10_receive_70 : decode cX10_receive 70 = .ok (.getfield 62, 3) := by decide +kernel
theorem dX10_receive_73 : decode cX10_receive 73 = .ok (.iload_n 1, 1) := by decide +kernel
theorem dX10_receive_74 : decode cX10_receive 74 = .ok (.iaload, 1) := by decide +kernel
theorem dX10_receive_75 : decode cX10_receive 75 = .ok (.if_icmp .eq 5, 3) := by decide +kernel
theorem dX10_receive_78 : decode cX10_receive 78 = .ok (.iconst 0, 1) := by decide +kernel
theorem dX10_receive_79 : decode cX10_receive 79 = .ok (.ireturn, 1) := by decide +kernel
theorem dX10_receive_80 : decode cX10_receive 80 = .ok (.aload_n 0, 1) := by decide +kernel
theorem dX10_receive_81 : decode cX10_receive 81 = .ok (.getfield 68, 3) := by decide +kernel
theorem dX10_receive_84 : decode cX10_receive 84 = .ok (.iconst 2, 1) := by decide +kernel
theorem dX10_receive_85 : decode cX10_receive 85 = .ok (.iload_n 1, 1) := by decide +kernel
theorem dX10_receive_86 : decode cX10_receive 86 = .ok (.imul, 1) := by decide +kernel
theorem dX10_receive_87 : decode cX10_receive 87 = .ok (.aload_n 0, 1) := by decide +kernel
theorem dX10_receive_88 : decode cX10_receive 88 = .ok (.getfield 62, 3) := by decide +kernel
theorem dX10_receive_91 : decode cX10_receive 91 = .ok (.iload_n 1, 1) := by decide +kernel
theorem dX10_receive_92 : decode cX10_receive 92 = .ok (.iaload, 1) := by decide +kernel
theorem dX10_receive_93 : decode cX10_receive 93 = .ok (.iadd, 1) := by decide +kernel
theorem dX10_receive_94 : decode cX10_receive 94 = .ok (.iload_n 3, 1) := by decide +kernel
theorem dX10_receive_95 : decode cX10_receive 95 = .ok (.iastore, 1) := by decide +kernel
theorem dX10_receive_96 : decode cX10_receive 96 = .ok (.aload_n 0, 1) := by decide +kernel
theorem dX10_receive_97 : decode cX10_receive 97 = .ok (.getfield 71, 3) := by decide +kernel
theorem dX10_receive_100 : decode cX10_receive 100 = .ok (.iconst 2, 1) := by decide +kernel
theorem dX10_receive_101 : decode cX10_receive 101 = .ok (.iload_n 1, 1) := by decide +kernel
theorem dX10_receive_102 : decode cX10_receive 102 = .ok (.imul, 1) := by decide +kernel
theorem dX10_receive_103 : decode cX10_receive 103 = .ok (.aload_n 0, 1) := by decide +kernel
theorem dX10_receive_104 : decode cX10_receive 104 = .ok (.getfield 62, 3) := by decide +kernel
theorem dX10_receive_107 : decode cX10_receive 107 = .ok (.iload_n 1, 1) := by decide +kernel
theorem dX10_receive_108 : decode cX10_receive 108 = .ok (.iaload, 1) := by decide +kernel
theorem dX10_receive_109 : decode cX10_receive 109 = .ok (.iadd, 1) := by decide +kernel
theorem dX10_receive_110 : decode cX10_receive 110 = .ok (.aload_n 0, 1) := by decide +kernel
theorem dX10_receive_111 : decode cX10_receive 111 = .ok (.getfield 38, 3) := by decide +kernel
theorem dX10_receive_114 : decode cX10_receive 114 = .ok (.iload_n 2, 1) := by decide +kernel
theorem dX10_receive_115 : decode cX10_receive 115 = .ok (.iaload, 1) := by decide +kernel
theorem dX10_receive_116 : decode cX10_receive 116 = .ok (.iastore, 1) := by decide +kernel
theorem dX10_receive_117 : decode cX10_receive 117 = .ok (.aload_n 0, 1) := by decide +kernel
theorem dX10_receive_118 : decode cX10_receive 118 = .ok (.getfield 59, 3) := by decide +kernel
theorem dX10_receive_121 : decode cX10_receive 121 = .ok (.iload_n 1, 1) := by decide +kernel
theorem dX10_receive_122 : decode cX10_receive 122 = .ok (.iconst 0, 1) := by decide +kernel
theorem dX10_receive_123 : decode cX10_receive 123 = .ok (.iastore, 1) := by decide +kernel
theorem dX10_receive_124 : decode cX10_receive 124 = .ok (.iconst 1, 1) := by decide +kernel
theorem dX10_receive_125 : decode cX10_receive 125 = .ok (.ireturn, 1) := by decide +kernel
theorem dX10_order_0 : decode cX10_order 0 = .ok (.aload_n 0, 1) := by decide +kernel
theorem dX10_order_1 : decode cX10_order 1 = .ok (.iload_n 1, 1) := by decide +kernel
theorem dX10_order_2 : decode cX10_order 2 = .ok (.invokevirtual 112, 3) := by decide +kernel
theorem dX10_order_5 : decode cX10_order 5 = .ok (.ifCond .eq 34, 3) := by decide +kernel
theorem dX10_order_8 : decode cX10_order 8 = .ok (.aload_n 0, 1) := by decide +kernel
theorem dX10_order_9 : decode cX10_order 9 = .ok (.getfield 68, 3) := by decide +kernel
theorem dX10_order_12 : decode cX10_order 12 = .ok (.iconst 2, 1) := by decide +kernel
theorem dX10_order_13 : decode cX10_order 13 = .ok (.iload_n 1, 1) := by decide +kernel
theorem dX10_order_14 : decode cX10_order 14 = .ok (.imul, 1) := by decide +kernel
theorem dX10_order_15 : decode cX10_order 15 = .ok (.iconst 1, 1) := by decide +kernel
theorem dX10_order_16 : decode cX10_order 16 = .ok (.iadd, 1) := by decide +kernel
theorem dX10_order_17 : decode cX10_order 17 = .ok (.iaload, 1) := by decide +kernel
theorem dX10_order_18 : decode cX10_order 18 = .ok (.ifCond .lt 21, 3) := by decide +kernel
theorem dX10_order_21 : decode cX10_order 21 = .ok (.iload_n 2, 1) := by decide +kernel
theorem dX10_order_22 : decode cX10_order 22 = .ok (.iconst 1, 1) := by decide +kernel
theorem dX10_order_23 : decode cX10_order 23 = .ok (.iconst 3, 1) := by decide +kernel
theorem dX10_order_24 : decode cX10_order 24 = .ok (.invokestatic 87, 3) := by decide +kernel
theorem dX10_order_27 : decode cX10_order 27 = .ok (.ifCond .eq 12, 3) := by decide +kernel
theorem dX10_order_30 : decode cX10_order 30 = .ok (.iload_n 3, 1) := by decide +kernel
theorem dX10_order_31 : decode cX10_order 31 = .ok (.iconst 0, 1) := by decide +kernel
theorem dX10_order_32 : decode cX10_order 32 = .ok (.iconst 2, 1) := by decide +kernel
theorem dX10_order_33 : decode cX10_order 33 = .ok (.invokestatic 87, 3) := by decide +kernel
theorem dX10_order_36 : decode cX10_order 36 = .ok (.ifCond .ne 5, 3) := by decide +kernel
theorem dX10_order_39 : decode cX10_order 39 = .ok (.iconst (-1), 1) := by decide +kernel
theorem dX10_order_40 : decode cX10_order 40 = .ok (.ireturn, 1) := by decide +kernel
theorem dX10_order_41 : decode cX10_order 41 = .ok (.aload_n 0, 1) := by decide +kernel
theorem dX10_order_42 : decode cX10_order 42 = .ok (.getfield 102, 3) := by decide +kernel
theorem dX10_order_45 : decode cX10_order 45 = .ok (.sipush 150, 3) := by decide +kernel
theorem dX10_order_48 : decode cX10_order 48 = .ok (.if_icmp .lt 6, 3) := by decide +kernel
theorem dX10_order_51 : decode cX10_order 51 = .ok (.bipush (-7), 2) := by decide +kernel
theorem dX10_order_53 : decode cX10_order 53 = .ok (.ireturn, 1) := by decide +kernel
theorem dX10_order_54 : decode cX10_order 54 = .ok (.aload_n 0, 1) := by decide +kernel
theorem dX10_order_55 : decode cX10_order 55 = .ok (.getfield 74, 3) := by decide +kernel
theorem dX10_order_58 : decode cX10_order 58 = .ok (.iload_n 1, 1) := by decide +kernel
theorem dX10_order_59 : decode cX10_order 59 = .ok (.dup2, 1) := by decide +kernel
theorem dX10_order_60 : decode cX10_order 60 = .ok (.iaload, 1) := by decide +kernel
theorem dX10_order_61 : decode cX10_order 61 = .ok (.iconst 1, 1) := by decide +kernel
theorem dX10_order_62 : decode cX10_order 62 = .ok (.iadd, 1) := by decide +kernel
theorem dX10_order_63 : decode cX10_order 63 = .ok (.iastore, 1) := by decide +kernel
theorem dX10_order_64 : decode cX10_order 64 = .ok (.aload_n 0, 1) := by decide +kernel
theorem dX10_order_65 : decode cX10_order 65 = .ok (.aload_n 0, 1) := by decide +kernel
theorem dX10_order_66 : decode cX10_order 66 = .ok (.getfield 71, 3) := by decide +kernel
theorem dX10_order_69 : decode cX10_order 69 = .ok (.iconst 2, 1) := by decide +kernel
theorem dX10_order_70 : decode cX10_order 70 = .ok (.iload_n 1, 1) := by decide +kernel
theorem dX10_order_71 : decode cX10_order 71 = .ok (.imul, 1) := by decide +kernel
theorem dX10_order_72 : decode cX10_order 72 = .ok (.iconst 1, 1) := by decide +kernel
theorem dX10_order_73 : decode cX10_order 73 = .ok (.iadd, 1) := by decide +kernel
theorem dX10_order_74 : decode cX10_order 74 = .ok (.iaload, 1) := by decide +kernel
theorem dX10_order_75 : decode cX10_order 75 = .ok (.iload_n 1, 1) := by decide +kernel
theorem dX10_order_76 : decode cX10_order 76 = .ok (.aload_n 0, 1) := by decide +kernel
theorem dX10_order_77 : decode cX10_order 77 = .ok (.getfield 7, 3) := by decide +kernel
theorem dX10_order_80 : decode cX10_order 80 = .ok (.iload_n 1, 1) := by decide +kernel
theorem dX10_order_81 : decode cX10_order 81 = .ok (.iaload, 1) := by decide +kernel
theorem dX10_order_82 : decode cX10_order 82 = .ok (.aload_n 0, 1) := by decide +kernel
theorem dX10_order_83 : decode cX10_order 83 = .ok (.getfield 74, 3) := by decide +kernel
theorem dX10_order_86 : decode cX10_order 86 = .ok (.iload_n 1, 1) := by decide +kernel
theorem dX10_order_87 : decode cX10_order 87 = .ok (.iaload, 1) := by decide +kernel
theorem dX10_order_88 : decode cX10_order 88 = .ok (.invokevirtual 123, 3) := by decide +kernel
theorem dX10_order_91 : decode cX10_order 91 = .ok (.istore 5, 2) := by decide +kernel
theorem dX10_order_93 : decode cX10_order 93 = .ok (.aload_n 0, 1) := by decide +kernel
theorem dX10_order_94 : decode cX10_order 94 = .ok (.getfield 50, 3) := by decide +kernel
theorem dX10_order_97 : decode cX10_order 97 = .ok (.iload 5, 2) := by decide +kernel
theorem dX10_order_99 : decode cX10_order 99 = .ok (.iload_n 2, 1) := by decide +kernel
theorem dX10_order_100 : decode cX10_order 100 = .ok (.iastore, 1) := by decide +kernel
theorem dX10_order_101 : decode cX10_order 101 = .ok (.aload_n 0, 1) := by decide +kernel
theorem dX10_order_102 : decode cX10_order 102 = .ok (.getfield 53, 3) := by decide +kernel
theorem dX10_order_105 : decode cX10_order 105 = .ok (.iload 5, 2) := by decide +kernel
theorem dX10_order_107 : decode cX10_order 107 = .ok (.iload_n 3, 1) := by decide +kernel
theorem dX10_order_108 : decode cX10_order 108 = .ok (.iastore, 1) := by decide +kernel
theorem dX10_order_109 : decode cX10_order 109 = .ok (.aload_n 0, 1) := by decide +kernel
theorem dX10_order_110 : decode cX10_order 110 = .ok (.getfield 56, 3) := by decide +kernel
theorem dX10_order_113 : decode cX10_order 113 = .ok (.iload 5, 2) := by decide +kernel
theorem dX10_order_115 : decode cX10_order 115 = .ok (.iload 4, 2) := by decide +kernel
theorem dX10_order_117 : decode cX10_order 117 = .ok (.iastore, 1) := by decide +kernel
theorem dX10_order_118 : decode cX10_order 118 = .ok (.iload 5, 2) := by decide +kernel
theorem dX10_order_120 : decode cX10_order 120 = .ok (.ireturn, 1) := by decide +kernel
theorem dX10_least_0 : decode cX10_least 0 = .ok (.iload_n 0, 1) := by decide +kernel
theorem dX10_least_1 : decode cX10_least 1 = .ok (.iload_n 1, 1) := by decide +kernel
theorem dX10_least_2 : decode cX10_least 2 = .ok (.if_icmp .ge 7, 3) := by decide +kernel
theorem dX10_least_5 : decode cX10_least 5 = .ok (.iload_n 0, 1) := by decide +kernel
theorem dX10_least_6 : decode cX10_least 6 = .ok (.goto 4, 3) := by decide +kernel
theorem dX10_least_9 : decode cX10_least 9 = .ok (.iload_n 1, 1) := by decide +kernel
theorem dX10_least_10 : decode cX10_least 10 = .ok (.ireturn, 1) := by decide +kernel
theorem dX10_bothSeals_0 : decode cX10_bothSeals 0 = .ok (.aload_n 0, 1) := by decide +kernel
theorem dX10_bothSeals_1 : decode cX10_bothSeals 1 = .ok (.aload_n 0, 1) := by decide +kernel
theorem dX10_bothSeals_2 : decode cX10_bothSeals 2 = .ok (.getfield 20, 3) := by decide +kernel
theorem dX10_bothSeals_5 : decode cX10_bothSeals 5 = .ok (.iload_n 2, 1) := by decide +kernel
theorem dX10_bothSeals_6 : decode cX10_bothSeals 6 = .ok (.iaload, 1) := by decide +kernel
theorem dX10_bothSeals_7 : decode cX10_bothSeals 7 = .ok (.iload_n 1, 1) := by decide +kernel
theorem dX10_bothSeals_8 : decode cX10_bothSeals 8 = .ok (.aload_n 0, 1) := by decide +kernel
theorem dX10_bothSeals_9 : decode cX10_bothSeals 9 = .ok (.getfield 91, 3) := by decide +kernel
theorem dX10_bothSeals_12 : decode cX10_bothSeals 12 = .ok (.aload_n 0, 1) := by decide +kernel
theorem dX10_bothSeals_13 : decode cX10_bothSeals 13 = .ok (.getfield 7, 3) := by decide +kernel
theorem dX10_bothSeals_16 : decode cX10_bothSeals 16 = .ok (.iconst 0, 1) := by decide +kernel
theorem dX10_bothSeals_17 : decode cX10_bothSeals 17 = .ok (.iaload, 1) := by decide +kernel
theorem dX10_bothSeals_18 : decode cX10_bothSeals 18 = .ok (.iload 4, 2) := by decide +kernel
theorem dX10_bothSeals_20 : decode cX10_bothSeals 20 = .ok (.iload 5, 2) := by decide +kernel
theorem dX10_bothSeals_22 : decode cX10_bothSeals 22 = .ok (.invokevirtual 129, 3) := by decide +kernel
theorem dX10_bothSeals_25 : decode cX10_bothSeals 25 = .ok (.pop, 1) := by decide +kernel
theorem dX10_bothSeals_26 : decode cX10_bothSeals 26 = .ok (.aload_n 0, 1) := by decide +kernel
theorem dX10_bothSeals_27 : decode cX10_bothSeals 27 = .ok (.iload 6, 2) := by decide +kernel
theorem dX10_bothSeals_29 : decode cX10_bothSeals 29 = .ok (.aload_n 0, 1) := by decide +kernel
theorem dX10_bothSeals_30 : decode cX10_bothSeals 30 = .ok (.getfield 91, 3) := by decide +kernel
theorem dX10_bothSeals_33 : decode cX10_bothSeals 33 = .ok (.iload_n 3, 1) := by decide +kernel
theorem dX10_bothSeals_34 : decode cX10_bothSeals 34 = .ok (.iload_n 2, 1) := by decide +kernel
theorem dX10_bothSeals_35 : decode cX10_bothSeals 35 = .ok (.iload 4, 2) := by decide +kernel
theorem dX10_bothSeals_37 : decode cX10_bothSeals 37 = .ok (.invokevirtual 133, 3) := by decide +kernel
theorem dX10_bothSeals_40 : decode cX10_bothSeals 40 = .ok (.istore 7, 2) := by decide +kernel
theorem dX10_bothSeals_42 : decode cX10_bothSeals 42 = .ok (.aload_n 0, 1) := by decide +kernel
theorem dX10_bothSeals_43 : decode cX10_bothSeals 43 = .ok (.dup, 1) := by decide +kernel
theorem dX10_bothSeals_44 : decode cX10_bothSeals 44 = .ok (.getfield 91, 3) := by decide +kernel
theorem dX10_bothSeals_47 : decode cX10_bothSeals 47 = .ok (.iconst 1, 1) := by decide +kernel
theorem dX10_bothSeals_48 : decode cX10_bothSeals 48 = .ok (.iadd, 1) := by decide +kernel
theorem dX10_bothSeals_49 : decode cX10_bothSeals 49 = .ok (.putfield 91, 3) := by decide +kernel
theorem dX10_bothSeals_52 : decode cX10_bothSeals 52 = .ok (.iload 7, 2) := by decide +kernel
theorem dX10_bothSeals_54 : decode cX10_bothSeals 54 = .ok (.iconst 1, 1) := by decide +kernel
theorem dX10_bothSeals_55 : decode cX10_bothSeals 55 = .ok (.isub, 1) := by decide +kernel
theorem dX10_bothSeals_56 : decode cX10_bothSeals 56 = .ok (.ireturn, 1) := by decide +kernel
theorem dX10_issue_0 : decode cX10_issue 0 = .ok (.aload_n 0, 1) := by decide +kernel
theorem dX10_issue_1 : decode cX10_issue 1 = .ok (.iload_n 1, 1) := by decide +kernel
theorem dX10_issue_2 : decode cX10_issue 2 = .ok (.invokevirtual 112, 3) := by decide +kernel
theorem dX10_issue_5 : decode cX10_issue 5 = .ok (.ifCond .eq 34, 3) := by decide +kernel
theorem dX10_issue_8 : decode cX10_issue 8 = .ok (.aload_n 0, 1) := by decide +kernel
theorem dX10_issue_9 : decode cX10_issue 9 = .ok (.iload_n 1, 1) := by decide +kernel
theorem dX10_issue_10 : decode cX10_issue 10 = .ok (.invokevirtual 94, 3) := by decide +kernel
theorem dX10_issue_13 : decode cX10_issue 13 = .ok (.ifCond .eq 26, 3) := by decide +kernel
theorem dX10_issue_16 : decode cX10_issue 16 = .ok (.iload_n 2, 1) := by decide +kernel
theorem dX10_issue_17 : decode cX10_issue 17 = .ok (.iconst 0, 1) := by decide +kernel
theorem dX10_issue_18 : decode cX10_issue 18 = .ok (.iconst 1, 1) := by decide +kernel
theorem dX10_issue_19 : decode cX10_issue 19 = .ok (.invokestatic 87, 3) := by decide +kernel
theorem dX10_issue_22 : decode cX10_issue 22 = .ok (.ifCond .eq 17, 3) := by decide +kernel
theorem dX10_issue_25 : decode cX10_issue 25 = .ok (.aload_n 0, 1) := by decide +kernel
theorem dX10_issue_26 : decode cX10_issue 26 = .ok (.iload_n 2, 1) := by decide +kernel
theorem dX10_issue_27 : decode cX10_issue 27 = .ok (.invokevirtual 94, 3) := by decide +kernel
theorem dX10_issue_30 : decode cX10_issue 30 = .ok (.ifCond .eq 9, 3) := by decide +kernel
theorem dX10_issue_33 : decode cX10_issue 33 = .ok (.iload 5, 2) := by decide +kernel
theorem dX10_issue_35 : decode cX10_issue 35 = .ok (.iconst 1, 1) := by decide +kernel
theorem dX10_issue_36 : decode cX10_issue 36 = .ok (.if_icmp .ge 5, 3) := by decide +kernel
theorem dX10_issue_39 : decode cX10_issue 39 = .ok (.iconst (-1), 1) := by decide +kernel
theorem dX10_issue_40 : decode cX10_issue 40 = .ok (.ireturn, 1) := by decide +kernel
theorem dX10_issue_41 : decode cX10_issue 41 = .ok (.aload_n 0, 1) := by decide +kernel
theorem dX10_issue_42 : decode cX10_issue 42 = .ok (.aload_n 0, 1) := by decide +kernel
theorem dX10_issue_43 : decode cX10_issue 43 = .ok (.getfield 20, 3) := by decide +kernel
theorem dX10_issue_46 : decode cX10_issue 46 = .ok (.iload_n 1, 1) := by decide +kernel
theorem dX10_issue_47 : decode cX10_issue 47 = .ok (.iaload, 1) := by decide +kernel
theorem dX10_issue_48 : decode cX10_issue 48 = .ok (.iload 4, 2) := by decide +kernel
theorem dX10_issue_50 : decode cX10_issue 50 = .ok (.iconst 1, 1) := by decide +kernel
theorem dX10_issue_51 : decode cX10_issue 51 = .ok (.invokevirtual 126, 3) := by decide +kernel
theorem dX10_issue_54 : decode cX10_issue 54 = .ok (.ifCond .ne 6, 3) := by decide +kernel
theorem dX10_issue_57 : decode cX10_issue 57 = .ok (.bipush (-2), 2) := by decide +kernel
theorem dX10_issue_59 : decode cX10_issue 59 = .ok (.ireturn, 1) := by decide +kernel
theorem dX10_issue_60 : decode cX10_issue 60 = .ok (.aload_n 0, 1) := by decide +kernel
theorem dX10_issue_61 : decode cX10_issue 61 = .ok (.getfield 35, 3) := by decide +kernel
theorem dX10_issue_64 : decode cX10_issue 64 = .ok (.iload 4, 2) := by decide +kernel
theorem dX10_issue_66 : decode cX10_issue 66 = .ok (.iaload, 1) := by decide +kernel
theorem dX10_issue_67 : decode cX10_issue 67 = .ok (.iload_n 1, 1) := by decide +kernel
theorem dX10_issue_68 : decode cX10_issue 68 = .ok (.if_icmp .eq 6, 3) := by decide +kernel
theorem dX10_issue_71 : decode cX10_issue 71 = .ok (.bipush (-3), 2) := by decide +kernel
theorem dX10_issue_73 : decode cX10_issue 73 = .ok (.ireturn, 1) := by decide +kernel
theorem dX10_issue_74 : decode cX10_issue 74 = .ok (.aload_n 0, 1) := by decide +kernel
theorem dX10_issue_75 : decode cX10_issue 75 = .ok (.aload_n 0, 1) := by decide +kernel
theorem dX10_issue_76 : decode cX10_issue 76 = .ok (.getfield 41, 3) := by decide +kernel
theorem dX10_issue_79 : decode cX10_issue 79 = .ok (.iload 4, 2) := by decide +kernel
theorem dX10_issue_81 : decode cX10_issue 81 = .ok (.iaload, 1) := by decide +kernel
theorem dX10_issue_82 : decode cX10_issue 82 = .ok (.aload_n 0, 1) := by decide +kernel
theorem dX10_issue_83 : decode cX10_issue 83 = .ok (.getfield 7, 3) := by decide +kernel
theorem dX10_issue_86 : decode cX10_issue 86 = .ok (.iconst 0, 1) := by decide +kernel
theorem dX10_issue_87 : decode cX10_issue 87 = .ok (.iaload, 1) := by decide +kernel
theorem dX10_issue_88 : decode cX10_issue 88 = .ok (.invokevirtual 137, 3) := by decide +kernel
theorem dX10_issue_91 : decode cX10_issue 91 = .ok (.ifCond .ne 6, 3) := by decide +kernel
theorem dX10_issue_94 : decode cX10_issue 94 = .ok (.bipush (-4), 2) := by decide +kernel
theorem dX10_issue_96 : decode cX10_issue 96 = .ok (.ireturn, 1) := by decide +kernel
theorem dX10_issue_97 : decode cX10_issue 97 = .ok (.aload_n 0, 1) := by decide +kernel
theorem dX10_issue_98 : decode cX10_issue 98 = .ok (.getfield 91, 3) := by decide +kernel
theorem dX10_issue_101 : decode cX10_issue 101 = .ok (.sipush 200, 3) := by decide +kernel
theorem dX10_issue_104 : decode cX10_issue 104 = .ok (.if_icmp .ge 13, 3) := by decide +kernel
theorem dX10_issue_107 : decode cX10_issue 107 = .ok (.aload_n 0, 1) := by decide +kernel
theorem dX10_issue_108 : decode cX10_issue 108 = .ok (.getfield 102, 3) := by decide +kernel
theorem dX10_issue_111 : decode cX10_issue 111 = .ok (.sipush 148, 3) := by decide +kernel
theorem dX10_issue_114 : decode cX10_issue 114 = .ok (.if_icmp .le 6, 3) := by decide +kernel
theorem dX10_issue_117 : decode cX10_issue 117 = .ok (.bipush (-7), 2) := by decide +kernel
theorem dX10_issue_119 : decode cX10_issue 119 = .ok (.ireturn, 1) := by decide +kernel
theorem dX10_issue_120 : decode cX10_issue 120 = .ok (.iload 5, 2) := by decide +kernel
theorem dX10_issue_122 : decode cX10_issue 122 = .ok (.aload_n 0, 1) := by decide +kernel
theorem dX10_issue_123 : decode cX10_issue 123 = .ok (.getfield 23, 3) := by decide +kernel
theorem dX10_issue_126 : decode cX10_issue 126 = .ok (.iload_n 1, 1) := by decide +kernel
theorem dX10_issue_127 : decode cX10_issue 127 = .ok (.iaload, 1) := by decide +kernel
theorem dX10_issue_128 : decode cX10_issue 128 = .ok (.invokestatic 141, 3) := by decide +kernel
theorem dX10_issue_131 : decode cX10_issue 131 = .ok (.aload_n 0, 1) := by decide +kernel
theorem dX10_issue_132 : decode cX10_issue 132 = .ok (.getfield 23, 3) := by decide +kernel
theorem dX10_issue_135 : decode cX10_issue 135 = .ok (.iload_n 2, 1) := by decide +kernel
theorem dX10_issue_136 : decode cX10_issue 136 = .ok (.iaload, 1) := by decide +kernel
theorem dX10_issue_137 : decode cX10_issue 137 = .ok (.invokestatic 141, 3) := by decide +kernel
theorem dX10_issue_140 : decode cX10_issue 140 = .ok (.istore 6, 2) := by decide +kernel
theorem dX10_issue_142 : decode cX10_issue 142 = .ok (.aload_n 0, 1) := by decide +kernel
theorem dX10_issue_143 : decode cX10_issue 143 = .ok (.getfield 7, 3) := by decide +kernel
theorem dX10_issue_146 : decode cX10_issue 146 = .ok (.iconst 0, 1) := by decide +kernel
theorem dX10_issue_147 : decode cX10_issue 147 = .ok (.iaload, 1) := by decide +kernel
theorem dX10_issue_148 : decode cX10_issue 148 = .ok (.iload 6, 2) := by decide +kernel
theorem dX10_issue_150 : decode cX10_issue 150 = .ok (.iadd, 1) := by decide +kernel
theorem dX10_issue_151 : decode cX10_issue 151 = .ok (.istore 7, 2) := by decide +kernel
theorem dX10_issue_153 : decode cX10_issue 153 = .ok (.aload_n 0, 1) := by decide +kernel
theorem dX10_issue_154 : decode cX10_issue 154 = .ok (.iload_n 1, 1) := by decide +kernel
theorem dX10_issue_155 : decode cX10_issue 155 = .ok (.iload_n 2, 1) := by decide +kernel
theorem dX10_issue_156 : decode cX10_issue 156 = .ok (.iload_n 3, 1) := by decide +kernel
theorem dX10_issue_157 : decode cX10_issue 157 = .ok (.iload 7, 2) := by decide +kernel
theorem dX10_issue_159 : decode cX10_issue 159 = .ok (.iload_n 2, 1) := by decide +kernel
theorem dX10_issue_160 : decode cX10_issue 160 = .ok (.ifCond .ne 21, 3) := by decide +kernel
theorem dX10_issue_163 : decode cX10_issue 163 = .ok (.aload_n 0, 1) := by decide +kernel
theorem dX10_issue_164 : decode cX10_issue 164 = .ok (.getfield 7, 3) := by decide +kernel
theorem dX10_issue_167 : decode cX10_issue 167 = .ok (.iconst 0, 1) := by decide +kernel
theorem dX10_issue_168 : decode cX10_issue 168 = .ok (.iaload, 1) := by decide +kernel
theorem dX10_issue_169 : decode cX10_issue 169 = .ok (.iconst 5, 1) := by decide +kernel
theorem dX10_issue_170 : decode cX10_issue 170 = .ok (.aload_n 0, 1) := by decide +kernel
theorem dX10_issue_171 : decode cX10_issue 171 = .ok (.getfield 23, 3) := by decide +kernel
theorem dX10_issue_174 : decode cX10_issue 174 = .ok (.iload_n 1, 1) := by decide +kernel
theorem dX10_issue_175 : decode cX10_issue 175 = .ok (.iaload, 1) := by decide +kernel
theorem dX10_issue_176 : decode cX10_issue 176 = .ok (.imul, 1) := by decide +kernel
theorem dX10_issue_177 : decode cX10_issue 177 = .ok (.iadd, 1) := by decide +kernel
theorem dX10_issue_178 : decode cX10_issue 178 = .ok (.goto 5, 3) := by decide +kernel
theorem dX10_issue_181 : decode cX10_issue 181 = .ok (.iload 7, 2) := by decide +kernel
theorem dX10_issue_183 : decode cX10_issue 183 = .ok (.aload_n 0, 1) := by decide +kernel
theorem dX10_issue_184 : decode cX10_issue 184 = .ok (.getfield 20, 3) := by decide +kernel
theorem dX10_issue_187 : decode cX10_issue 187 = .ok (.iload_n 1, 1) := by decide +kernel
theorem dX10_issue_188 : decode cX10_issue 188 = .ok (.iaload, 1) := by decide +kernel
theorem dX10_issue_189 : decode cX10_issue 189 = .ok (.invokevirtual 144, 3) := by decide +kernel
theorem dX10_issue_192 : decode cX10_issue 192 = .ok (.ireturn, 1) := by decide +kernel
theorem dX10_grant_0 : decode cX10_grant 0 = .ok (.iload_n 3, 1) := by decide +kernel
theorem dX10_grant_1 : decode cX10_grant 1 = .ok (.iconst 0, 1) := by decide +kernel
theorem dX10_grant_2 : decode cX10_grant 2 = .ok (.iconst 1, 1) := by decide +kernel
theorem dX10_grant_3 : decode cX10_grant 3 = .ok (.invokestatic 87, 3) := by decide +kernel
theorem dX10_grant_6 : decode cX10_grant 6 = .ok (.ifCond .eq 25, 3) := by decide +kernel
theorem dX10_grant_9 : decode cX10_grant 9 = .ok (.aload_n 0, 1) := by decide +kernel
theorem dX10_grant_10 : decode cX10_grant 10 = .ok (.iload_n 3, 1) := by decide +kernel
theorem dX10_grant_11 : decode cX10_grant 11 = .ok (.invokevirtual 94, 3) := by decide +kernel
theorem dX10_grant_14 : decode cX10_grant 14 = .ok (.ifCond .eq 17, 3) := by decide +kernel
theorem dX10_grant_17 : decode cX10_grant 17 = .ok (.aload_n 0, 1) := by decide +kernel
theorem dX10_grant_18 : decode cX10_grant 18 = .ok (.iconst 0, 1) := by decide +kernel
theorem dX10_grant_19 : decode cX10_grant 19 = .ok (.invokevirtual 94, 3) := by decide +kernel
theorem dX10_grant_22 : decode cX10_grant 22 = .ok (.ifCond .eq 9, 3) := by decide +kernel
theorem dX10_grant_25 : decode cX10_grant 25 = .ok (.iload 5, 2) := by decide +kernel
theorem dX10_grant_27 : decode cX10_grant 27 = .ok (.iconst 1, 1) := by decide +kernel
theorem dX10_grant_28 : decode cX10_grant 28 = .ok (.if_icmp .ge 5, 3) := by decide +kernel
theorem dX10_grant_31 : decode cX10_grant 31 = .ok (.iconst (-1), 1) := by decide +kernel
theorem dX10_grant_32 : decode cX10_grant 32 = .ok (.ireturn, 1) := by decide +kernel
theorem dX10_grant_33 : decode cX10_grant 33 = .ok (.aload_n 0, 1) := by decide +kernel
theorem dX10_grant_34 : decode cX10_grant 34 = .ok (.aload_n 0, 1) := by decide +kernel
theorem dX10_grant_35 : decode cX10_grant 35 = .ok (.getfield 20, 3) := by decide +kernel
theorem dX10_grant_38 : decode cX10_grant 38 = .ok (.iconst 0, 1) := by decide +kernel
theorem dX10_grant_39 : decode cX10_grant 39 = .ok (.iaload, 1) := by decide +kernel
theorem dX10_grant_40 : decode cX10_grant 40 = .ok (.iload_n 1, 1) := by decide +kernel
theorem dX10_grant_41 : decode cX10_grant 41 = .ok (.iconst 2, 1) := by decide +kernel
theorem dX10_grant_42 : decode cX10_grant 42 = .ok (.invokevirtual 126, 3) := by decide +kernel
theorem dX10_grant_45 : decode cX10_grant 45 = .ok (.ifCond .ne 6, 3) := by decide +kernel
theorem dX10_grant_48 : decode cX10_grant 48 = .ok (.bipush (-2), 2) := by decide +kernel
theorem dX10_grant_50 : decode cX10_grant 50 = .ok (.ireturn, 1) := by decide +kernel
theorem dX10_grant_51 : decode cX10_grant 51 = .ok (.aload_n 0, 1) := by decide +kernel
theorem dX10_grant_52 : decode cX10_grant 52 = .ok (.aload_n 0, 1) := by decide +kernel
theorem dX10_grant_53 : decode cX10_grant 53 = .ok (.getfield 38, 3) := by decide +kernel
theorem dX10_grant_56 : decode cX10_grant 56 = .ok (.iload_n 1, 1) := by decide +kernel
theorem dX10_grant_57 : decode cX10_grant 57 = .ok (.iaload, 1) := by decide +kernel
theorem dX10_grant_58 : decode cX10_grant 58 = .ok (.iload_n 2, 1) := by decide +kernel
theorem dX10_grant_59 : decode cX10_grant 59 = .ok (.iconst 4, 1) := by decide +kernel
theorem dX10_grant_60 : decode cX10_grant 60 = .ok (.invokevirtual 126, 3) := by decide +kernel
theorem dX10_grant_63 : decode cX10_grant 63 = .ok (.ifCond .ne 6, 3) := by decide +kernel
theorem dX10_grant_66 : decode cX10_grant 66 = .ok (.bipush (-2), 2) := by decide +kernel
theorem dX10_grant_68 : decode cX10_grant 68 = .ok (.ireturn, 1) := by decide +kernel
theorem dX10_grant_69 : decode cX10_grant 69 = .ok (.aload_n 0, 1) := by decide +kernel
theorem dX10_grant_70 : decode cX10_grant 70 = .ok (.getfield 35, 3) := by decide +kernel
theorem dX10_grant_73 : decode cX10_grant 73 = .ok (.iload_n 1, 1) := by decide +kernel
theorem dX10_grant_74 : decode cX10_grant 74 = .ok (.iaload, 1) := by decide +kernel
theorem dX10_grant_75 : decode cX10_grant 75 = .ok (.istore 6, 2) := by decide +kernel
theorem dX10_grant_77 : decode cX10_grant 77 = .ok (.aload_n 0, 1) := by decide +kernel
theorem dX10_grant_78 : decode cX10_grant 78 = .ok (.getfield 35, 3) := by decide +kernel
theorem dX10_grant_81 : decode cX10_grant 81 = .ok (.iload_n 2, 1) := by decide +kernel
theorem dX10_grant_82 : decode cX10_grant 82 = .ok (.iaload, 1) := by decide +kernel
theorem dX10_grant_83 : decode cX10_grant 83 = .ok (.iload 6, 2) := by decide +kernel
theorem dX10_grant_85 : decode cX10_grant 85 = .ok (.if_icmp .ne 30, 3) := by decide +kernel
theorem dX10_grant_88 : decode cX10_grant 88 = .ok (.aload_n 0, 1) := by decide +kernel
theorem dX10_grant_89 : decode cX10_grant 89 = .ok (.getfield 50, 3) := by decide +kernel
theorem dX10_grant_92 : decode cX10_grant 92 = .ok (.iload_n 2, 1) := by decide +kernel
theorem dX10_grant_93 : decode cX10_grant 93 = .ok (.iaload, 1) := by decide +kernel
theorem dX10_grant_94 : decode cX10_grant 94 = .ok (.ifCond .ne 21, 3) := by decide +kernel
theorem dX10_grant_97 : decode cX10_grant 97 = .ok (.aload_n 0, 1) := by decide +kernel
theorem dX10_grant_98 : decode cX10_grant 98 = .ok (.iload 6, 2) := by decide +kernel
theorem dX10_grant_100 : decode cX10_grant 100 = .ok (.invokevirtual 112, 3) := by decide +kernel
theorem dX10_grant_103 : decode cX10_grant 103 = .ok (.ifCond .eq 12, 3) := by decide +kernel
theorem dX10_grant_106 : decode cX10_grant 106 = .ok (.aload_n 0, 1) := by decide +kernel
theorem dX10_grant_107 : decode cX10_grant 107 = .ok (.iload 6, 2) := by decide +kernel
theorem dX10_grant_109 : decode cX10_grant 109 = .ok (.invokevirtual 94, 3) := by decide +kernel
theorem dX10_grant_112 : decode cX10_grant 112 = .ok (.ifCond .ne 6, 3) := by decide +kernel
theorem dX10_grant_115 : decode cX10_grant 115 = .ok (.bipush (-3), 2) := by decide +kernel
theorem dX10_grant_117 : decode cX10_grant 117 = .ok (.ireturn, 1) := by decide +kernel
theorem dX10_grant_118 : decode cX10_grant 118 = .ok (.aload_n 0, 1) := by decide +kernel
theorem dX10_grant_119 : decode cX10_grant 119 = .ok (.aload_n 0, 1) := by decide +kernel
theorem dX10_grant_120 : decode cX10_grant 120 = .ok (.getfield 41, 3) := by decide +kernel
theorem dX10_grant_123 : decode cX10_grant 123 = .ok (.iload_n 2, 1) := by decide +kernel
theorem dX10_grant_124 : decode cX10_grant 124 = .ok (.iaload, 1) := by decide +kernel
theorem dX10_grant_125 : decode cX10_grant 125 = .ok (.aload_n 0, 1) := by decide +kernel
theorem dX10_grant_126 : decode cX10_grant 126 = .ok (.getfield 7, 3) := by decide +kernel
theorem dX10_grant_129 : decode cX10_grant 129 = .ok (.iconst 0, 1) := by decide +kernel
theorem dX10_grant_130 : decode cX10_grant 130 = .ok (.iaload, 1) := by decide +kernel
theorem dX10_grant_131 : decode cX10_grant 131 = .ok (.invokevirtual 137, 3) := by decide +kernel
theorem dX10_grant_134 : decode cX10_grant 134 = .ok (.ifCond .eq 18, 3) := by decide +kernel
theorem dX10_grant_137 : decode cX10_grant 137 = .ok (.aload_n 0, 1) := by decide +kernel
theorem dX10_grant_138 : decode cX10_grant 138 = .ok (.getfield 7, 3) := by decide +kernel
theorem dX10_grant_141 : decode cX10_grant 141 = .ok (.iconst 0, 1) := by decide +kernel
theorem dX10_grant_142 : decode cX10_grant 142 = .ok (.iaload, 1) := by decide +kernel
theorem dX10_grant_143 : decode cX10_grant 143 = .ok (.aload_n 0, 1) := by decide +kernel
theorem dX10_grant_144 : decode cX10_grant 144 = .ok (.getfield 44, 3) := by decide +kernel
theorem dX10_grant_147 : decode cX10_grant 147 = .ok (.iload_n 1, 1) := by decide +kernel
theorem dX10_grant_148 : decode cX10_grant 148 = .ok (.iaload, 1) := by decide +kernel
theorem dX10_grant_149 : decode cX10_grant 149 = .ok (.if_icmp .le 6, 3) := by decide +kernel
theorem dX10_grant_152 : decode cX10_grant 152 = .ok (.bipush (-4), 2) := by decide +kernel
theorem dX10_grant_154 : decode cX10_grant 154 = .ok (.ireturn, 1) := by decide +kernel
theorem dX10_grant_155 : decode cX10_grant 155 = .ok (.aload_n 0, 1) := by decide +kernel
theorem dX10_grant_156 : decode cX10_grant 156 = .ok (.getfield 91, 3) := by decide +kernel
theorem dX10_grant_159 : decode cX10_grant 159 = .ok (.sipush 200, 3) := by decide +kernel
theorem dX10_grant_162 : decode cX10_grant 162 = .ok (.if_icmp .ge 13, 3) := by decide +kernel
theorem dX10_grant_165 : decode cX10_grant 165 = .ok (.aload_n 0, 1) := by decide +kernel
theorem dX10_grant_166 : decode cX10_grant 166 = .ok (.getfield 102, 3) := by decide +kernel
theorem dX10_grant_169 : decode cX10_grant 169 = .ok (.sipush 148, 3) := by decide +kernel
theorem dX10_grant_172 : decode cX10_grant 172 = .ok (.if_icmp .le 6, 3) := by decide +kernel
theorem dX10_grant_175 : decode cX10_grant 175 = .ok (.bipush (-7), 2) := by decide +kernel
theorem dX10_grant_177 : decode cX10_grant 177 = .ok (.ireturn, 1) := by decide +kernel
theorem dX10_grant_178 : decode cX10_grant 178 = .ok (.iload 5, 2) := by decide +kernel
theorem dX10_grant_180 : decode cX10_grant 180 = .ok (.aload_n 0, 1) := by decide +kernel
theorem dX10_grant_181 : decode cX10_grant 181 = .ok (.getfield 23, 3) := by decide +kernel
theorem dX10_grant_184 : decode cX10_grant 184 = .ok (.iload 6, 2) := by decide +kernel
theorem dX10_grant_186 : decode cX10_grant 186 = .ok (.iaload, 1) := by decide +kernel
theorem dX10_grant_187 : decode cX10_grant 187 = .ok (.invokestatic 141, 3) := by decide +kernel
theorem dX10_grant_190 : decode cX10_grant 190 = .ok (.aload_n 0, 1) := by decide +kernel
theorem dX10_grant_191 : decode cX10_grant 191 = .ok (.getfield 23, 3) := by decide +kernel
theorem dX10_grant_194 : decode cX10_grant 194 = .ok (.iload_n 3, 1) := by decide +kernel
theorem dX10_grant_195 : decode cX10_grant 195 = .ok (.iaload, 1) := by decide +kernel
theorem dX10_grant_196 : decode cX10_grant 196 = .ok (.invokestatic 141, 3) := by decide +kernel
theorem dX10_grant_199 : decode cX10_grant 199 = .ok (.istore 7, 2) := by decide +kernel
theorem dX10_grant_201 : decode cX10_grant 201 = .ok (.aload_n 0, 1) := by decide +kernel
theorem dX10_grant_202 : decode cX10_grant 202 = .ok (.getfield 7, 3) := by decide +kernel
theorem dX10_grant_205 : decode cX10_grant 205 = .ok (.iconst 0, 1) := by decide +kernel
theorem dX10_grant_206 : decode cX10_grant 206 = .ok (.iaload, 1) := by decide +kernel
theorem dX10_grant_207 : decode cX10_grant 207 = .ok (.iload 7, 2) := by decide +kernel
theorem dX10_grant_209 : decode cX10_grant 209 = .ok (.iadd, 1) := by decide +kernel
theorem dX10_grant_210 : decode cX10_grant 210 = .ok (.iload_n 3, 1) := by decide +kernel
theorem dX10_grant_211 : decode cX10_grant 211 = .ok (.iconst 1, 1) := by decide +kernel
theorem dX10_grant_212 : decode cX10_grant 212 = .ok (.if_icmp .ne 12, 3) := by decide +kernel
theorem dX10_grant_215 : decode cX10_grant 215 = .ok (.aload_n 0, 1) := by decide +kernel
theorem dX10_grant_216 : decode cX10_grant 216 = .ok (.getfield 44, 3) := by decide +kernel
theorem dX10_grant_219 : decode cX10_grant 219 = .ok (.iload_n 1, 1) := by decide +kernel
theorem dX10_grant_220 : decode cX10_grant 220 = .ok (.iaload, 1) := by decide +kernel
theorem dX10_grant_221 : decode cX10_grant 221 = .ok (.goto 9, 3) := by decide +kernel
theorem dX10_grant_224 : decode cX10_grant 224 = .ok (.aload_n 0, 1) := by decide +kernel
theorem dX10_grant_225 : decode cX10_grant 225 = .ok (.getfield 47, 3) := by decide +kernel
theorem dX10_grant_228 : decode cX10_grant 228 = .ok (.iload_n 1, 1) := by decide +kernel
theorem dX10_grant_229 : decode cX10_grant 229 = .ok (.iaload, 1) := by decide +kernel
theorem dX10_grant_230 : decode cX10_grant 230 = .ok (.invokestatic 141, 3) := by decide +kernel
theorem dX10_grant_233 : decode cX10_grant 233 = .ok (.istore 8, 2) := by decide +kernel
theorem dX10_grant_235 : decode cX10_grant 235 = .ok (.aload_n 0, 1) := by decide +kernel
theorem dX10_grant_236 : decode cX10_grant 236 = .ok (.iload 6, 2) := by decide +kernel
theorem dX10_grant_238 : decode cX10_grant 238 = .ok (.iload_n 3, 1) := by decide +kernel
theorem dX10_grant_239 : decode cX10_grant 239 = .ok (.iload 4, 2) := by decide +kernel
theorem dX10_grant_241 : decode cX10_grant 241 = .ok (.iload 8, 2) := by decide +kernel
theorem dX10_grant_243 : decode cX10_grant 243 = .ok (.iload_n 3, 1) := by decide +kernel
theorem dX10_grant_244 : decode cX10_grant 244 = .ok (.iconst 1, 1) := by decide +kernel
theorem dX10_grant_245 : decode cX10_grant 245 = .ok (.if_icmp .ne 8, 3) := by decide +kernel
theorem dX10_grant_248 : decode cX10_grant 248 = .ok (.iload 8, 2) := by decide +kernel
theorem dX10_grant_250 : decode cX10_grant 250 = .ok (.goto 9, 3) := by decide +kernel
theorem dX10_grant_253 : decode cX10_grant 253 = .ok (.aload_n 0, 1) := by decide +kernel
theorem dX10_grant_254 : decode cX10_grant 254 = .ok (.getfield 47, 3) := by decide +kernel
theorem dX10_grant_257 : decode cX10_grant 257 = .ok (.iload_n 1, 1) := by decide +kernel
theorem dX10_grant_258 : decode cX10_grant 258 = .ok (.iaload, 1) := by decide +kernel
theorem dX10_grant_259 : decode cX10_grant 259 = .ok (.aload_n 0, 1) := by decide +kernel
theorem dX10_grant_260 : decode cX10_grant 260 = .ok (.getfield 38, 3) := by decide +kernel
theorem dX10_grant_263 : decode cX10_grant 263 = .ok (.iload_n 1, 1) := by decide +kernel
theorem dX10_grant_264 : decode cX10_grant 264 = .ok (.iaload, 1) := by decide +kernel
theorem dX10_grant_265 : decode cX10_grant 265 = .ok (.invokevirtual 144, 3) := by decide +kernel
theorem dX10_grant_268 : decode cX10_grant 268 = .ok (.ireturn, 1) := by decide +kernel
theorem dX10_forgetOld_0 : decode cX10_forgetOld 0 = .ok (.iconst 0, 1) := by decide +kernel
theorem dX10_forgetOld_1 : decode cX10_forgetOld 1 = .ok (.istore_n 1, 1) := by decide +kernel
theorem dX10_forgetOld_2 : decode cX10_forgetOld 2 = .ok (.iconst 0, 1) := by decide +kernel
theorem dX10_forgetOld_3 : decode cX10_forgetOld 3 = .ok (.istore_n 2, 1) := by decide +kernel
theorem dX10_forgetOld_4 : decode cX10_forgetOld 4 = .ok (.iload_n 2, 1) := by decide +kernel
theorem dX10_forgetOld_5 : decode cX10_forgetOld 5 = .ok (.aload_n 0, 1) := by decide +kernel
theorem dX10_forgetOld_6 : decode cX10_forgetOld 6 = .ok (.getfield 147, 3) := by decide +kernel
theorem dX10_forgetOld_9 : decode cX10_forgetOld 9 = .ok (.if_icmp .ge 49, 3) := by decide +kernel
theorem dX10_forgetOld_12 : decode cX10_forgetOld 12 = .ok (.aload_n 0, 1) := by decide +kernel
theorem dX10_forgetOld_13 : decode cX10_forgetOld 13 = .ok (.getfield 41, 3) := by decide +kernel
theorem dX10_forgetOld_16 : decode cX10_forgetOld 16 = .ok (.aload_n 0, 1) := by decide +kernel
theorem dX10_forgetOld_17 : decode cX10_forgetOld 17 = .ok (.getfield 80, 3) := by decide +kernel
theorem dX10_forgetOld_20 : decode cX10_forgetOld 20 = .ok (.iload_n 2, 1) := by decide +kernel
theorem dX10_forgetOld_21 : decode cX10_forgetOld 21 = .ok (.iaload, 1) := by decide +kernel
theorem dX10_forgetOld_22 : decode cX10_forgetOld 22 = .ok (.iaload, 1) := by decide +kernel
theorem dX10_forgetOld_23 : decode cX10_forgetOld 23 = .ok (.aload_n 0, 1) := by decide +kernel
theorem dX10_forgetOld_24 : decode cX10_forgetOld 24 = .ok (.getfield 7, 3) := by decide +kernel
theorem dX10_forgetOld_27 : decode cX10_forgetOld 27 = .ok (.iconst 1, 1) := by decide +kernel
theorem dX10_forgetOld_28 : decode cX10_forgetOld 28 = .ok (.iaload, 1) := by decide +kernel
theorem dX10_forgetOld_29 : decode cX10_forgetOld 29 = .ok (.aload_n 0, 1) := by decide +kernel
theorem dX10_forgetOld_30 : decode cX10_forgetOld 30 = .ok (.getfield 83, 3) := by decide +kernel
theorem dX10_forgetOld_33 : decode cX10_forgetOld 33 = .ok (.isub, 1) := by decide +kernel
theorem dX10_forgetOld_34 : decode cX10_forgetOld 34 = .ok (.if_icmp .lt 18, 3) := by decide +kernel
theorem dX10_forgetOld_37 : decode cX10_forgetOld 37 = .ok (.aload_n 0, 1) := by decide +kernel
theorem dX10_forgetOld_38 : decode cX10_forgetOld 38 = .ok (.getfield 80, 3) := by decide +kernel
theorem dX10_forgetOld_41 : decode cX10_forgetOld 41 = .ok (.iload_n 1, 1) := by decide +kernel
theorem dX10_forgetOld_42 : decode cX10_forgetOld 42 = .ok (.aload_n 0, 1) := by decide +kernel
theorem dX10_forgetOld_43 : decode cX10_forgetOld 43 = .ok (.getfield 80, 3) := by decide +kernel
theorem dX10_forgetOld_46 : decode cX10_forgetOld 46 = .ok (.iload_n 2, 1) := by decide +kernel
theorem dX10_forgetOld_47 : decode cX10_forgetOld 47 = .ok (.iaload, 1) := by decide +kernel
theorem dX10_forgetOld_48 : decode cX10_forgetOld 48 = .ok (.iastore, 1) := by decide +kernel
theorem dX10_forgetOld_49 : decode cX10_forgetOld 49 = .ok (.iinc 1 1, 3) := by decide +kernel
theorem dX10_forgetOld_52 : decode cX10_forgetOld 52 = .ok (.iinc 2 1, 3) := by decide +kernel
theorem dX10_forgetOld_55 : decode cX10_forgetOld 55 = .ok (.goto (-51), 3) := by decide +kernel
theorem dX10_forgetOld_58 : decode cX10_forgetOld 58 = .ok (.aload_n 0, 1) := by decide +kernel
theorem dX10_forgetOld_59 : decode cX10_forgetOld 59 = .ok (.iload_n 1, 1) := by decide +kernel
theorem dX10_forgetOld_60 : decode cX10_forgetOld 60 = .ok (.putfield 147, 3) := by decide +kernel
theorem dX10_forgetOld_63 : decode cX10_forgetOld 63 = .ok (.return_, 1) := by decide +kernel
theorem dX10_same_0 : decode cX10_same 0 = .ok (.aload_n 0, 1) := by decide +kernel
theorem dX10_same_1 : decode cX10_same 1 = .ok (.getfield 32, 3) := by decide +kernel
theorem dX10_same_4 : decode cX10_same 4 = .ok (.iload_n 1, 1) := by decide +kernel
theorem dX10_same_5 : decode cX10_same 5 = .ok (.iaload, 1) := by decide +kernel
theorem dX10_same_6 : decode cX10_same 6 = .ok (.aload_n 0, 1) := by decide +kernel
theorem dX10_same_7 : decode cX10_same 7 = .ok (.getfield 32, 3) := by decide +kernel
theorem dX10_same_10 : decode cX10_same 10 = .ok (.iload_n 2, 1) := by decide +kernel
theorem dX10_same_11 : decode cX10_same 11 = .ok (.iaload, 1) := by decide +kernel
theorem dX10_same_12 : decode cX10_same 12 = .ok (.if_icmp .ne 52, 3) := by decide +kernel
theorem dX10_same_15 : decode cX10_same 15 = .ok (.aload_n 0, 1) := by decide +kernel
theorem dX10_same_16 : decode cX10_same 16 = .ok (.getfield 35, 3) := by decide +kernel
theorem dX10_same_19 : decode cX10_same 19 = .ok (.iload_n 1, 1) := by decide +kernel
theorem dX10_same_20 : decode cX10_same 20 = .ok (.iaload, 1) := by decide +kernel
theorem dX10_same_21 : decode cX10_same 21 = .ok (.aload_n 0, 1) := by decide +kernel
theorem dX10_same_22 : decode cX10_same 22 = .ok (.getfield 35, 3) := by decide +kernel
theorem dX10_same_25 : decode cX10_same 25 = .ok (.iload_n 2, 1) := by decide +kernel
theorem dX10_same_26 : decode cX10_same 26 = .ok (.iaload, 1) := by decide +kernel
theorem dX10_same_27 : decode cX10_same 27 = .ok (.if_icmp .ne 37, 3) := by decide +kernel
theorem dX10_same_30 : decode cX10_same 30 = .ok (.aload_n 0, 1) := by decide +kernel
theorem dX10_same_31 : decode cX10_same 31 = .ok (.getfield 41, 3) := by decide +kernel
theorem dX10_same_34 : decode cX10_same 34 = .ok (.iload_n 1, 1) := by decide +kernel
theorem dX10_same_35 : decode cX10_same 35 = .ok (.iaload, 1) := by decide +kernel
theorem dX10_same_36 : decode cX10_same 36 = .ok (.aload_n 0, 1) := by decide +kernel
theorem dX10_same_37 : decode cX10_same 37 = .ok (.getfield 41, 3) := by decide +kernel
theorem dX10_same_40 : decode cX10_same 40 = .ok (.iload_n 2, 1) := by decide +kernel
theorem dX10_same_41 : decode cX10_same 41 = .ok (.iaload, 1) := by decide +kernel
theorem dX10_same_42 : decode cX10_same 42 = .ok (.if_icmp .ne 22, 3) := by decide +kernel
theorem dX10_same_45 : decode cX10_same 45 = .ok (.aload_n 0, 1) := by decide +kernel
theorem dX10_same_46 : decode cX10_same 46 = .ok (.getfield 44, 3) := by decide +kernel
theorem dX10_same_49 : decode cX10_same 49 = .ok (.iload_n 1, 1) := by decide +kernel
theorem dX10_same_50 : decode cX10_same 50 = .ok (.iaload, 1) := by decide +kernel
theorem dX10_same_51 : decode cX10_same 51 = .ok (.aload_n 0, 1) := by decide +kernel
theorem dX10_same_52 : decode cX10_same 52 = .ok (.getfield 44, 3) := by decide +kernel
theorem dX10_same_55 : decode cX10_same 55 = .ok (.iload_n 2, 1) := by decide +kernel
theorem dX10_same_56 : decode cX10_same 56 = .ok (.iaload, 1) := by decide +kernel
theorem dX10_same_57 : decode cX10_same 57 = .ok (.if_icmp .ne 7, 3) := by decide +kernel
theorem dX10_same_60 : decode cX10_same 60 = .ok (.iconst 1, 1) := by decide +kernel
theorem dX10_same_61 : decode cX10_same 61 = .ok (.goto 4, 3) := by decide +kernel
theorem dX10_same_64 : decode cX10_same 64 = .ok (.iconst 0, 1) := by decide +kernel
theorem dX10_same_65 : decode cX10_same 65 = .ok (.istore_n 3, 1) := by decide +kernel
theorem dX10_same_66 : decode cX10_same 66 = .ok (.iload_n 3, 1) := by decide +kernel
theorem dX10_same_67 : decode cX10_same 67 = .ok (.ifCond .eq 52, 3) := by decide +kernel
theorem dX10_same_70 : decode cX10_same 70 = .ok (.aload_n 0, 1) := by decide +kernel
theorem dX10_same_71 : decode cX10_same 71 = .ok (.getfield 50, 3) := by decide +kernel
theorem dX10_same_74 : decode cX10_same 74 = .ok (.iload_n 1, 1) := by decide +kernel
theorem dX10_same_75 : decode cX10_same 75 = .ok (.iaload, 1) := by decide +kernel
theorem dX10_same_76 : decode cX10_same 76 = .ok (.aload_n 0, 1) := by decide +kernel
theorem dX10_same_77 : decode cX10_same 77 = .ok (.getfield 50, 3) := by decide +kernel
theorem dX10_same_80 : decode cX10_same 80 = .ok (.iload_n 2, 1) := by decide +kernel
theorem dX10_same_81 : decode cX10_same 81 = .ok (.iaload, 1) := by decide +kernel
theorem dX10_same_82 : decode cX10_same 82 = .ok (.if_icmp .ne 37, 3) := by decide +kernel
theorem dX10_same_85 : decode cX10_same 85 = .ok (.aload_n 0, 1) := by decide +kernel
theorem dX10_same_86 : decode cX10_same 86 = .ok (.getfield 53, 3) := by decide +kernel
theorem dX10_same_89 : decode cX10_same 89 = .ok (.iload_n 1, 1) := by decide +kernel
theorem dX10_same_90 : decode cX10_same 90 = .ok (.iaload, 1) := by decide +kernel
theorem dX10_same_91 : decode cX10_same 91 = .ok (.aload_n 0, 1) := by decide +kernel
theorem dX10_same_92 : decode cX10_same 92 = .ok (.getfield 53, 3) := by decide +kernel
theorem dX10_same_95 : decode cX10_same 95 = .ok (.iload_n 2, 1) := by decide +kernel
theorem dX10_same_96 : decode cX10_same 96 = .ok (.iaload, 1) := by decide +kernel
theorem dX10_same_97 : decode cX10_same 97 = .ok (.if_icmp .ne 22, 3) := by decide +kernel
theorem dX10_same_100 : decode cX10_same 100 = .ok (.aload_n 0, 1) := by decide +kernel
theorem dX10_same_101 : decode cX10_same 101 = .ok (.getfield 56, 3) := by decide +kernel
theorem dX10_same_104 : decode cX10_same 104 = .ok (.iload_n 1, 1) := by decide +kernel
theorem dX10_same_105 : decode cX10_same 105 = .ok (.iaload, 1) := by decide +kernel
theorem dX10_same_106 : decode cX10_same 106 = .ok (.aload_n 0, 1) := by decide +kernel
theorem dX10_same_107 : decode cX10_same 107 = .ok (.getfield 56, 3) := by decide +kernel
theorem dX10_same_110 : decode cX10_same 110 = .ok (.iload_n 2, 1) := by decide +kernel
theorem dX10_same_111 : decode cX10_same 111 = .ok (.iaload, 1) := by decide +kernel
theorem dX10_same_112 : decode cX10_same 112 = .ok (.if_icmp .ne 7, 3) := by decide +kernel
theorem dX10_same_115 : decode cX10_same 115 = .ok (.iconst 1, 1) := by decide +kernel
theorem dX10_same_116 : decode cX10_same 116 = .ok (.goto 4, 3) := by decide +kernel
theorem dX10_same_119 : decode cX10_same 119 = .ok (.iconst 0, 1) := by decide +kernel
theorem dX10_same_120 : decode cX10_same 120 = .ok (.ireturn, 1) := by decide +kernel
theorem dX10_serve_0 : decode cX10_serve 0 = .ok (.aload_n 0, 1) := by decide +kernel
theorem dX10_serve_1 : decode cX10_serve 1 = .ok (.invokevirtual 150, 3) := by decide +kernel
theorem dX10_serve_4 : decode cX10_serve 4 = .ok (.aload_n 0, 1) := by decide +kernel
theorem dX10_serve_5 : decode cX10_serve 5 = .ok (.aload_n 0, 1) := by decide +kernel
theorem dX10_serve_6 : decode cX10_serve 6 = .ok (.getfield 13, 3) := by decide +kernel
theorem dX10_serve_9 : decode cX10_serve 9 = .ok (.iconst 1, 1) := by decide +kernel
theorem dX10_serve_10 : decode cX10_serve 10 = .ok (.iaload, 1) := by decide +kernel
theorem dX10_serve_11 : decode cX10_serve 11 = .ok (.iload_n 1, 1) := by decide +kernel
theorem dX10_serve_12 : decode cX10_serve 12 = .ok (.iconst 2, 1) := by decide +kernel
theorem dX10_serve_13 : decode cX10_serve 13 = .ok (.invokevirtual 126, 3) := by decide +kernel
theorem dX10_serve_16 : decode cX10_serve 16 = .ok (.ifCond .ne 6, 3) := by decide +kernel
theorem dX10_serve_19 : decode cX10_serve 19 = .ok (.bipush (-2), 2) := by decide +kernel
theorem dX10_serve_21 : decode cX10_serve 21 = .ok (.ireturn, 1) := by decide +kernel
theorem dX10_serve_22 : decode cX10_serve 22 = .ok (.aload_n 0, 1) := by decide +kernel
theorem dX10_serve_23 : decode cX10_serve 23 = .ok (.aload_n 0, 1) := by decide +kernel
theorem dX10_serve_24 : decode cX10_serve 24 = .ok (.getfield 38, 3) := by decide +kernel
theorem dX10_serve_27 : decode cX10_serve 27 = .ok (.iload_n 1, 1) := by decide +kernel
theorem dX10_serve_28 : decode cX10_serve 28 = .ok (.iaload, 1) := by decide +kernel
theorem dX10_serve_29 : decode cX10_serve 29 = .ok (.iload_n 2, 1) := by decide +kernel
theorem dX10_serve_30 : decode cX10_serve 30 = .ok (.iconst 4, 1) := by decide +kernel
theorem dX10_serve_31 : decode cX10_serve 31 = .ok (.invokevirtual 126, 3) := by decide +kernel
theorem dX10_serve_34 : decode cX10_serve 34 = .ok (.ifCond .ne 6, 3) := by decide +kernel
theorem dX10_serve_37 : decode cX10_serve 37 = .ok (.bipush (-2), 2) := by decide +kernel
theorem dX10_serve_39 : decode cX10_serve 39 = .ok (.ireturn, 1) := by decide +kernel
theorem dX10_serve_40 : decode cX10_serve 40 = .ok (.aload_n 0, 1) := by decide +kernel
theorem dX10_serve_41 : decode cX10_serve 41 = .ok (.getfield 35, 3) := by decide +kernel
theorem dX10_serve_44 : decode cX10_serve 44 = .ok (.iload_n 1, 1) := by decide +kernel
theorem dX10_serve_45 : decode cX10_serve 45 = .ok (.iaload, 1) := by decide +kernel
theorem dX10_serve_46 : decode cX10_serve 46 = .ok (.istore_n 3, 1) := by decide +kernel
theorem dX10_serve_47 : decode cX10_serve 47 = .ok (.aload_n 0, 1) := by decide +kernel
theorem dX10_serve_48 : decode cX10_serve 48 = .ok (.getfield 35, 3) := by decide +kernel
theorem dX10_serve_51 : decode cX10_serve 51 = .ok (.iload_n 2, 1) := by decide +kernel
theorem dX10_serve_52 : decode cX10_serve 52 = .ok (.iaload, 1) := by decide +kernel
theorem dX10_serve_53 : decode cX10_serve 53 = .ok (.iload_n 3, 1) := by decide +kernel
theorem dX10_serve_54 : decode cX10_serve 54 = .ok (.if_icmp .ne 12, 3) := by decide +kernel
theorem dX10_serve_57 : decode cX10_serve 57 = .ok (.aload_n 0, 1) := by decide +kernel
theorem dX10_serve_58 : decode cX10_serve 58 = .ok (.getfield 50, 3) := by decide +kernel
theorem dX10_serve_61 : decode cX10_serve 61 = .ok (.iload_n 2, 1) := by decide +kernel
theorem dX10_serve_62 : decode cX10_serve 62 = .ok (.iaload, 1) := by decide +kernel
theorem dX10_serve_63 : decode cX10_serve 63 = .ok (.ifCond .ne 6, 3) := by decide +kernel
theorem dX10_serve_66 : decode cX10_serve 66 = .ok (.bipush (-3), 2) := by decide +kernel
theorem dX10_serve_68 : decode cX10_serve 68 = .ok (.ireturn, 1) := by decide +kernel
theorem dX10_serve_69 : decode cX10_serve 69 = .ok (.aload_n 0, 1) := by decide +kernel
theorem dX10_serve_70 : decode cX10_serve 70 = .ok (.aload_n 0, 1) := by decide +kernel
theorem dX10_serve_71 : decode cX10_serve 71 = .ok (.getfield 41, 3) := by decide +kernel
theorem dX10_serve_74 : decode cX10_serve 74 = .ok (.iload_n 2, 1) := by decide +kernel
theorem dX10_serve_75 : decode cX10_serve 75 = .ok (.iaload, 1) := by decide +kernel
theorem dX10_serve_76 : decode cX10_serve 76 = .ok (.aload_n 0, 1) := by decide +kernel
theorem dX10_serve_77 : decode cX10_serve 77 = .ok (.getfield 7, 3) := by decide +kernel
theorem dX10_serve_80 : decode cX10_serve 80 = .ok (.iconst 1, 1) := by decide +kernel
theorem dX10_serve_81 : decode cX10_serve 81 = .ok (.iaload, 1) := by decide +kernel
theorem dX10_serve_82 : decode cX10_serve 82 = .ok (.invokevirtual 137, 3) := by decide +kernel
theorem dX10_serve_85 : decode cX10_serve 85 = .ok (.ifCond .eq 38, 3) := by decide +kernel
theorem dX10_serve_88 : decode cX10_serve 88 = .ok (.aload_n 0, 1) := by decide +kernel
theorem dX10_serve_89 : decode cX10_serve 89 = .ok (.getfield 7, 3) := by decide +kernel
theorem dX10_serve_92 : decode cX10_serve 92 = .ok (.iconst 1, 1) := by decide +kernel
theorem dX10_serve_93 : decode cX10_serve 93 = .ok (.iaload, 1) := by decide +kernel
theorem dX10_serve_94 : decode cX10_serve 94 = .ok (.aload_n 0, 1) := by decide +kernel
theorem dX10_serve_95 : decode cX10_serve 95 = .ok (.getfield 44, 3) := by decide +kernel
theorem dX10_serve_98 : decode cX10_serve 98 = .ok (.iload_n 1, 1) := by decide +kernel
theorem dX10_serve_99 : decode cX10_serve 99 = .ok (.iaload, 1) := by decide +kernel
theorem dX10_serve_100 : decode cX10_serve 100 = .ok (.if_icmp .gt 23, 3) := by decide +kernel
theorem dX10_serve_103 : decode cX10_serve 103 = .ok (.aload_n 0, 1) := by decide +kernel
theorem dX10_serve_104 : decode cX10_serve 104 = .ok (.getfield 41, 3) := by decide +kernel
theorem dX10_serve_107 : decode cX10_serve 107 = .ok (.iload_n 1, 1) := by decide +kernel
theorem dX10_serve_108 : decode cX10_serve 108 = .ok (.iaload, 1) := by decide +kernel
theorem dX10_serve_109 : decode cX10_serve 109 = .ok (.aload_n 0, 1) := by decide +kernel
theorem dX10_serve_110 : decode cX10_serve 110 = .ok (.getfield 7, 3) := by decide +kernel
theorem dX10_serve_113 : decode cX10_serve 113 = .ok (.iconst 1, 1) := by decide +kernel
theorem dX10_serve_114 : decode cX10_serve 114 = .ok (.iaload, 1) := by decide +kernel
theorem dX10_serve_115 : decode cX10_serve 115 = .ok (.aload_n 0, 1) := by decide +kernel
theorem dX10_serve_116 : decode cX10_serve 116 = .ok (.getfield 83, 3) := by decide +kernel
theorem dX10_serve_119 : decode cX10_serve 119 = .ok (.iadd, 1) := by decide +kernel
theorem dX10_serve_120 : decode cX10_serve 120 = .ok (.if_icmp .le 6, 3) := by decide +kernel
theorem dX10_serve_123 : decode cX10_serve 123 = .ok (.bipush (-4), 2) := by decide +kernel
theorem dX10_serve_125 : decode cX10_serve 125 = .ok (.ireturn, 1) := by decide +kernel
theorem dX10_serve_126 : decode cX10_serve 126 = .ok (.iconst 0, 1) := by decide +kernel
theorem dX10_serve_127 : decode cX10_serve 127 = .ok (.istore 4, 2) := by decide +kernel
theorem dX10_serve_129 : decode cX10_serve 129 = .ok (.iconst 0, 1) := by decide +kernel
theorem dX10_serve_130 : decode cX10_serve 130 = .ok (.istore 5, 2) := by decide +kernel
theorem dX10_serve_132 : decode cX10_serve 132 = .ok (.iload 5, 2) := by decide +kernel
theorem dX10_serve_134 : decode cX10_serve 134 = .ok (.aload_n 0, 1) := by decide +kernel
theorem dX10_serve_135 : decode cX10_serve 135 = .ok (.getfield 147, 3) := by decide +kernel
theorem dX10_serve_138 : decode cX10_serve 138 = .ok (.if_icmp .ge 36, 3) := by decide +kernel
theorem dX10_serve_141 : decode cX10_serve 141 = .ok (.iload 4, 2) := by decide +kernel
theorem dX10_serve_143 : decode cX10_serve 143 = .ok (.ifCond .ne 18, 3) := by decide +kernel
theorem dX10_serve_146 : decode cX10_serve 146 = .ok (.aload_n 0, 1) := by decide +kernel
theorem dX10_serve_147 : decode cX10_serve 147 = .ok (.aload_n 0, 1) := by decide +kernel
theorem dX10_serve_148 : decode cX10_serve 148 = .ok (.getfield 80, 3) := by decide +kernel
theorem dX10_serve_151 : decode cX10_serve 151 = .ok (.iload 5, 2) := by decide +kernel
theorem dX10_serve_153 : decode cX10_serve 153 = .ok (.iaload, 1) := by decide +kernel
theorem dX10_serve_154 : decode cX10_serve 154 = .ok (.iload_n 2, 1) := by decide +kernel
theorem dX10_serve_155 : decode cX10_serve 155 = .ok (.invokevirtual 153, 3) := by decide +kernel
theorem dX10_serve_158 : decode cX10_serve 158 = .ok (.ifCond .eq 7, 3) := by decide +kernel
theorem dX10_serve_161 : decode cX10_serve 161 = .ok (.iconst 1, 1) := by decide +kernel
theorem dX10_serve_162 : decode cX10_serve 162 = .ok (.goto 4, 3) := by decide +kernel
theorem dX10_serve_165 : decode cX10_serve 165 = .ok (.iconst 0, 1) := by decide +kernel
theorem dX10_serve_166 : decode cX10_serve 166 = .ok (.istore 4, 2) := by decide +kernel
theorem dX10_serve_168 : decode cX10_serve 168 = .ok (.iinc 5 1, 3) := by decide +kernel
theorem dX10_serve_171 : decode cX10_serve 171 = .ok (.goto (-39), 3) := by decide +kernel
theorem dX10_serve_174 : decode cX10_serve 174 = .ok (.iload 4, 2) := by decide +kernel
theorem dX10_serve_176 : decode cX10_serve 176 = .ok (.ifCond .eq 6, 3) := by decide +kernel
theorem dX10_serve_179 : decode cX10_serve 179 = .ok (.bipush (-5), 2) := by decide +kernel
theorem dX10_serve_181 : decode cX10_serve 181 = .ok (.ireturn, 1) := by decide +kernel
theorem dX10_serve_182 : decode cX10_serve 182 = .ok (.aload_n 0, 1) := by decide +kernel
