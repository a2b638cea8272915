theorem dX9_serve_190 : decode cX9_serve 190 = .ok (.invokevirtual 260, 3) := by decide +kernel
theorem dX9_serve_193 : decode cX9_serve 193 = .ok (.iconst 0, 1) := by decide +kernel
theorem dX9_serve_194 : decode cX9_serve 194 = .ok (.ireturn, 1) := by decide +kernel
theorem dX9_answer_0 : decode cX9_answer 0 = .ok (.aload_n 0, 1) := by decide +kernel
theorem dX9_answer_1 : decode cX9_answer 1 = .ok (.getfield 35, 3) := by decide +kernel
theorem dX9_answer_4 : decode cX9_answer 4 = .ok (.getfield 264, 3) := by decide +kernel
theorem dX9_answer_7 : decode cX9_answer 7 = .ok (.ireturn, 1) := by decide +kernel
theorem dX9_steal_0 : decode cX9_steal 0 = .ok (.iload_n 1, 1) := by decide +kernel
theorem dX9_steal_1 : decode cX9_steal 1 = .ok (.invokestatic 72, 3) := by decide +kernel
theorem dX9_steal_4 : decode cX9_steal 4 = .ok (.ifCond .eq 13, 3) := by decide +kernel
theorem dX9_steal_7 : decode cX9_steal 7 = .ok (.aload_n 0, 1) := by decide +kernel
theorem dX9_steal_8 : decode cX9_steal 8 = .ok (.getfield 13, 3) := by decide +kernel
theorem dX9_steal_11 : decode cX9_steal 11 = .ok (.iload_n 1, 1) := by decide +kernel
theorem dX9_steal_12 : decode cX9_steal 12 = .ok (.iaload, 1) := by decide +kernel
theorem dX9_steal_13 : decode cX9_steal 13 = .ok (.iconst (-1), 1) := by decide +kernel
theorem dX9_steal_14 : decode cX9_steal 14 = .ok (.if_icmp .ne 5, 3) := by decide +kernel
theorem dX9_steal_17 : decode cX9_steal 17 = .ok (.iconst (-1), 1) := by decide +kernel
theorem dX9_steal_18 : decode cX9_steal 18 = .ok (.ireturn, 1) := by decide +kernel
theorem dX9_steal_19 : decode cX9_steal 19 = .ok (.aload_n 0, 1) := by decide +kernel
theorem dX9_steal_20 : decode cX9_steal 20 = .ok (.getfield 49, 3) := by decide +kernel
theorem dX9_steal_23 : decode cX9_steal 23 = .ok (.aload_n 0, 1) := by decide +kernel
theorem dX9_steal_24 : decode cX9_steal 24 = .ok (.getfield 13, 3) := by decide +kernel
theorem dX9_steal_27 : decode cX9_steal 27 = .ok (.iload_n 1, 1) := by decide +kernel
theorem dX9_steal_28 : decode cX9_steal 28 = .ok (.iaload, 1) := by decide +kernel
theorem dX9_steal_29 : decode cX9_steal 29 = .ok (.iconst 1, 1) := by decide +kernel
theorem dX9_steal_30 : decode cX9_steal 30 = .ok (.bastore, 1) := by decide +kernel
theorem dX9_steal_31 : decode cX9_steal 31 = .ok (.aload_n 0, 1) := by decide +kernel
theorem dX9_steal_32 : decode cX9_steal 32 = .ok (.getfield 13, 3) := by decide +kernel
theorem dX9_steal_35 : decode cX9_steal 35 = .ok (.iload_n 1, 1) := by decide +kernel
theorem dX9_steal_36 : decode cX9_steal 36 = .ok (.iaload, 1) := by decide +kernel
theorem dX9_steal_37 : decode cX9_steal 37 = .ok (.ireturn, 1) := by decide +kernel
theorem dX9_learn_0 : decode cX9_learn 0 = .ok (.aload_n 0, 1) := by decide +kernel
theorem dX9_learn_1 : decode cX9_learn 1 = .ok (.iload_n 1, 1) := by decide +kernel
theorem dX9_learn_2 : decode cX9_learn 2 = .ok (.invokevirtual 155, 3) := by decide +kernel
theorem dX9_learn_5 : decode cX9_learn 5 = .ok (.astore_n 2, 1) := by decide +kernel
theorem dX9_learn_6 : decode cX9_learn 6 = .ok (.aload_n 2, 1) := by decide +kernel
theorem dX9_learn_7 : decode cX9_learn 7 = .ok (.ifnonnull 5, 3) := by decide +kernel
theorem dX9_learn_10 : decode cX9_learn 10 = .ok (.iconst (-1), 1) := by decide +kernel
theorem dX9_learn_11 : decode cX9_learn 11 = .ok (.ireturn, 1) := by decide +kernel
theorem dX9_learn_12 : decode cX9_learn 12 = .ok (.aload_n 0, 1) := by decide +kernel
theorem dX9_learn_13 : decode cX9_learn 13 = .ok (.aload_n 2, 1) := by decide +kernel
theorem dX9_learn_14 : decode cX9_learn 14 = .ok (.getfield 267, 3) := by decide +kernel
theorem dX9_learn_17 : decode cX9_learn 17 = .ok (.invokevirtual 270, 3) := by decide +kernel
theorem dX9_learn_20 : decode cX9_learn 20 = .ok (.ifCond .ne 6, 3) := by decide +kernel
theorem dX9_learn_23 : decode cX9_learn 23 = .ok (.bipush (-2), 2) := by decide +kernel
theorem dX9_learn_25 : decode cX9_learn 25 = .ok (.ireturn, 1) := by decide +kernel
theorem dX9_learn_26 : decode cX9_learn 26 = .ok (.aload_n 2, 1) := by decide +kernel
theorem dX9_learn_27 : decode cX9_learn 27 = .ok (.invokevirtual 273, 3) := by decide +kernel
theorem dX9_learn_30 : decode cX9_learn 30 = .ok (.istore_n 3, 1) := by decide +kernel
theorem dX9_learn_31 : decode cX9_learn 31 = .ok (.iload_n 3, 1) := by decide +kernel
theorem dX9_learn_32 : decode cX9_learn 32 = .ok (.iconst (-1), 1) := by decide +kernel
theorem dX9_learn_33 : decode cX9_learn 33 = .ok (.if_icmp .ne 5, 3) := by decide +kernel
theorem dX9_learn_36 : decode cX9_learn 36 = .ok (.iconst 0, 1) := by decide +kernel
theorem dX9_learn_37 : decode cX9_learn 37 = .ok (.ireturn, 1) := by decide +kernel
theorem dX9_learn_38 : decode cX9_learn 38 = .ok (.aload_n 0, 1) := by decide +kernel
theorem dX9_learn_39 : decode cX9_learn 39 = .ok (.getfield 49, 3) := by decide +kernel
theorem dX9_learn_42 : decode cX9_learn 42 = .ok (.iload_n 3, 1) := by decide +kernel
theorem dX9_learn_43 : decode cX9_learn 43 = .ok (.iconst 1, 1) := by decide +kernel
theorem dX9_learn_44 : decode cX9_learn 44 = .ok (.bastore, 1) := by decide +kernel
theorem dX9_learn_45 : decode cX9_learn 45 = .ok (.iload_n 3, 1) := by decide +kernel
theorem dX9_learn_46 : decode cX9_learn 46 = .ok (.ireturn, 1) := by decide +kernel
theorem dX9_forge_0 : decode cX9_forge 0 = .ok (.iload_n 2, 1) := by decide +kernel
theorem dX9_forge_1 : decode cX9_forge 1 = .ok (.iconst 1, 1) := by decide +kernel
theorem dX9_forge_2 : decode cX9_forge 2 = .ok (.if_icmp .lt 20, 3) := by decide +kernel
theorem dX9_forge_5 : decode cX9_forge 5 = .ok (.iload_n 2, 1) := by decide +kernel
theorem dX9_forge_6 : decode cX9_forge 6 = .ok (.iconst 4, 1) := by decide +kernel
theorem dX9_forge_7 : decode cX9_forge 7 = .ok (.if_icmp .gt 15, 3) := by decide +kernel
theorem dX9_forge_10 : decode cX9_forge 10 = .ok (.iload_n 2, 1) := by decide +kernel
theorem dX9_forge_11 : decode cX9_forge 11 = .ok (.iconst 3, 1) := by decide +kernel
theorem dX9_forge_12 : decode cX9_forge 12 = .ok (.if_icmp .eq 12, 3) := by decide +kernel
theorem dX9_forge_15 : decode cX9_forge 15 = .ok (.iload_n 3, 1) := by decide +kernel
theorem dX9_forge_16 : decode cX9_forge 16 = .ok (.invokestatic 72, 3) := by decide +kernel
theorem dX9_forge_19 : decode cX9_forge 19 = .ok (.ifCond .ne 5, 3) := by decide +kernel
theorem dX9_forge_22 : decode cX9_forge 22 = .ok (.iconst (-1), 1) := by decide +kernel
theorem dX9_forge_23 : decode cX9_forge 23 = .ok (.ireturn, 1) := by decide +kernel
theorem dX9_forge_24 : decode cX9_forge 24 = .ok (.iload_n 2, 1) := by decide +kernel
theorem dX9_forge_25 : decode cX9_forge 25 = .ok (.iconst 2, 1) := by decide +kernel
theorem dX9_forge_26 : decode cX9_forge 26 = .ok (.if_icmp .eq 8, 3) := by decide +kernel
theorem dX9_forge_29 : decode cX9_forge 29 = .ok (.iload_n 2, 1) := by decide +kernel
theorem dX9_forge_30 : decode cX9_forge 30 = .ok (.iconst 3, 1) := by decide +kernel
theorem dX9_forge_31 : decode cX9_forge 31 = .ok (.if_icmp .ne 7, 3) := by decide +kernel
theorem dX9_forge_34 : decode cX9_forge 34 = .ok (.iconst 1, 1) := by decide +kernel
theorem dX9_forge_35 : decode cX9_forge 35 = .ok (.goto 4, 3) := by decide +kernel
theorem dX9_forge_38 : decode cX9_forge 38 = .ok (.iconst 0, 1) := by decide +kernel
theorem dX9_forge_39 : decode cX9_forge 39 = .ok (.istore 6, 2) := by decide +kernel
theorem dX9_forge_41 : decode cX9_forge 41 = .ok (.aload_n 0, 1) := by decide +kernel
theorem dX9_forge_42 : decode cX9_forge 42 = .ok (.iload_n 1, 1) := by decide +kernel
theorem dX9_forge_43 : decode cX9_forge 43 = .ok (.invokevirtual 270, 3) := by decide +kernel
theorem dX9_forge_46 : decode cX9_forge 46 = .ok (.ifCond .eq 17, 3) := by decide +kernel
theorem dX9_forge_49 : decode cX9_forge 49 = .ok (.iload 6, 2) := by decide +kernel
theorem dX9_forge_51 : decode cX9_forge 51 = .ok (.ifCond .eq 15, 3) := by decide +kernel
theorem dX9_forge_54 : decode cX9_forge 54 = .ok (.aload_n 0, 1) := by decide +kernel
theorem dX9_forge_55 : decode cX9_forge 55 = .ok (.iload 4, 2) := by decide +kernel
theorem dX9_forge_57 : decode cX9_forge 57 = .ok (.invokevirtual 270, 3) := by decide +kernel
theorem dX9_forge_60 : decode cX9_forge 60 = .ok (.ifCond .ne 6, 3) := by decide +kernel
theorem dX9_forge_63 : decode cX9_forge 63 = .ok (.bipush (-2), 2) := by decide +kernel
theorem dX9_forge_65 : decode cX9_forge 65 = .ok (.ireturn, 1) := by decide +kernel
theorem dX9_forge_66 : decode cX9_forge 66 = .ok (.aload_n 0, 1) := by decide +kernel
theorem dX9_forge_67 : decode cX9_forge 67 = .ok (.iconst 0, 1) := by decide +kernel
theorem dX9_forge_68 : decode cX9_forge 68 = .ok (.iconst 1, 1) := by decide +kernel
theorem dX9_forge_69 : decode cX9_forge 69 = .ok (.invokevirtual 76, 3) := by decide +kernel
theorem dX9_forge_72 : decode cX9_forge 72 = .ok (.ifCond .ne 6, 3) := by decide +kernel
theorem dX9_forge_75 : decode cX9_forge 75 = .ok (.bipush (-7), 2) := by decide +kernel
theorem dX9_forge_77 : decode cX9_forge 77 = .ok (.ireturn, 1) := by decide +kernel
theorem dX9_forge_78 : decode cX9_forge 78 = .ok (.aload_n 0, 1) := by decide +kernel
theorem dX9_forge_79 : decode cX9_forge 79 = .ok (.iload_n 1, 1) := by decide +kernel
theorem dX9_forge_80 : decode cX9_forge 80 = .ok (.iload_n 2, 1) := by decide +kernel
theorem dX9_forge_81 : decode cX9_forge 81 = .ok (.iload_n 3, 1) := by decide +kernel
theorem dX9_forge_82 : decode cX9_forge 82 = .ok (.iload 4, 2) := by decide +kernel
theorem dX9_forge_84 : decode cX9_forge 84 = .ok (.iload 5, 2) := by decide +kernel
theorem dX9_forge_86 : decode cX9_forge 86 = .ok (.invokestatic 276, 3) := by decide +kernel
theorem dX9_forge_89 : decode cX9_forge 89 = .ok (.invokevirtual 130, 3) := by decide +kernel
theorem dX9_forge_92 : decode cX9_forge 92 = .ok (.ireturn, 1) := by decide +kernel
theorem dX9_seal_0 : decode cX9_seal 0 = .ok (.aload_n 0, 1) := by decide +kernel
theorem dX9_seal_1 : decode cX9_seal 1 = .ok (.iload_n 1, 1) := by decide +kernel
theorem dX9_seal_2 : decode cX9_seal 2 = .ok (.invokevirtual 155, 3) := by decide +kernel
theorem dX9_seal_5 : decode cX9_seal 5 = .ok (.astore_n 3, 1) := by decide +kernel
theorem dX9_seal_6 : decode cX9_seal 6 = .ok (.aload_n 3, 1) := by decide +kernel
theorem dX9_seal_7 : decode cX9_seal 7 = .ok (.ifnonnull 5, 3) := by decide +kernel
theorem dX9_seal_10 : decode cX9_seal 10 = .ok (.iconst (-1), 1) := by decide +kernel
theorem dX9_seal_11 : decode cX9_seal 11 = .ok (.ireturn, 1) := by decide +kernel
theorem dX9_seal_12 : decode cX9_seal 12 = .ok (.iload_n 2, 1) := by decide +kernel
theorem dX9_seal_13 : decode cX9_seal 13 = .ok (.tableswitch 42 0 2 #[27, 32, 37], 27) := by decide +kernel
theorem dX9_seal_40 : decode cX9_seal 40 = .ok (.aload_n 3, 1) := by decide +kernel
theorem dX9_seal_41 : decode cX9_seal 41 = .ok (.invokevirtual 280, 3) := by decide +kernel
theorem dX9_seal_44 : decode cX9_seal 44 = .ok (.ireturn, 1) := by decide +kernel
theorem dX9_seal_45 : decode cX9_seal 45 = .ok (.aload_n 3, 1) := by decide +kernel
theorem dX9_seal_46 : decode cX9_seal 46 = .ok (.invokevirtual 283, 3) := by decide +kernel
theorem dX9_seal_49 : decode cX9_seal 49 = .ok (.ireturn, 1) := by decide +kernel
theorem dX9_seal_50 : decode cX9_seal 50 = .ok (.aload_n 3, 1) := by decide +kernel
theorem dX9_seal_51 : decode cX9_seal 51 = .ok (.invokevirtual 286, 3) := by decide +kernel
theorem dX9_seal_54 : decode cX9_seal 54 = .ok (.ireturn, 1) := by decide +kernel
theorem dX9_seal_55 : decode cX9_seal 55 = .ok (.iconst (-1), 1) := by decide +kernel
theorem dX9_seal_56 : decode cX9_seal 56 = .ok (.ireturn, 1) := by decide +kernel
theorem dX9_look_0 : decode cX9_look 0 = .ok (.iload_n 1, 1) := by decide +kernel
theorem dX9_look_1 : decode cX9_look 1 = .ok (.tableswitch 124 0 7 #[47, 68, 86, 94, 100, 107, 114, 119], 47) := by decide +kernel
theorem dX9_look_48 : decode cX9_look 48 = .ok (.iload_n 2, 1) := by decide +kernel
theorem dX9_look_49 : decode cX9_look 49 = .ok (.invokestatic 98, 3) := by decide +kernel
theorem dX9_look_52 : decode cX9_look 52 = .ok (.ifCond .eq 15, 3) := by decide +kernel
theorem dX9_look_55 : decode cX9_look 55 = .ok (.aload_n 0, 1) := by decide +kernel
theorem dX9_look_56 : decode cX9_look 56 = .ok (.getfield 35, 3) := by decide +kernel
theorem dX9_look_59 : decode cX9_look 59 = .ok (.getfield 289, 3) := by decide +kernel
theorem dX9_look_62 : decode cX9_look 62 = .ok (.iload_n 2, 1) := by decide +kernel
theorem dX9_look_63 : decode cX9_look 63 = .ok (.iaload, 1) := by decide +kernel
theorem dX9_look_64 : decode cX9_look 64 = .ok (.goto 4, 3) := by decide +kernel
theorem dX9_look_67 : decode cX9_look 67 = .ok (.iconst (-1), 1) := by decide +kernel
theorem dX9_look_68 : decode cX9_look 68 = .ok (.ireturn, 1) := by decide +kernel
theorem dX9_look_69 : decode cX9_look 69 = .ok (.iload_n 2, 1) := by decide +kernel
theorem dX9_look_70 : decode cX9_look 70 = .ok (.invokestatic 72, 3) := by decide +kernel
theorem dX9_look_73 : decode cX9_look 73 = .ok (.ifCond .eq 12, 3) := by decide +kernel
theorem dX9_look_76 : decode cX9_look 76 = .ok (.aload_n 0, 1) := by decide +kernel
theorem dX9_look_77 : decode cX9_look 77 = .ok (.getfield 9, 3) := by decide +kernel
theorem dX9_look_80 : decode cX9_look 80 = .ok (.iload_n 2, 1) := by decide +kernel
theorem dX9_look_81 : decode cX9_look 81 = .ok (.iaload, 1) := by decide +kernel
theorem dX9_look_82 : decode cX9_look 82 = .ok (.goto 4, 3) := by decide +kernel
theorem dX9_look_85 : decode cX9_look 85 = .ok (.iconst (-1), 1) := by decide +kernel
theorem dX9_look_86 : decode cX9_look 86 = .ok (.ireturn, 1) := by decide +kernel
theorem dX9_look_87 : decode cX9_look 87 = .ok (.aload_n 0, 1) := by decide +kernel
theorem dX9_look_88 : decode cX9_look 88 = .ok (.getfield 35, 3) := by decide +kernel
theorem dX9_look_91 : decode cX9_look 91 = .ok (.getfield 292, 3) := by decide +kernel
theorem dX9_look_94 : decode cX9_look 94 = .ok (.ireturn, 1) := by decide +kernel
theorem dX9_look_95 : decode cX9_look 95 = .ok (.aload_n 0, 1) := by decide +kernel
theorem dX9_look_96 : decode cX9_look 96 = .ok (.iload_n 2, 1) := by decide +kernel
theorem dX9_look_97 : decode cX9_look 97 = .ok (.invokevirtual 295, 3) := by decide +kernel
theorem dX9_look_100 : decode cX9_look 100 = .ok (.ireturn, 1) := by decide +kernel
theorem dX9_look_101 : decode cX9_look 101 = .ok (.aload_n 0, 1) := by decide +kernel
theorem dX9_look_102 : decode cX9_look 102 = .ok (.iload_n 2, 1) := by decide +kernel
theorem dX9_look_103 : decode cX9_look 103 = .ok (.iconst 0, 1) := by decide +kernel
theorem dX9_look_104 : decode cX9_look 104 = .ok (.invokevirtual 299, 3) := by decide +kernel
theorem dX9_look_107 : decode cX9_look 107 = .ok (.ireturn, 1) := by decide +kernel
theorem dX9_look_108 : decode cX9_look 108 = .ok (.aload_n 0, 1) := by decide +kernel
theorem dX9_look_109 : decode cX9_look 109 = .ok (.iload_n 2, 1) := by decide +kernel
theorem dX9_look_110 : decode cX9_look 110 = .ok (.iconst 1, 1) := by decide +kernel
theorem dX9_look_111 : decode cX9_look 111 = .ok (.invokevirtual 299, 3) := by decide +kernel
theorem dX9_look_114 : decode cX9_look 114 = .ok (.ireturn, 1) := by decide +kernel
theorem dX9_look_115 : decode cX9_look 115 = .ok (.aload_n 0, 1) := by decide +kernel
theorem dX9_look_116 : decode cX9_look 116 = .ok (.getfield 45, 3) := by decide +kernel
theorem dX9_look_119 : decode cX9_look 119 = .ok (.ireturn, 1) := by decide +kernel
theorem dX9_look_120 : decode cX9_look 120 = .ok (.aload_n 0, 1) := by decide +kernel
theorem dX9_look_121 : decode cX9_look 121 = .ok (.getfield 53, 3) := by decide +kernel
theorem dX9_look_124 : decode cX9_look 124 = .ok (.ireturn, 1) := by decide +kernel
theorem dX9_look_125 : decode cX9_look 125 = .ok (.iconst (-1), 1) := by decide +kernel
theorem dX9_look_126 : decode cX9_look 126 = .ok (.ireturn, 1) := by decide +kernel
theorem dX9_isPrincipal_0 : decode cX9_isPrincipal 0 = .ok (.iload_n 0, 1) := by decide +kernel
theorem dX9_isPrincipal_1 : decode cX9_isPrincipal 1 = .ok (.ifCond .lt 13, 3) := by decide +kernel
theorem dX9_isPrincipal_4 : decode cX9_isPrincipal 4 = .ok (.iload_n 0, 1) := by decide +kernel
theorem dX9_isPrincipal_5 : decode cX9_isPrincipal 5 = .ok (.bipush 6, 2) := by decide +kernel
theorem dX9_isPrincipal_7 : decode cX9_isPrincipal 7 = .ok (.if_icmp .ge 7, 3) := by decide +kernel
theorem dX9_isPrincipal_10 : decode cX9_isPrincipal 10 = .ok (.iconst 1, 1) := by decide +kernel
theorem dX9_isPrincipal_11 : decode cX9_isPrincipal 11 = .ok (.goto 4, 3) := by decide +kernel
theorem dX9_isPrincipal_14 : decode cX9_isPrincipal 14 = .ok (.iconst 0, 1) := by decide +kernel
theorem dX9_isPrincipal_15 : decode cX9_isPrincipal 15 = .ok (.ireturn, 1) := by decide +kernel
theorem dX9_isUser_0 : decode cX9_isUser 0 = .ok (.iload_n 0, 1) := by decide +kernel
theorem dX9_isUser_1 : decode cX9_isUser 1 = .ok (.iconst 2, 1) := by decide +kernel
theorem dX9_isUser_2 : decode cX9_isUser 2 = .ok (.if_icmp .lt 13, 3) := by decide +kernel
theorem dX9_isUser_5 : decode cX9_isUser 5 = .ok (.iload_n 0, 1) := by decide +kernel
theorem dX9_isUser_6 : decode cX9_isUser 6 = .ok (.bipush 6, 2) := by decide +kernel
theorem dX9_isUser_8 : decode cX9_isUser 8 = .ok (.if_icmp .ge 7, 3) := by decide +kernel
theorem dX9_isUser_11 : decode cX9_isUser 11 = .ok (.iconst 1, 1) := by decide +kernel
theorem dX9_isUser_12 : decode cX9_isUser 12 = .ok (.goto 4, 3) := by decide +kernel
theorem dX9_isUser_15 : decode cX9_isUser 15 = .ok (.iconst 0, 1) := by decide +kernel
theorem dX9_isUser_16 : decode cX9_isUser 16 = .ok (.ireturn, 1) := by decide +kernel
theorem dX9_isTarget_0 : decode cX9_isTarget 0 = .ok (.iload_n 0, 1) := by decide +kernel
theorem dX9_isTarget_1 : decode cX9_isTarget 1 = .ok (.ifCond .lt 12, 3) := by decide +kernel
theorem dX9_isTarget_4 : decode cX9_isTarget 4 = .ok (.iload_n 0, 1) := by decide +kernel
theorem dX9_isTarget_5 : decode cX9_isTarget 5 = .ok (.iconst 2, 1) := by decide +kernel
theorem dX9_isTarget_6 : decode cX9_isTarget 6 = .ok (.if_icmp .ge 7, 3) := by decide +kernel
theorem dX9_isTarget_9 : decode cX9_isTarget 9 = .ok (.iconst 1, 1) := by decide +kernel
theorem dX9_isTarget_10 : decode cX9_isTarget 10 = .ok (.goto 4, 3) := by decide +kernel
theorem dX9_isTarget_13 : decode cX9_isTarget 13 = .ok (.iconst 0, 1) := by decide +kernel
theorem dX9_isTarget_14 : decode cX9_isTarget 14 = .ok (.ireturn, 1) := by decide +kernel
theorem dX9_isFile_0 : decode cX9_isFile 0 = .ok (.iload_n 0, 1) := by decide +kernel
theorem dX9_isFile_1 : decode cX9_isFile 1 = .ok (.ifCond .lt 12, 3) := by decide +kernel
theorem dX9_isFile_4 : decode cX9_isFile 4 = .ok (.iload_n 0, 1) := by decide +kernel
theorem dX9_isFile_5 : decode cX9_isFile 5 = .ok (.iconst 3, 1) := by decide +kernel
theorem dX9_isFile_6 : decode cX9_isFile 6 = .ok (.if_icmp .ge 7, 3) := by decide +kernel
theorem dX9_isFile_9 : decode cX9_isFile 9 = .ok (.iconst 1, 1) := by decide +kernel
theorem dX9_isFile_10 : decode cX9_isFile 10 = .ok (.goto 4, 3) := by decide +kernel
theorem dX9_isFile_13 : decode cX9_isFile 13 = .ok (.iconst 0, 1) := by decide +kernel
theorem dX9_isFile_14 : decode cX9_isFile 14 = .ok (.ireturn, 1) := by decide +kernel
theorem dX9_isUserInBook_0 : decode cX9_isUserInBook 0 = .ok (.iload_n 1, 1) := by decide +kernel
theorem dX9_isUserInBook_1 : decode cX9_isUserInBook 1 = .ok (.invokestatic 302, 3) := by decide +kernel
theorem dX9_isUserInBook_4 : decode cX9_isUserInBook 4 = .ok (.ifCond .eq 18, 3) := by decide +kernel
theorem dX9_isUserInBook_7 : decode cX9_isUserInBook 7 = .ok (.aload_n 0, 1) := by decide +kernel
theorem dX9_isUserInBook_8 : decode cX9_isUserInBook 8 = .ok (.getfield 19, 3) := by decide +kernel
theorem dX9_isUserInBook_11 : decode cX9_isUserInBook 11 = .ok (.iload_n 1, 1) := by decide +kernel
theorem dX9_isUserInBook_12 : decode cX9_isUserInBook 12 = .ok (.invokevirtual 88, 3) := by decide +kernel
theorem dX9_isUserInBook_15 : decode cX9_isUserInBook 15 = .ok (.ifCond .eq 7, 3) := by decide +kernel
theorem dX9_isUserInBook_18 : decode cX9_isUserInBook 18 = .ok (.iconst 1, 1) := by decide +kernel
theorem dX9_isUserInBook_19 : decode cX9_isUserInBook 19 = .ok (.goto 4, 3) := by decide +kernel
theorem dX9_isUserInBook_22 : decode cX9_isUserInBook 22 = .ok (.iconst 0, 1) := by decide +kernel
theorem dX9_isUserInBook_23 : decode cX9_isUserInBook 23 = .ok (.ireturn, 1) := by decide +kernel
theorem dX9_isTargetInBook_0 : decode cX9_isTargetInBook 0 = .ok (.iload_n 1, 1) := by decide +kernel
theorem dX9_isTargetInBook_1 : decode cX9_isTargetInBook 1 = .ok (.invokestatic 116, 3) := by decide +kernel
theorem dX9_isTargetInBook_4 : decode cX9_isTargetInBook 4 = .ok (.ifCond .eq 18, 3) := by decide +kernel
theorem dX9_isTargetInBook_7 : decode cX9_isTargetInBook 7 = .ok (.aload_n 0, 1) := by decide +kernel
theorem dX9_isTargetInBook_8 : decode cX9_isTargetInBook 8 = .ok (.getfield 19, 3) := by decide +kernel
theorem dX9_isTargetInBook_11 : decode cX9_isTargetInBook 11 = .ok (.iload_n 1, 1) := by decide +kernel
theorem dX9_isTargetInBook_12 : decode cX9_isTargetInBook 12 = .ok (.invokevirtual 88, 3) := by decide +kernel
theorem dX9_isTargetInBook_15 : decode cX9_isTargetInBook 15 = .ok (.ifCond .eq 7, 3) := by decide +kernel
theorem dX9_isTargetInBook_18 : decode cX9_isTargetInBook 18 = .ok (.iconst 1, 1) := by decide +kernel
theorem dX9_isTargetInBook_19 : decode cX9_isTargetInBook 19 = .ok (.goto 4, 3) := by decide +kernel
theorem dX9_isTargetInBook_22 : decode cX9_isTargetInBook 22 = .ok (.iconst 0, 1) := by decide +kernel
theorem dX9_isTargetInBook_23 : decode cX9_isTargetInBook 23 = .ok (.ireturn, 1) := by decide +kernel
theorem dX9_isStolen_0 : decode cX9_isStolen 0 = .ok (.iload_n 1, 1) := by decide +kernel
theorem dX9_isStolen_1 : decode cX9_isStolen 1 = .ok (.ifCond .lt 24, 3) := by decide +kernel
theorem dX9_isStolen_4 : decode cX9_isStolen 4 = .ok (.iload_n 1, 1) := by decide +kernel
theorem dX9_isStolen_5 : decode cX9_isStolen 5 = .ok (.aload_n 0, 1) := by decide +kernel
theorem dX9_isStolen_6 : decode cX9_isStolen 6 = .ok (.getfield 53, 3) := by decide +kernel
theorem dX9_isStolen_9 : decode cX9_isStolen 9 = .ok (.if_icmp .ge 16, 3) := by decide +kernel
theorem dX9_isStolen_12 : decode cX9_isStolen 12 = .ok (.aload_n 0, 1) := by decide +kernel
theorem dX9_isStolen_13 : decode cX9_isStolen 13 = .ok (.getfield 49, 3) := by decide +kernel
theorem dX9_isStolen_16 : decode cX9_isStolen 16 = .ok (.iload_n 1, 1) := by decide +kernel
theorem dX9_isStolen_17 : decode cX9_isStolen 17 = .ok (.baload, 1) := by decide +kernel
theorem dX9_isStolen_18 : decode cX9_isStolen 18 = .ok (.ifCond .eq 7, 3) := by decide +kernel
theorem dX9_isStolen_21 : decode cX9_isStolen 21 = .ok (.iconst 1, 1) := by decide +kernel
theorem dX9_isStolen_22 : decode cX9_isStolen 22 = .ok (.goto 4, 3) := by decide +kernel
theorem dX9_isStolen_25 : decode cX9_isStolen 25 = .ok (.iconst 0, 1) := by decide +kernel
theorem dX9_isStolen_26 : decode cX9_isStolen 26 = .ok (.ireturn, 1) := by decide +kernel
theorem dX9_userAt_0 : decode cX9_userAt 0 = .ok (.iload_n 1, 1) := by decide +kernel
theorem dX9_userAt_1 : decode cX9_userAt 1 = .ok (.invokestatic 302, 3) := by decide +kernel
theorem dX9_userAt_4 : decode cX9_userAt 4 = .ok (.ifCond .eq 14, 3) := by decide +kernel
theorem dX9_userAt_7 : decode cX9_userAt 7 = .ok (.aload_n 0, 1) := by decide +kernel
theorem dX9_userAt_8 : decode cX9_userAt 8 = .ok (.getfield 28, 3) := by decide +kernel
theorem dX9_userAt_11 : decode cX9_userAt 11 = .ok (.iload_n 1, 1) := by decide +kernel
theorem dX9_userAt_12 : decode cX9_userAt 12 = .ok (.iconst 2, 1) := by decide +kernel
theorem dX9_userAt_13 : decode cX9_userAt 13 = .ok (.isub, 1) := by decide +kernel
theorem dX9_userAt_14 : decode cX9_userAt 14 = .ok (.aaload, 1) := by decide +kernel
theorem dX9_userAt_15 : decode cX9_userAt 15 = .ok (.goto 4, 3) := by decide +kernel
theorem dX9_userAt_18 : decode cX9_userAt 18 = .ok (.aconst_null, 1) := by decide +kernel
theorem dX9_userAt_19 : decode cX9_userAt 19 = .ok (.areturn, 1) := by decide +kernel
theorem dX9_near_0 : decode cX9_near 0 = .ok (.iload_n 1, 1) := by decide +kernel
theorem dX9_near_1 : decode cX9_near 1 = .ok (.i2l, 1) := by decide +kernel
theorem dX9_near_2 : decode cX9_near 2 = .ok (.iload_n 2, 1) := by decide +kernel
theorem dX9_near_3 : decode cX9_near 3 = .ok (.i2l, 1) := by decide +kernel
theorem dX9_near_4 : decode cX9_near 4 = .ok (.lsub, 1) := by decide +kernel
theorem dX9_near_5 : decode cX9_near 5 = .ok (.invokestatic 305, 3) := by decide +kernel
theorem dX9_near_8 : decode cX9_near 8 = .ok (.aload_n 0, 1) := by decide +kernel
theorem dX9_near_9 : decode cX9_near 9 = .ok (.getfield 68, 3) := by decide +kernel
theorem dX9_near_12 : decode cX9_near 12 = .ok (.i2l, 1) := by decide +kernel
theorem dX9_near_13 : decode cX9_near 13 = .ok (.lcmp, 1) := by decide +kernel
theorem dX9_near_14 : decode cX9_near 14 = .ok (.ifCond .gt 7, 3) := by decide +kernel
theorem dX9_near_17 : decode cX9_near 17 = .ok (.iconst 1, 1) := by decide +kernel
theorem dX9_near_18 : decode cX9_near 18 = .ok (.goto 4, 3) := by decide +kernel
theorem dX9_near_21 : decode cX9_near 21 = .ok (.iconst 0, 1) := by decide +kernel
theorem dX9_near_22 : decode cX9_near 22 = .ok (.ireturn, 1) := by decide +kernel
theorem dX9_hasRoom_0 : decode cX9_hasRoom 0 = .ok (.aload_n 0, 1) := by decide +kernel
theorem dX9_hasRoom_1 : decode cX9_hasRoom 1 = .ok (.getfield 53, 3) := by decide +kernel
theorem dX9_hasRoom_4 : decode cX9_hasRoom 4 = .ok (.iload_n 1, 1) := by decide +kernel
theorem dX9_hasRoom_5 : decode cX9_hasRoom 5 = .ok (.iadd, 1) := by decide +kernel
theorem dX9_hasRoom_6 : decode cX9_hasRoom 6 = .ok (.sipush 200, 3) := by decide +kernel
theorem dX9_hasRoom_9 : decode cX9_hasRoom 9 = .ok (.if_icmp .gt 19, 3) := by decide +kernel
theorem dX9_hasRoom_12 : decode cX9_hasRoom 12 = .ok (.aload_n 0, 1) := by decide +kernel
theorem dX9_hasRoom_13 : decode cX9_hasRoom 13 = .ok (.getfield 45, 3) := by decide +kernel
theorem dX9_hasRoom_16 : decode cX9_hasRoom 16 = .ok (.iload_n 2, 1) := by decide +kernel
theorem dX9_hasRoom_17 : decode cX9_hasRoom 17 = .ok (.iadd, 1) := by decide +kernel
theorem dX9_hasRoom_18 : decode cX9_hasRoom 18 = .ok (.sipush 150, 3) := by decide +kernel
theorem dX9_hasRoom_21 : decode cX9_hasRoom 21 = .ok (.if_icmp .gt 7, 3) := by decide +kernel
theorem dX9_hasRoom_24 : decode cX9_hasRoom 24 = .ok (.iconst 1, 1) := by decide +kernel
theorem dX9_hasRoom_25 : decode cX9_hasRoom 25 = .ok (.goto 4, 3) := by decide +kernel
theorem dX9_hasRoom_28 : decode cX9_hasRoom 28 = .ok (.iconst 0, 1) := by decide +kernel
theorem dX9_hasRoom_29 : decode cX9_hasRoom 29 = .ok (.ireturn, 1) := by decide +kernel
theorem dX9_makeKey_0 : decode cX9_makeKey 0 = .ok (.aload_n 0, 1) := by decide +kernel
theorem dX9_makeKey_1 : decode cX9_makeKey 1 = .ok (.getfield 53, 3) := by decide +kernel
theorem dX9_makeKey_4 : decode cX9_makeKey 4 = .ok (.istore_n 1, 1) := by decide +kernel
theorem dX9_makeKey_5 : decode cX9_makeKey 5 = .ok (.aload_n 0, 1) := by decide +kernel
theorem dX9_makeKey_6 : decode cX9_makeKey 6 = .ok (.dup, 1) := by decide +kernel
theorem dX9_makeKey_7 : decode cX9_makeKey 7 = .ok (.getfield 53, 3) := by decide +kernel
theorem dX9_makeKey_10 : decode cX9_makeKey 10 = .ok (.iconst 1, 1) := by decide +kernel
theorem dX9_makeKey_11 : decode cX9_makeKey 11 = .ok (.iadd, 1) := by decide +kernel
theorem dX9_makeKey_12 : decode cX9_makeKey 12 = .ok (.putfield 53, 3) := by decide +kernel
theorem dX9_makeKey_15 : decode cX9_makeKey 15 = .ok (.iload_n 1, 1) := by decide +kernel
theorem dX9_makeKey_16 : decode cX9_makeKey 16 = .ok (.ireturn, 1) := by decide +kernel
theorem dX9_makeNonce_0 : decode cX9_makeNonce 0 = .ok (.aload_n 0, 1) := by decide +kernel
theorem dX9_makeNonce_1 : decode cX9_makeNonce 1 = .ok (.dup, 1) := by decide +kernel
theorem dX9_makeNonce_2 : decode cX9_makeNonce 2 = .ok (.getfield 56, 3) := by decide +kernel
theorem dX9_makeNonce_5 : decode cX9_makeNonce 5 = .ok (.iconst 1, 1) := by decide +kernel
theorem dX9_makeNonce_6 : decode cX9_makeNonce 6 = .ok (.iadd, 1) := by decide +kernel
theorem dX9_makeNonce_7 : decode cX9_makeNonce 7 = .ok (.putfield 56, 3) := by decide +kernel
theorem dX9_makeNonce_10 : decode cX9_makeNonce 10 = .ok (.aload_n 0, 1) := by decide +kernel
theorem dX9_makeNonce_11 : decode cX9_makeNonce 11 = .ok (.getfield 56, 3) := by decide +kernel
theorem dX9_makeNonce_14 : decode cX9_makeNonce 14 = .ok (.ireturn, 1) := by decide +kernel
theorem dX9_keep_0 : decode cX9_keep 0 = .ok (.aload_n 0, 1) := by decide +kernel
theorem dX9_keep_1 : decode cX9_keep 1 = .ok (.getfield 45, 3) := by decide +kernel
theorem dX9_keep_4 : decode cX9_keep 4 = .ok (.istore_n 2, 1) := by decide +kernel
theorem dX9_keep_5 : decode cX9_keep 5 = .ok (.aload_n 0, 1) := by decide +kernel
theorem dX9_keep_6 : decode cX9_keep 6 = .ok (.getfield 41, 3) := by decide +kernel
theorem dX9_keep_9 : decode cX9_keep 9 = .ok (.iload_n 2, 1) := by decide +kernel
theorem dX9_keep_10 : decode cX9_keep 10 = .ok (.aload_n 1, 1) := by decide +kernel
theorem dX9_keep_11 : decode cX9_keep 11 = .ok (.aastore, 1) := by decide +kernel
theorem dX9_keep_12 : decode cX9_keep 12 = .ok (.aload_n 0, 1) := by decide +kernel
theorem dX9_keep_13 : decode cX9_keep 13 = .ok (.dup, 1) := by decide +kernel
theorem dX9_keep_14 : decode cX9_keep 14 = .ok (.getfield 45, 3) := by decide +kernel
theorem dX9_keep_17 : decode cX9_keep 17 = .ok (.iconst 1, 1) := by decide +kernel
theorem dX9_keep_18 : decode cX9_keep 18 = .ok (.iadd, 1) := by decide +kernel
theorem dX9_keep_19 : decode cX9_keep 19 = .ok (.putfield 45, 3) := by decide +kernel
theorem dX9_keep_22 : decode cX9_keep 22 = .ok (.iload_n 2, 1) := by decide +kernel
theorem dX9_keep_23 : decode cX9_keep 23 = .ok (.ireturn, 1) := by decide +kernel
theorem dX9_sealAt_0 : decode cX9_sealAt 0 = .ok (.iload_n 1, 1) := by decide +kernel
theorem dX9_sealAt_1 : decode cX9_sealAt 1 = .ok (.ifCond .lt 20, 3) := by decide +kernel
theorem dX9_sealAt_4 : decode cX9_sealAt 4 = .ok (.iload_n 1, 1) := by decide +kernel
theorem dX9_sealAt_5 : decode cX9_sealAt 5 = .ok (.aload_n 0, 1) := by decide +kernel
theorem dX9_sealAt_6 : decode cX9_sealAt 6 = .ok (.getfield 45, 3) := by decide +kernel
theorem dX9_sealAt_9 : decode cX9_sealAt 9 = .ok (.if_icmp .ge 12, 3) := by decide +kernel
theorem dX9_sealAt_12 : decode cX9_sealAt 12 = .ok (.aload_n 0, 1) := by decide +kernel
theorem dX9_sealAt_13 : decode cX9_sealAt 13 = .ok (.getfield 41, 3) := by decide +kernel
theorem dX9_sealAt_16 : decode cX9_sealAt 16 = .ok (.iload_n 1, 1) := by decide +kernel
theorem dX9_sealAt_17 : decode cX9_sealAt 17 = .ok (.aaload, 1) := by decide +kernel
theorem dX9_sealAt_18 : decode cX9_sealAt 18 = .ok (.goto 4, 3) := by decide +kernel
theorem dX9_sealAt_21 : decode cX9_sealAt 21 = .ok (.aconst_null, 1) := by decide +kernel
theorem dX9_sealAt_22 : decode cX9_sealAt 22 = .ok (.areturn, 1) := by decide +kernel
theorem dX9_open_0 : decode cX9_open 0 = .ok (.aload_n 0, 1) := by decide +kernel
theorem dX9_open_1 : decode cX9_open 1 = .ok (.iload_n 1, 1) := by decide +kernel
theorem dX9_open_2 : decode cX9_open 2 = .ok (.invokevirtual 155, 3) := by decide +kernel
theorem dX9_open_5 : decode cX9_open 5 = .ok (.astore_n 3, 1) := by decide +kernel
theorem dX9_open_6 : decode cX9_open 6 = .ok (.aload_n 3, 1) := by decide +kernel
theorem dX9_open_7 : decode cX9_open 7 = .ok (.ifnull 15, 3) := by decide +kernel
theorem dX9_open_10 : decode cX9_open 10 = .ok (.aload_n 3, 1) := by decide +kernel
theorem dX9_open_11 : decode cX9_open 11 = .ok (.getfield 267, 3) := by decide +kernel
theorem dX9_open_14 : decode cX9_open 14 = .ok (.iload_n 2, 1) := by decide +kernel
theorem dX9_open_15 : decode cX9_open 15 = .ok (.if_icmp .ne 7, 3) := by decide +kernel
theorem dX9_open_18 : decode cX9_open 18 = .ok (.aload_n 3, 1) := by decide +kernel
theorem dX9_open_19 : decode cX9_open 19 = .ok (.goto 4, 3) := by decide +kernel
theorem dX9_open_22 : decode cX9_open 22 = .ok (.aconst_null, 1) := by decide +kernel
theorem dX9_open_23 : decode cX9_open 23 = .ok (.areturn, 1) := by decide +kernel
theorem dX9_openProof_0 : decode cX9_openProof 0 = .ok (.aload_n 0, 1) := by decide +kernel
theorem dX9_openProof_1 : decode cX9_openProof 1 = .ok (.iload_n 1, 1) := by decide +kernel
theorem dX9_openProof_2 : decode cX9_openProof 2 = .ok (.iload_n 2, 1) := by decide +kernel
theorem dX9_openProof_3 : decode cX9_openProof 3 = .ok (.invokevirtual 309, 3) := by decide +kernel
theorem dX9_openProof_6 : decode cX9_openProof 6 = .ok (.astore 4, 2) := by decide +kernel
theorem dX9_openProof_8 : decode cX9_openProof 8 = .ok (.aload 4, 2) := by decide +kernel
theorem dX9_openProof_10 : decode cX9_openProof 10 = .ok (.instanceof 126, 3) := by decide +kernel
theorem dX9_openProof_13 : decode cX9_openProof 13 = .ok (.ifCond .eq 11, 3) := by decide +kernel
theorem dX9_openProof_16 : decode cX9_openProof 16 = .ok (.aload 4, 2) := by decide +kernel
theorem dX9_openProof_18 : decode cX9_openProof 18 = .ok (.checkcast 126, 3) := by decide +kernel
theorem dX9_openProof_21 : decode cX9_openProof 21 = .ok (.astore_n 3, 1) := by decide +kernel
theorem dX9_openProof_22 : decode cX9_openProof 22 = .ok (.aload_n 3, 1) := by decide +kernel
theorem dX9_openProof_23 : decode cX9_openProof 23 = .ok (.areturn, 1) := by decide +kernel
theorem dX9_openProof_24 : decode cX9_openProof 24 = .ok (.aconst_null, 1) := by decide +kernel
theorem dX9_openProof_25 : decode cX9_openProof 25 = .ok (.areturn, 1) := by decide +kernel
theorem dX9_openTicket_0 : decode cX9_openTicket 0 = .ok (.aload_n 0, 1) := by decide +kernel
theorem dX9_openTicket_1 : decode cX9_openTicket 1 = .ok (.iload_n 1, 1) := by decide +kernel
theorem dX9_openTicket_2 : decode cX9_openTicket 2 = .ok (.iload_n 2, 1) := by decide +kernel
theorem dX9_openTicket_3 : decode cX9_openTicket 3 = .ok (.invokevirtual 309, 3) := by decide +kernel
theorem dX9_openTicket_6 : decode cX9_openTicket 6 = .ok (.astore 4, 2) := by decide +kernel
theorem dX9_openTicket_8 : decode cX9_openTicket 8 = .ok (.aload 4, 2) := by decide +kernel
theorem dX9_openTicket_10 : decode cX9_openTicket 10 = .ok (.instanceof 221, 3) := by decide +kernel
theorem dX9_openTicket_13 : decode cX9_openTicket 13 = .ok (.ifCond .eq 11, 3) := by decide +kernel
theorem dX9_openTicket_16 : decode cX9_openTicket 16 = .ok (.aload 4, 2) := by decide +kernel
theorem dX9_openTicket_18 : decode cX9_openTicket 18 = .ok (.checkcast 221, 3) := by decide +kernel
theorem dX9_openTicket_21 : decode cX9_openTicket 21 = .ok (.astore_n 3, 1) := by decide +kernel
theorem dX9_openTicket_22 : decode cX9_openTicket 22 = .ok (.aload_n 3, 1) := by decide +kernel
theorem dX9_openTicket_23 : decode cX9_openTicket 23 = .ok (.areturn, 1) := by decide +kernel
theorem dX9_openTicket_24 : decode cX9_openTicket 24 = .ok (.aconst_null, 1) := by decide +kernel
theorem dX9_openTicket_25 : decode cX9_openTicket 25 = .ok (.areturn, 1) := by decide +kernel
theorem dX9_openPart_0 : decode cX9_openPart 0 = .ok (.aload_n 0, 1) := by decide +kernel
theorem dX9_openPart_1 : decode cX9_openPart 1 = .ok (.iload_n 1, 1) := by decide +kernel
theorem dX9_openPart_2 : decode cX9_openPart 2 = .ok (.iload_n 2, 1) := by decide +kernel
theorem dX9_openPart_3 : decode cX9_openPart 3 = .ok (.invokevirtual 309, 3) := by decide +kernel
theorem dX9_openPart_6 : decode cX9_openPart 6 = .ok (.astore 4, 2) := by decide +kernel
theorem dX9_openPart_8 : decode cX9_openPart 8 = .ok (.aload 4, 2) := by decide +kernel
theorem dX9_openPart_10 : decode cX9_openPart 10 = .ok (.instanceof 167, 3) := by decide +kernel
theorem dX9_openPart_13 : decode cX9_openPart 13 = .ok (.ifCond .eq 11, 3) := by decide +kernel
theorem dX9_openPart_16 : decode cX9_openPart 16 = .ok (.aload 4, 2) := by decide +kernel
theorem dX9_openPart_18 : decode cX9_openPart 18 = .ok (.checkcast 167, 3) := by decide +kernel
theorem dX9_openPart_21 : decode cX9_openPart 21 = .ok (.astore_n 3, 1) := by decide +kernel
theorem dX9_openPart_22 : decode cX9_openPart 22 = .ok (.aload_n 3, 1) := by decide +kernel
theorem dX9_openPart_23 : decode cX9_openPart 23 = .ok (.areturn, 1) := by decide +kernel
theorem dX9_openPart_24 : decode cX9_openPart 24 = .ok (.aconst_null, 1) := by decide +kernel
theorem dX9_openPart_25 : decode cX9_openPart 25 = .ok (.areturn, 1) := by decide +kernel
theorem dX9_openClaim_0 : decode cX9_openClaim 0 = .ok (.aload_n 0, 1) := by decide +kernel
theorem dX9_openClaim_1 : decode cX9_openClaim 1 = .ok (.iload_n 1, 1) := by decide +kernel
theorem dX9_openClaim_2 : decode cX9_openClaim 2 = .ok (.iload_n 2, 1) := by decide +kernel
theorem dX9_openClaim_3 : decode cX9_openClaim 3 = .ok (.invokevirtual 309, 3) := by decide +kernel
theorem dX9_openClaim_6 : decode cX9_openClaim 6 = .ok (.astore 4, 2) := by decide +kernel
theorem dX9_openClaim_8 : decode cX9_openClaim 8 = .ok (.aload 4, 2) := by decide +kernel
theorem dX9_openClaim_10 : decode cX9_openClaim 10 = .ok (.instanceof 140, 3) := by decide +kernel
theorem dX9_openClaim_13 : decode cX9_openClaim 13 = .ok (.ifCond .eq 11, 3) := by decide +kernel
theorem dX9_openClaim_16 : decode cX9_openClaim 16 = .ok (.aload 4, 2) := by decide +kernel
theorem dX9_openClaim_18 : decode cX9_openClaim 18 = .ok (.checkcast 140, 3) := by decide +kernel
theorem dX9_openClaim_21 : decode cX9_openClaim 21 = .ok (.astore_n 3, 1) := by decide +kernel
theorem dX9_openClaim_22 : decode cX9_openClaim 22 = .ok (.aload_n 3, 1) := by decide +kernel
theorem dX9_openClaim_23 : decode cX9_openClaim 23 = .ok (.areturn, 1) := by decide +kernel
theorem dX9_openClaim_24 : decode cX9_openClaim 24 = .ok (.aconst_null, 1) := by decide +kernel
theorem dX9_openClaim_25 : decode cX9_openClaim 25 = .ok (.areturn, 1) := by decide +kernel
theorem dX9_firstEnd_0 : decode cX9_firstEnd 0 = .ok (.iload_n 3, 1) := by decide +kernel
theorem dX9_firstEnd_1 : decode cX9_firstEnd 1 = .ok (.aload_n 0, 1) := by decide +kernel
theorem dX9_firstEnd_2 : decode cX9_firstEnd 2 = .ok (.getfield 19, 3) := by decide +kernel
theorem dX9_firstEnd_5 : decode cX9_firstEnd 5 = .ok (.getfield 95, 3) := by decide +kernel
theorem dX9_firstEnd_8 : decode cX9_firstEnd 8 = .ok (.iload_n 1, 1) := by decide +kernel
theorem dX9_firstEnd_9 : decode cX9_firstEnd 9 = .ok (.iaload, 1) := by decide +kernel
theorem dX9_firstEnd_10 : decode cX9_firstEnd 10 = .ok (.aload_n 0, 1) := by decide +kernel
theorem dX9_firstEnd_11 : decode cX9_firstEnd 11 = .ok (.getfield 19, 3) := by decide +kernel
theorem dX9_firstEnd_14 : decode cX9_firstEnd 14 = .ok (.getfield 95, 3) := by decide +kernel
theorem dX9_firstEnd_17 : decode cX9_firstEnd 17 = .ok (.iload_n 2, 1) := by decide +kernel
theorem dX9_firstEnd_18 : decode cX9_firstEnd 18 = .ok (.iaload, 1) := by decide +kernel
theorem dX9_firstEnd_19 : decode cX9_firstEnd 19 = .ok (.invokestatic 59, 3) := by decide +kernel
theorem dX9_firstEnd_22 : decode cX9_firstEnd 22 = .ok (.invokestatic 59, 3) := by decide +kernel
theorem dX9_firstEnd_25 : decode cX9_firstEnd 25 = .ok (.istore 4, 2) := by decide +kernel
theorem dX9_firstEnd_27 : decode cX9_firstEnd 27 = .ok (.aload_n 0, 1) := by decide +kernel
theorem dX9_firstEnd_28 : decode cX9_firstEnd 28 = .ok (.getfield 9, 3) := by decide +kernel
theorem dX9_firstEnd_31 : decode cX9_firstEnd 31 = .ok (.iconst 0, 1) := by decide +kernel
theorem dX9_firstEnd_32 : decode cX9_firstEnd 32 = .ok (.iaload, 1) := by decide +kernel
theorem dX9_firstEnd_33 : decode cX9_firstEnd 33 = .ok (.iload 4, 2) := by decide +kernel
theorem dX9_firstEnd_35 : decode cX9_firstEnd 35 = .ok (.iadd, 1) := by decide +kernel
theorem dX9_firstEnd_36 : decode cX9_firstEnd 36 = .ok (.ireturn, 1) := by decide +kernel
theorem dX9_makeTicketAndPart_0 : decode cX9_makeTicketAndPart 0 = .ok (.aload_n 0, 1) := by decide +kernel
theorem dX9_makeTicketAndPart_1 : decode cX9_makeTicketAndPart 1 = .ok (.invokevirtual 80, 3) := by decide +kernel
theorem dX9_makeTicketAndPart_4 : decode cX9_makeTicketAndPart 4 = .ok (.istore 7, 2) := by decide +kernel
theorem dX9_makeTicketAndPart_6 : decode cX9_makeTicketAndPart 6 = .ok (.aload_n 0, 1) := by decide +kernel
theorem dX9_makeTicketAndPart_7 : decode cX9_makeTicketAndPart 7 = .ok (.new 221, 3) := by decide +kernel
theorem dX9_makeTicketAndPart_10 : decode cX9_makeTicketAndPart 10 = .ok (.dup, 1) := by decide +kernel
theorem dX9_makeTicketAndPart_11 : decode cX9_makeTicketAndPart 11 = .ok (.aload_n 0, 1) := by decide +kernel
theorem dX9_makeTicketAndPart_12 : decode cX9_makeTicketAndPart 12 = .ok (.getfield 19, 3) := by decide +kernel
theorem dX9_makeTicketAndPart_15 : decode cX9_makeTicketAndPart 15 = .ok (.getfield 192, 3) := by decide +kernel
theorem dX9_makeTicketAndPart_18 : decode cX9_makeTicketAndPart 18 = .ok (.iload_n 2, 1) := by decide +kernel
theorem dX9_makeTicketAndPart_19 : decode cX9_makeTicketAndPart 19 = .ok (.iaload, 1) := by decide +kernel
theorem dX9_makeTicketAndPart_20 : decode cX9_makeTicketAndPart 20 = .ok (.iload_n 1, 1) := by decide +kernel
theorem dX9_makeTicketAndPart_21 : decode cX9_makeTicketAndPart 21 = .ok (.iload 7, 2) := by decide +kernel
theorem dX9_makeTicketAndPart_23 : decode cX9_makeTicketAndPart 23 = .ok (.aload_n 0, 1) := by decide +kernel
theorem dX9_makeTicketAndPart_24 : decode cX9_makeTicketAndPart 24 = .ok (.getfield 9, 3) := by decide +kernel
theorem dX9_makeTicketAndPart_27 : decode cX9_makeTicketAndPart 27 = .ok (.iconst 0, 1) := by decide +kernel
theorem dX9_makeTicketAndPart_28 : decode cX9_makeTicketAndPart 28 = .ok (.iaload, 1) := by decide +kernel
theorem dX9_makeTicketAndPart_29 : decode cX9_makeTicketAndPart 29 = .ok (.iload 5, 2) := by decide +kernel
theorem dX9_makeTicketAndPart_31 : decode cX9_makeTicketAndPart 31 = .ok (.iload 6, 2) := by decide +kernel
theorem dX9_makeTicketAndPart_33 : decode cX9_makeTicketAndPart 33 = .ok (.invokespecial 313, 3) := by decide +kernel
theorem dX9_makeTicketAndPart_36 : decode cX9_makeTicketAndPart 36 = .ok (.invokevirtual 130, 3) := by decide +kernel
theorem dX9_makeTicketAndPart_39 : decode cX9_makeTicketAndPart 39 = .ok (.istore 8, 2) := by decide +kernel
theorem dX9_makeTicketAndPart_41 : decode cX9_makeTicketAndPart 41 = .ok (.aload_n 0, 1) := by decide +kernel
theorem dX9_makeTicketAndPart_42 : decode cX9_makeTicketAndPart 42 = .ok (.new 167, 3) := by decide +kernel
theorem dX9_makeTicketAndPart_45 : decode cX9_makeTicketAndPart 45 = .ok (.dup, 1) := by decide +kernel
theorem dX9_makeTicketAndPart_46 : decode cX9_makeTicketAndPart 46 = .ok (.iload 4, 2) := by decide +kernel
theorem dX9_makeTicketAndPart_48 : decode cX9_makeTicketAndPart 48 = .ok (.iload 7, 2) := by decide +kernel
theorem dX9_makeTicketAndPart_50 : decode cX9_makeTicketAndPart 50 = .ok (.iload_n 3, 1) := by decide +kernel
theorem dX9_makeTicketAndPart_51 : decode cX9_makeTicketAndPart 51 = .ok (.iload_n 2, 1) := by decide +kernel
theorem dX9_makeTicketAndPart_52 : decode cX9_makeTicketAndPart 52 = .ok (.iload 5, 2) := by decide +kernel
theorem dX9_makeTicketAndPart_54 : decode cX9_makeTicketAndPart 54 = .ok (.invokespecial 316, 3) := by decide +kernel
theorem dX9_makeTicketAndPart_57 : decode cX9_makeTicketAndPart 57 = .ok (.invokevirtual 130, 3) := by decide +kernel
theorem dX9_makeTicketAndPart_60 : decode cX9_makeTicketAndPart 60 = .ok (.pop, 1) := by decide +kernel
theorem dX9_makeTicketAndPart_61 : decode cX9_makeTicketAndPart 61 = .ok (.iload 8, 2) := by decide +kernel
theorem dX9_makeTicketAndPart_63 : decode cX9_makeTicketAndPart 63 = .ok (.ireturn, 1) := by decide +kernel
theorem dX9_forgedSeal_0 : decode cX9_forgedSeal 0 = .ok (.iload_n 1, 1) := by decide +kernel
theorem dX9_forgedSeal_1 : decode cX9_forgedSeal 1 = .ok (.tableswitch 71 1 3 #[27, 39, 55], 27) := by decide +kernel
theorem dX9_forgedSeal_28 : decode cX9_forgedSeal 28 = .ok (.new 126, 3) := by decide +kernel
theorem dX9_forgedSeal_31 : decode cX9_forgedSeal 31 = .ok (.dup, 1) := by decide +kernel
theorem dX9_forgedSeal_32 : decode cX9_forgedSeal 32 = .ok (.iload_n 0, 1) := by decide +kernel
theorem dX9_forgedSeal_33 : decode cX9_forgedSeal 33 = .ok (.iload_n 2, 1) := by decide +kernel
theorem dX9_forgedSeal_34 : decode cX9_forgedSeal 34 = .ok (.iload 4, 2) := by decide +kernel
theorem dX9_forgedSeal_36 : decode cX9_forgedSeal 36 = .ok (.invokespecial 128, 3) := by decide +kernel
theorem dX9_forgedSeal_39 : decode cX9_forgedSeal 39 = .ok (.areturn, 1) := by decide +kernel
theorem dX9_forgedSeal_40 : decode cX9_forgedSeal 40 = .ok (.new 221, 3) := by decide +kernel
theorem dX9_forgedSeal_43 : decode cX9_forgedSeal 43 = .ok (.dup, 1) := by decide +kernel
theorem dX9_forgedSeal_44 : decode cX9_forgedSeal 44 = .ok (.iload_n 0, 1) := by decide +kernel
theorem dX9_forgedSeal_45 : decode cX9_forgedSeal 45 = .ok (.iload_n 2, 1) := by decide +kernel
theorem dX9_forgedSeal_46 : decode cX9_forgedSeal 46 = .ok (.iload_n 3, 1) := by decide +kernel
theorem dX9_forgedSeal_47 : decode cX9_forgedSeal 47 = .ok (.iconst 0, 1) := by decide +kernel
theorem dX9_forgedSeal_48 : decode cX9_forgedSeal 48 = .ok (.iload 4, 2) := by decide +kernel
theorem dX9_forgedSeal_50 : decode cX9_forgedSeal 50 = .ok (.iload 4, 2) := by decide +kernel
theorem dX9_forgedSeal_52 : decode cX9_forgedSeal 52 = .ok (.invokespecial 313, 3) := by decide +kernel
theorem dX9_forgedSeal_55 : decode cX9_forgedSeal 55 = .ok (.areturn, 1) := by decide +kernel
theorem dX9_forgedSeal_56 : decode cX9_forgedSeal 56 = .ok (.new 167, 3) := by decide +kernel
theorem dX9_forgedSeal_59 : decode cX9_forgedSeal 59 = .ok (.dup, 1) := by decide +kernel
theorem dX9_forgedSeal_60 : decode cX9_forgedSeal 60 = .ok (.iload_n 0, 1) := by decide +kernel
theorem dX9_forgedSeal_61 : decode cX9_forgedSeal 61 = .ok (.iload_n 3, 1) := by decide +kernel
theorem dX9_forgedSeal_62 : decode cX9_forgedSeal 62 = .ok (.iload 4, 2) := by decide +kernel
theorem dX9_forgedSeal_64 : decode cX9_forgedSeal 64 = .ok (.iconst 1, 1) := by decide +kernel
theorem dX9_forgedSeal_65 : decode cX9_forgedSeal 65 = .ok (.ldc_w 319, 3) := by decide +kernel
theorem dX9_forgedSeal_68 : decode cX9_forgedSeal 68 = .ok (.invokespecial 316, 3) := by decide +kernel
theorem dX9_forgedSeal_71 : decode cX9_forgedSeal 71 = .ok (.areturn, 1) := by decide +kernel
theorem dX9_forgedSeal_72 : decode cX9_forgedSeal 72 = .ok (.new 140, 3) := by decide +kernel
theorem dX9_forgedSeal_75 : decode cX9_forgedSeal 75 = .ok (.dup, 1) := by decide +kernel
theorem dX9_forgedSeal_76 : decode cX9_forgedSeal 76 = .ok (.iload_n 0, 1) := by decide +kernel
theorem dX9_forgedSeal_77 : decode cX9_forgedSeal 77 = .ok (.iload_n 2, 1) := by decide +kernel
theorem dX9_forgedSeal_78 : decode cX9_forgedSeal 78 = .ok (.iload 4, 2) := by decide +kernel
theorem dX9_forgedSeal_80 : decode cX9_forgedSeal 80 = .ok (.iconst 0, 1) := by decide +kernel
theorem dX9_forgedSeal_81 : decode cX9_forgedSeal 81 = .ok (.new 145, 3) := by decide +kernel
theorem dX9_forgedSeal_84 : decode cX9_forgedSeal 84 = .ok (.dup, 1) := by decide +kernel
theorem dX9_forgedSeal_85 : decode cX9_forgedSeal 85 = .ok (.iload_n 3, 1) := by decide +kernel
theorem dX9_forgedSeal_86 : decode cX9_forgedSeal 86 = .ok (.iconst 3, 1) := by decide +kernel
theorem dX9_forgedSeal_87 : decode cX9_forgedSeal 87 = .ok (.iand, 1) := by decide +kernel
theorem dX9_forgedSeal_88 : decode cX9_forgedSeal 88 = .ok (.iload_n 3, 1) := by decide +kernel
theorem dX9_forgedSeal_89 : decode cX9_forgedSeal 89 = .ok (.iconst 2, 1) := by decide +kernel
theorem dX9_forgedSeal_90 : decode cX9_forgedSeal 90 = .ok (.ishr, 1) := by decide +kernel
theorem dX9_forgedSeal_91 : decode cX9_forgedSeal 91 = .ok (.iconst 3, 1) := by decide +kernel
theorem dX9_forgedSeal_92 : decode cX9_forgedSeal 92 = .ok (.iand, 1) := by decide +kernel
theorem dX9_forgedSeal_93 : decode cX9_forgedSeal 93 = .ok (.iconst 3, 1) := by decide +kernel
theorem dX9_forgedSeal_94 : decode cX9_forgedSeal 94 = .ok (.irem, 1) := by decide +kernel
theorem dX9_forgedSeal_95 : decode cX9_forgedSeal 95 = .ok (.iload_n 3, 1) := by decide +kernel
theorem dX9_forgedSeal_96 : decode cX9_forgedSeal 96 = .ok (.iconst 4, 1) := by decide +kernel
theorem dX9_forgedSeal_97 : decode cX9_forgedSeal 97 = .ok (.ishr, 1) := by decide +kernel
theorem dX9_forgedSeal_98 : decode cX9_forgedSeal 98 = .ok (.invokespecial 147, 3) := by decide +kernel
theorem dX9_forgedSeal_101 : decode cX9_forgedSeal 101 = .ok (.invokespecial 148, 3) := by decide +kernel
theorem dX9_forgedSeal_104 : decode cX9_forgedSeal 104 = .ok (.areturn, 1) := by decide +kernel
theorem dX9_openNonce_0 : decode cX9_openNonce 0 = .ok (.aload_n 0, 1) := by decide +kernel
theorem dX9_openNonce_1 : decode cX9_openNonce 1 = .ok (.iload_n 1, 1) := by decide +kernel
theorem dX9_openNonce_2 : decode cX9_openNonce 2 = .ok (.invokevirtual 112, 3) := by decide +kernel
theorem dX9_openNonce_5 : decode cX9_openNonce 5 = .ok (.astore_n 2, 1) := by decide +kernel
theorem dX9_openNonce_6 : decode cX9_openNonce 6 = .ok (.aload_n 2, 1) := by decide +kernel
theorem dX9_openNonce_7 : decode cX9_openNonce 7 = .ok (.ifnonnull 7, 3) := by decide +kernel
theorem dX9_openNonce_10 : decode cX9_openNonce 10 = .ok (.iconst (-1), 1) := by decide +kernel
theorem dX9_openNonce_11 : decode cX9_openNonce 11 = .ok (.goto 7, 3) := by decide +kernel
theorem dX9_openNonce_14 : decode cX9_openNonce 14 = .ok (.aload_n 2, 1) := by decide +kernel
theorem dX9_openNonce_15 : decode cX9_openNonce 15 = .ok (.getfield 171, 3) := by decide +kernel
theorem dX9_openNonce_18 : decode cX9_openNonce 18 = .ok (.ireturn, 1) := by decide +kernel
theorem dX9_heldTicket_0 : decode cX9_heldTicket 0 = .ok (.aload_n 0, 1) := by decide +kernel
theorem dX9_heldTicket_1 : decode cX9_heldTicket 1 = .ok (.iload_n 1, 1) := by decide +kernel
theorem dX9_heldTicket_2 : decode cX9_heldTicket 2 = .ok (.invokevirtual 112, 3) := by decide +kernel
theorem dX9_heldTicket_5 : decode cX9_heldTicket 5 = .ok (.astore_n 3, 1) := by decide +kernel
theorem dX9_heldTicket_6 : decode cX9_heldTicket 6 = .ok (.aload_n 3, 1) := by decide +kernel
theorem dX9_heldTicket_7 : decode cX9_heldTicket 7 = .ok (.ifnull 11, 3) := by decide +kernel
theorem dX9_heldTicket_10 : decode cX9_heldTicket 10 = .ok (.aload_n 3, 1) := by decide +kernel
theorem dX9_heldTicket_11 : decode cX9_heldTicket 11 = .ok (.iload_n 2, 1) := by decide +kernel
theorem dX9_heldTicket_12 : decode cX9_heldTicket 12 = .ok (.invokevirtual 134, 3) := by decide +kernel
theorem dX9_heldTicket_15 : decode cX9_heldTicket 15 = .ok (.ifCond .ne 7, 3) := by decide +kernel
theorem dX9_heldTicket_18 : decode cX9_heldTicket 18 = .ok (.iconst (-1), 1) := by decide +kernel
theorem dX9_heldTicket_19 : decode cX9_heldTicket 19 = .ok (.goto 9, 3) := by decide +kernel
theorem dX9_heldTicket_22 : decode cX9_heldTicket 22 = .ok (.aload_n 3, 1) := by decide +kernel
theorem dX9_heldTicket_23 : decode cX9_heldTicket 23 = .ok (.getfield 320, 3) := by decide +kernel
theorem dX9_heldTicket_26 : decode cX9_heldTicket 26 = .ok (.iload_n 2, 1) := by decide +kernel
theorem dX9_heldTicket_27 : decode cX9_heldTicket 27 = .ok (.iaload, 1) := by decide +kernel
theorem dX9_heldTicket_28 : decode cX9_heldTicket 28 = .ok (.ireturn, 1) := by decide +kernel
