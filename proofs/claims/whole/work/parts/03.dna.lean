theorem dX0_init_0 : decode cX0_init 0 = .ok (.aload_n 0, 1) := by decide +kernel
theorem dX0_init_1 : decode cX0_init 1 = .ok (.invokespecial 3, 3) := by decide +kernel
theorem dX0_init_4 : decode cX0_init 4 = .ok (.aload_n 0, 1) := by decide +kernel
theorem dX0_init_5 : decode cX0_init 5 = .ok (.bipush 6, 2) := by decide +kernel
theorem dX0_init_7 : decode cX0_init 7 = .ok (.newarray .int, 2) := by decide +kernel
theorem dX0_init_9 : decode cX0_init 9 = .ok (.putfield 9, 3) := by decide +kernel
theorem dX0_init_12 : decode cX0_init 12 = .ok (.aload_n 0, 1) := by decide +kernel
theorem dX0_init_13 : decode cX0_init 13 = .ok (.bipush 6, 2) := by decide +kernel
theorem dX0_init_15 : decode cX0_init 15 = .ok (.newarray .int, 2) := by decide +kernel
theorem dX0_init_17 : decode cX0_init 17 = .ok (.putfield 15, 3) := by decide +kernel
theorem dX0_init_20 : decode cX0_init 20 = .ok (.aload_n 0, 1) := by decide +kernel
theorem dX0_init_21 : decode cX0_init 21 = .ok (.bipush 6, 2) := by decide +kernel
theorem dX0_init_23 : decode cX0_init 23 = .ok (.iconst 3, 1) := by decide +kernel
theorem dX0_init_24 : decode cX0_init 24 = .ok (.multianewarray 18 2, 4) := by decide +kernel
theorem dX0_init_28 : decode cX0_init 28 = .ok (.putfield 20, 3) := by decide +kernel
theorem dX0_init_31 : decode cX0_init 31 = .ok (.iconst 0, 1) := by decide +kernel
theorem dX0_init_32 : decode cX0_init 32 = .ok (.istore_n 1, 1) := by decide +kernel
theorem dX0_init_33 : decode cX0_init 33 = .ok (.iload_n 1, 1) := by decide +kernel
theorem dX0_init_34 : decode cX0_init 34 = .ok (.bipush 6, 2) := by decide +kernel
theorem dX0_init_36 : decode cX0_init 36 = .ok (.if_icmp .ge 16, 3) := by decide +kernel
theorem dX0_init_39 : decode cX0_init 39 = .ok (.aload_n 0, 1) := by decide +kernel
theorem dX0_init_40 : decode cX0_init 40 = .ok (.getfield 9, 3) := by decide +kernel
theorem dX0_init_43 : decode cX0_init 43 = .ok (.iload_n 1, 1) := by decide +kernel
theorem dX0_init_44 : decode cX0_init 44 = .ok (.iconst (-1), 1) := by decide +kernel
theorem dX0_init_45 : decode cX0_init 45 = .ok (.iastore, 1) := by decide +kernel
theorem dX0_init_46 : decode cX0_init 46 = .ok (.iinc 1 1, 3) := by decide +kernel
theorem dX0_init_49 : decode cX0_init 49 = .ok (.goto (-16), 3) := by decide +kernel
theorem dX0_init_52 : decode cX0_init 52 = .ok (.return_, 1) := by decide +kernel
theorem dX0_holds_0 : decode cX0_holds 0 = .ok (.iload_n 1, 1) := by decide +kernel
theorem dX0_holds_1 : decode cX0_holds 1 = .ok (.invokestatic 23, 3) := by decide +kernel
theorem dX0_holds_4 : decode cX0_holds 4 = .ok (.ifCond .eq 17, 3) := by decide +kernel
theorem dX0_holds_7 : decode cX0_holds 7 = .ok (.aload_n 0, 1) := by decide +kernel
theorem dX0_holds_8 : decode cX0_holds 8 = .ok (.getfield 9, 3) := by decide +kernel
theorem dX0_holds_11 : decode cX0_holds 11 = .ok (.iload_n 1, 1) := by decide +kernel
theorem dX0_holds_12 : decode cX0_holds 12 = .ok (.iaload, 1) := by decide +kernel
theorem dX0_holds_13 : decode cX0_holds 13 = .ok (.iconst (-1), 1) := by decide +kernel
theorem dX0_holds_14 : decode cX0_holds 14 = .ok (.if_icmp .eq 7, 3) := by decide +kernel
theorem dX0_holds_17 : decode cX0_holds 17 = .ok (.iconst 1, 1) := by decide +kernel
theorem dX0_holds_18 : decode cX0_holds 18 = .ok (.goto 4, 3) := by decide +kernel
theorem dX0_holds_21 : decode cX0_holds 21 = .ok (.iconst 0, 1) := by decide +kernel
theorem dX0_holds_22 : decode cX0_holds 22 = .ok (.ireturn, 1) := by decide +kernel
theorem dX0_size_0 : decode cX0_size 0 = .ok (.iconst 0, 1) := by decide +kernel
theorem dX0_size_1 : decode cX0_size 1 = .ok (.istore_n 1, 1) := by decide +kernel
theorem dX0_size_2 : decode cX0_size 2 = .ok (.iconst 0, 1) := by decide +kernel
theorem dX0_size_3 : decode cX0_size 3 = .ok (.istore_n 2, 1) := by decide +kernel
theorem dX0_size_4 : decode cX0_size 4 = .ok (.iload_n 2, 1) := by decide +kernel
theorem dX0_size_5 : decode cX0_size 5 = .ok (.bipush 6, 2) := by decide +kernel
theorem dX0_size_7 : decode cX0_size 7 = .ok (.if_icmp .ge 20, 3) := by decide +kernel
theorem dX0_size_10 : decode cX0_size 10 = .ok (.aload_n 0, 1) := by decide +kernel
theorem dX0_size_11 : decode cX0_size 11 = .ok (.iload_n 2, 1) := by decide +kernel
theorem dX0_size_12 : decode cX0_size 12 = .ok (.invokevirtual 27, 3) := by decide +kernel
theorem dX0_size_15 : decode cX0_size 15 = .ok (.ifCond .eq 6, 3) := by decide +kernel
theorem dX0_size_18 : decode cX0_size 18 = .ok (.iinc 1 1, 3) := by decide +kernel
theorem dX0_size_21 : decode cX0_size 21 = .ok (.iinc 2 1, 3) := by decide +kernel
theorem dX0_size_24 : decode cX0_size 24 = .ok (.goto (-20), 3) := by decide +kernel
theorem dX0_size_27 : decode cX0_size 27 = .ok (.iload_n 1, 1) := by decide +kernel
theorem dX0_size_28 : decode cX0_size 28 = .ok (.ireturn, 1) := by decide +kernel
theorem dX0_enter_0 : decode cX0_enter 0 = .ok (.aload_n 0, 1) := by decide +kernel
theorem dX0_enter_1 : decode cX0_enter 1 = .ok (.iload_n 1, 1) := by decide +kernel
theorem dX0_enter_2 : decode cX0_enter 2 = .ok (.invokevirtual 27, 3) := by decide +kernel
theorem dX0_enter_5 : decode cX0_enter 5 = .ok (.ifCond .ne 33, 3) := by decide +kernel
theorem dX0_enter_8 : decode cX0_enter 8 = .ok (.aload_n 0, 1) := by decide +kernel
theorem dX0_enter_9 : decode cX0_enter 9 = .ok (.getfield 15, 3) := by decide +kernel
theorem dX0_enter_12 : decode cX0_enter 12 = .ok (.iload_n 1, 1) := by decide +kernel
theorem dX0_enter_13 : decode cX0_enter 13 = .ok (.bipush 20, 2) := by decide +kernel
theorem dX0_enter_15 : decode cX0_enter 15 = .ok (.iastore, 1) := by decide +kernel
theorem dX0_enter_16 : decode cX0_enter 16 = .ok (.iconst 0, 1) := by decide +kernel
theorem dX0_enter_17 : decode cX0_enter 17 = .ok (.istore_n 3, 1) := by decide +kernel
theorem dX0_enter_18 : decode cX0_enter 18 = .ok (.iload_n 3, 1) := by decide +kernel
theorem dX0_enter_19 : decode cX0_enter 19 = .ok (.iconst 3, 1) := by decide +kernel
theorem dX0_enter_20 : decode cX0_enter 20 = .ok (.if_icmp .ge 18, 3) := by decide +kernel
theorem dX0_enter_23 : decode cX0_enter 23 = .ok (.aload_n 0, 1) := by decide +kernel
theorem dX0_enter_24 : decode cX0_enter 24 = .ok (.getfield 20, 3) := by decide +kernel
theorem dX0_enter_27 : decode cX0_enter 27 = .ok (.iload_n 1, 1) := by decide +kernel
theorem dX0_enter_28 : decode cX0_enter 28 = .ok (.aaload, 1) := by decide +kernel
theorem dX0_enter_29 : decode cX0_enter 29 = .ok (.iload_n 3, 1) := by decide +kernel
theorem dX0_enter_30 : decode cX0_enter 30 = .ok (.iconst 0, 1) := by decide +kernel
theorem dX0_enter_31 : decode cX0_enter 31 = .ok (.iastore, 1) := by decide +kernel
theorem dX0_enter_32 : decode cX0_enter 32 = .ok (.iinc 3 1, 3) := by decide +kernel
theorem dX0_enter_35 : decode cX0_enter 35 = .ok (.goto (-17), 3) := by decide +kernel
theorem dX0_enter_38 : decode cX0_enter 38 = .ok (.aload_n 0, 1) := by decide +kernel
theorem dX0_enter_39 : decode cX0_enter 39 = .ok (.getfield 9, 3) := by decide +kernel
theorem dX0_enter_42 : decode cX0_enter 42 = .ok (.iload_n 1, 1) := by decide +kernel
theorem dX0_enter_43 : decode cX0_enter 43 = .ok (.iload_n 2, 1) := by decide +kernel
theorem dX0_enter_44 : decode cX0_enter 44 = .ok (.iastore, 1) := by decide +kernel
theorem dX0_enter_45 : decode cX0_enter 45 = .ok (.return_, 1) := by decide +kernel
theorem dX0_strike_0 : decode cX0_strike 0 = .ok (.aload_n 0, 1) := by decide +kernel
theorem dX0_strike_1 : decode cX0_strike 1 = .ok (.getfield 9, 3) := by decide +kernel
theorem dX0_strike_4 : decode cX0_strike 4 = .ok (.iload_n 1, 1) := by decide +kernel
theorem dX0_strike_5 : decode cX0_strike 5 = .ok (.iconst (-1), 1) := by decide +kernel
theorem dX0_strike_6 : decode cX0_strike 6 = .ok (.iastore, 1) := by decide +kernel
theorem dX0_strike_7 : decode cX0_strike 7 = .ok (.return_, 1) := by decide +kernel
theorem dX0_permits_0 : decode cX0_permits 0 = .ok (.aload_n 0, 1) := by decide +kernel
theorem dX0_permits_1 : decode cX0_permits 1 = .ok (.iload_n 1, 1) := by decide +kernel
theorem dX0_permits_2 : decode cX0_permits 2 = .ok (.invokevirtual 27, 3) := by decide +kernel
theorem dX0_permits_5 : decode cX0_permits 5 = .ok (.ifCond .eq 30, 3) := by decide +kernel
theorem dX0_permits_8 : decode cX0_permits 8 = .ok (.aload_n 0, 1) := by decide +kernel
theorem dX0_permits_9 : decode cX0_permits 9 = .ok (.getfield 20, 3) := by decide +kernel
theorem dX0_permits_12 : decode cX0_permits 12 = .ok (.iload_n 1, 1) := by decide +kernel
theorem dX0_permits_13 : decode cX0_permits 13 = .ok (.aaload, 1) := by decide +kernel
theorem dX0_permits_14 : decode cX0_permits 14 = .ok (.aload_n 2, 1) := by decide +kernel
theorem dX0_permits_15 : decode cX0_permits 15 = .ok (.getfield 30, 3) := by decide +kernel
theorem dX0_permits_18 : decode cX0_permits 18 = .ok (.iaload, 1) := by decide +kernel
theorem dX0_permits_19 : decode cX0_permits 19 = .ok (.aload_n 2, 1) := by decide +kernel
theorem dX0_permits_20 : decode cX0_permits 20 = .ok (.getfield 36, 3) := by decide +kernel
theorem dX0_permits_23 : decode cX0_permits 23 = .ok (.iand, 1) := by decide +kernel
theorem dX0_permits_24 : decode cX0_permits 24 = .ok (.aload_n 2, 1) := by decide +kernel
theorem dX0_permits_25 : decode cX0_permits 25 = .ok (.getfield 36, 3) := by decide +kernel
theorem dX0_permits_28 : decode cX0_permits 28 = .ok (.if_icmp .ne 7, 3) := by decide +kernel
theorem dX0_permits_31 : decode cX0_permits 31 = .ok (.iconst 1, 1) := by decide +kernel
theorem dX0_permits_32 : decode cX0_permits 32 = .ok (.goto 4, 3) := by decide +kernel
theorem dX0_permits_35 : decode cX0_permits 35 = .ok (.iconst 0, 1) := by decide +kernel
theorem dX0_permits_36 : decode cX0_permits 36 = .ok (.ireturn, 1) := by decide +kernel
theorem dX0_copyFrom_0 : decode cX0_copyFrom 0 = .ok (.iconst 0, 1) := by decide +kernel
theorem dX0_copyFrom_1 : decode cX0_copyFrom 1 = .ok (.istore_n 2, 1) := by decide +kernel
theorem dX0_copyFrom_2 : decode cX0_copyFrom 2 = .ok (.iload_n 2, 1) := by decide +kernel
theorem dX0_copyFrom_3 : decode cX0_copyFrom 3 = .ok (.bipush 6, 2) := by decide +kernel
theorem dX0_copyFrom_5 : decode cX0_copyFrom 5 = .ok (.if_icmp .ge 62, 3) := by decide +kernel
theorem dX0_copyFrom_8 : decode cX0_copyFrom 8 = .ok (.aload_n 0, 1) := by decide +kernel
theorem dX0_copyFrom_9 : decode cX0_copyFrom 9 = .ok (.getfield 9, 3) := by decide +kernel
theorem dX0_copyFrom_12 : decode cX0_copyFrom 12 = .ok (.iload_n 2, 1) := by decide +kernel
theorem dX0_copyFrom_13 : decode cX0_copyFrom 13 = .ok (.aload_n 1, 1) := by decide +kernel
theorem dX0_copyFrom_14 : decode cX0_copyFrom 14 = .ok (.getfield 9, 3) := by decide +kernel
theorem dX0_copyFrom_17 : decode cX0_copyFrom 17 = .ok (.iload_n 2, 1) := by decide +kernel
theorem dX0_copyFrom_18 : decode cX0_copyFrom 18 = .ok (.iaload, 1) := by decide +kernel
theorem dX0_copyFrom_19 : decode cX0_copyFrom 19 = .ok (.iastore, 1) := by decide +kernel
theorem dX0_copyFrom_20 : decode cX0_copyFrom 20 = .ok (.aload_n 0, 1) := by decide +kernel
theorem dX0_copyFrom_21 : decode cX0_copyFrom 21 = .ok (.getfield 15, 3) := by decide +kernel
theorem dX0_copyFrom_24 : decode cX0_copyFrom 24 = .ok (.iload_n 2, 1) := by decide +kernel
theorem dX0_copyFrom_25 : decode cX0_copyFrom 25 = .ok (.aload_n 1, 1) := by decide +kernel
theorem dX0_copyFrom_26 : decode cX0_copyFrom 26 = .ok (.getfield 15, 3) := by decide +kernel
theorem dX0_copyFrom_29 : decode cX0_copyFrom 29 = .ok (.iload_n 2, 1) := by decide +kernel
theorem dX0_copyFrom_30 : decode cX0_copyFrom 30 = .ok (.iaload, 1) := by decide +kernel
theorem dX0_copyFrom_31 : decode cX0_copyFrom 31 = .ok (.iastore, 1) := by decide +kernel
theorem dX0_copyFrom_32 : decode cX0_copyFrom 32 = .ok (.iconst 0, 1) := by decide +kernel
theorem dX0_copyFrom_33 : decode cX0_copyFrom 33 = .ok (.istore_n 3, 1) := by decide +kernel
theorem dX0_copyFrom_34 : decode cX0_copyFrom 34 = .ok (.iload_n 3, 1) := by decide +kernel
theorem dX0_copyFrom_35 : decode cX0_copyFrom 35 = .ok (.iconst 3, 1) := by decide +kernel
theorem dX0_copyFrom_36 : decode cX0_copyFrom 36 = .ok (.if_icmp .ge 25, 3) := by decide +kernel
theorem dX0_copyFrom_39 : decode cX0_copyFrom 39 = .ok (.aload_n 0, 1) := by decide +kernel
theorem dX0_copyFrom_40 : decode cX0_copyFrom 40 = .ok (.getfield 20, 3) := by decide +kernel
theorem dX0_copyFrom_43 : decode cX0_copyFrom 43 = .ok (.iload_n 2, 1) := by decide +kernel
theorem dX0_copyFrom_44 : decode cX0_copyFrom 44 = .ok (.aaload, 1) := by decide +kernel
theorem dX0_copyFrom_45 : decode cX0_copyFrom 45 = .ok (.iload_n 3, 1) := by decide +kernel
theorem dX0_copyFrom_46 : decode cX0_copyFrom 46 = .ok (.aload_n 1, 1) := by decide +kernel
theorem dX0_copyFrom_47 : decode cX0_copyFrom 47 = .ok (.getfield 20, 3) := by decide +kernel
theorem dX0_copyFrom_50 : decode cX0_copyFrom 50 = .ok (.iload_n 2, 1) := by decide +kernel
theorem dX0_copyFrom_51 : decode cX0_copyFrom 51 = .ok (.aaload, 1) := by decide +kernel
theorem dX0_copyFrom_52 : decode cX0_copyFrom 52 = .ok (.iload_n 3, 1) := by decide +kernel
theorem dX0_copyFrom_53 : decode cX0_copyFrom 53 = .ok (.iaload, 1) := by decide +kernel
theorem dX0_copyFrom_54 : decode cX0_copyFrom 54 = .ok (.iastore, 1) := by decide +kernel
theorem dX0_copyFrom_55 : decode cX0_copyFrom 55 = .ok (.iinc 3 1, 3) := by decide +kernel
theorem dX0_copyFrom_58 : decode cX0_copyFrom 58 = .ok (.goto (-24), 3) := by decide +kernel
theorem dX0_copyFrom_61 : decode cX0_copyFrom 61 = .ok (.iinc 2 1, 3) := by decide +kernel
theorem dX0_copyFrom_64 : decode cX0_copyFrom 64 = .ok (.goto (-62), 3) := by decide +kernel
theorem dX0_copyFrom_67 : decode cX0_copyFrom 67 = .ok (.return_, 1) := by decide +kernel
theorem dX1_init_0 : decode cX1_init 0 = .ok (.aload_n 0, 1) := by decide +kernel
theorem dX1_init_1 : decode cX1_init 1 = .ok (.iload_n 1, 1) := by decide +kernel
theorem dX1_init_2 : decode cX1_init 2 = .ok (.invokespecial 3, 3) := by decide +kernel
theorem dX1_init_5 : decode cX1_init 5 = .ok (.aload_n 0, 1) := by decide +kernel
theorem dX1_init_6 : decode cX1_init 6 = .ok (.iload_n 2, 1) := by decide +kernel
theorem dX1_init_7 : decode cX1_init 7 = .ok (.putfield 9, 3) := by decide +kernel
theorem dX1_init_10 : decode cX1_init 10 = .ok (.aload_n 0, 1) := by decide +kernel
theorem dX1_init_11 : decode cX1_init 11 = .ok (.iload_n 3, 1) := by decide +kernel
theorem dX1_init_12 : decode cX1_init 12 = .ok (.putfield 15, 3) := by decide +kernel
theorem dX1_init_15 : decode cX1_init 15 = .ok (.aload_n 0, 1) := by decide +kernel
theorem dX1_init_16 : decode cX1_init 16 = .ok (.iload 4, 2) := by decide +kernel
theorem dX1_init_18 : decode cX1_init 18 = .ok (.putfield 18, 3) := by decide +kernel
theorem dX1_init_21 : decode cX1_init 21 = .ok (.aload_n 0, 1) := by decide +kernel
theorem dX1_init_22 : decode cX1_init 22 = .ok (.aload 5, 2) := by decide +kernel
theorem dX1_init_24 : decode cX1_init 24 = .ok (.putfield 21, 3) := by decide +kernel
theorem dX1_init_27 : decode cX1_init 27 = .ok (.return_, 1) := by decide +kernel
theorem dX1_kind_0 : decode cX1_kind 0 = .ok (.iconst 4, 1) := by decide +kernel
theorem dX1_kind_1 : decode cX1_kind 1 = .ok (.ireturn, 1) := by decide +kernel
theorem dX1_shownTime_0 : decode cX1_shownTime 0 = .ok (.aload_n 0, 1) := by decide +kernel
theorem dX1_shownTime_1 : decode cX1_shownTime 1 = .ok (.getfield 15, 3) := by decide +kernel
theorem dX1_shownTime_4 : decode cX1_shownTime 4 = .ok (.ireturn, 1) := by decide +kernel
theorem dX1_sameAs_0 : decode cX1_sameAs 0 = .ok (.aload_n 0, 1) := by decide +kernel
theorem dX1_sameAs_1 : decode cX1_sameAs 1 = .ok (.getfield 25, 3) := by decide +kernel
theorem dX1_sameAs_4 : decode cX1_sameAs 4 = .ok (.aload_n 1, 1) := by decide +kernel
theorem dX1_sameAs_5 : decode cX1_sameAs 5 = .ok (.getfield 25, 3) := by decide +kernel
theorem dX1_sameAs_8 : decode cX1_sameAs 8 = .ok (.if_icmp .ne 54, 3) := by decide +kernel
theorem dX1_sameAs_11 : decode cX1_sameAs 11 = .ok (.aload_n 0, 1) := by decide +kernel
theorem dX1_sameAs_12 : decode cX1_sameAs 12 = .ok (.getfield 9, 3) := by decide +kernel
theorem dX1_sameAs_15 : decode cX1_sameAs 15 = .ok (.aload_n 1, 1) := by decide +kernel
theorem dX1_sameAs_16 : decode cX1_sameAs 16 = .ok (.getfield 9, 3) := by decide +kernel
theorem dX1_sameAs_19 : decode cX1_sameAs 19 = .ok (.if_icmp .ne 43, 3) := by decide +kernel
theorem dX1_sameAs_22 : decode cX1_sameAs 22 = .ok (.aload_n 0, 1) := by decide +kernel
theorem dX1_sameAs_23 : decode cX1_sameAs 23 = .ok (.getfield 15, 3) := by decide +kernel
theorem dX1_sameAs_26 : decode cX1_sameAs 26 = .ok (.aload_n 1, 1) := by decide +kernel
theorem dX1_sameAs_27 : decode cX1_sameAs 27 = .ok (.getfield 15, 3) := by decide +kernel
theorem dX1_sameAs_30 : decode cX1_sameAs 30 = .ok (.if_icmp .ne 32, 3) := by decide +kernel
theorem dX1_sameAs_33 : decode cX1_sameAs 33 = .ok (.aload_n 0, 1) := by decide +kernel
theorem dX1_sameAs_34 : decode cX1_sameAs 34 = .ok (.getfield 18, 3) := by decide +kernel
theorem dX1_sameAs_37 : decode cX1_sameAs 37 = .ok (.aload_n 1, 1) := by decide +kernel
theorem dX1_sameAs_38 : decode cX1_sameAs 38 = .ok (.getfield 18, 3) := by decide +kernel
theorem dX1_sameAs_41 : decode cX1_sameAs 41 = .ok (.if_icmp .ne 21, 3) := by decide +kernel
theorem dX1_sameAs_44 : decode cX1_sameAs 44 = .ok (.aload_n 0, 1) := by decide +kernel
theorem dX1_sameAs_45 : decode cX1_sameAs 45 = .ok (.getfield 21, 3) := by decide +kernel
theorem dX1_sameAs_48 : decode cX1_sameAs 48 = .ok (.aload_n 1, 1) := by decide +kernel
theorem dX1_sameAs_49 : decode cX1_sameAs 49 = .ok (.getfield 21, 3) := by decide +kernel
theorem dX1_sameAs_52 : decode cX1_sameAs 52 = .ok (.invokevirtual 28, 3) := by decide +kernel
theorem dX1_sameAs_55 : decode cX1_sameAs 55 = .ok (.ifCond .eq 7, 3) := by decide +kernel
theorem dX1_sameAs_58 : decode cX1_sameAs 58 = .ok (.iconst 1, 1) := by decide +kernel
theorem dX1_sameAs_59 : decode cX1_sameAs 59 = .ok (.goto 4, 3) := by decide +kernel
theorem dX1_sameAs_62 : decode cX1_sameAs 62 = .ok (.iconst 0, 1) := by decide +kernel
theorem dX1_sameAs_63 : decode cX1_sameAs 63 = .ok (.ireturn, 1) := by decide +kernel
theorem dX2_init_0 : decode cX2_init 0 = .ok (.aload_n 0, 1) := by decide +kernel
theorem dX2_init_1 : decode cX2_init 1 = .ok (.invokespecial 3, 3) := by decide +kernel
theorem dX2_init_4 : decode cX2_init 4 = .ok (.aload_n 0, 1) := by decide +kernel
theorem dX2_init_5 : decode cX2_init 5 = .ok (.iconst 3, 1) := by decide +kernel
theorem dX2_init_6 : decode cX2_init 6 = .ok (.newarray .int, 2) := by decide +kernel
theorem dX2_init_8 : decode cX2_init 8 = .ok (.putfield 9, 3) := by decide +kernel
theorem dX2_init_11 : decode cX2_init 11 = .ok (.aload_n 0, 1) := by decide +kernel
theorem dX2_init_12 : decode cX2_init 12 = .ok (.bipush 12, 2) := by decide +kernel
theorem dX2_init_14 : decode cX2_init 14 = .ok (.anewarray 15, 3) := by decide +kernel
theorem dX2_init_17 : decode cX2_init 17 = .ok (.putfield 17, 3) := by decide +kernel
theorem dX2_init_20 : decode cX2_init 20 = .ok (.aload_n 0, 1) := by decide +kernel
theorem dX2_init_21 : decode cX2_init 21 = .ok (.iconst 0, 1) := by decide +kernel
theorem dX2_init_22 : decode cX2_init 22 = .ok (.putfield 21, 3) := by decide +kernel
theorem dX2_init_25 : decode cX2_init 25 = .ok (.aload_n 0, 1) := by decide +kernel
theorem dX2_init_26 : decode cX2_init 26 = .ok (.iconst 0, 1) := by decide +kernel
theorem dX2_init_27 : decode cX2_init 27 = .ok (.putfield 25, 3) := by decide +kernel
theorem dX2_init_30 : decode cX2_init 30 = .ok (.return_, 1) := by decide +kernel
theorem dX2_dropClaimsBefore_0 : decode cX2_dropClaimsBefore 0 = .ok (.iconst 0, 1) := by decide +kernel
theorem dX2_dropClaimsBefore_1 : decode cX2_dropClaimsBefore 1 = .ok (.istore_n 2, 1) := by decide +kernel
theorem dX2_dropClaimsBefore_2 : decode cX2_dropClaimsBefore 2 = .ok (.iconst 0, 1) := by decide +kernel
theorem dX2_dropClaimsBefore_3 : decode cX2_dropClaimsBefore 3 = .ok (.istore_n 3, 1) := by decide +kernel
theorem dX2_dropClaimsBefore_4 : decode cX2_dropClaimsBefore 4 = .ok (.iload_n 3, 1) := by decide +kernel
theorem dX2_dropClaimsBefore_5 : decode cX2_dropClaimsBefore 5 = .ok (.aload_n 0, 1) := by decide +kernel
theorem dX2_dropClaimsBefore_6 : decode cX2_dropClaimsBefore 6 = .ok (.getfield 21, 3) := by decide +kernel
theorem dX2_dropClaimsBefore_9 : decode cX2_dropClaimsBefore 9 = .ok (.if_icmp .ge 37, 3) := by decide +kernel
theorem dX2_dropClaimsBefore_12 : decode cX2_dropClaimsBefore 12 = .ok (.aload_n 0, 1) := by decide +kernel
theorem dX2_dropClaimsBefore_13 : decode cX2_dropClaimsBefore 13 = .ok (.getfield 17, 3) := by decide +kernel
theorem dX2_dropClaimsBefore_16 : decode cX2_dropClaimsBefore 16 = .ok (.iload_n 3, 1) := by decide +kernel
theorem dX2_dropClaimsBefore_17 : decode cX2_dropClaimsBefore 17 = .ok (.aaload, 1) := by decide +kernel
theorem dX2_dropClaimsBefore_18 : decode cX2_dropClaimsBefore 18 = .ok (.getfield 28, 3) := by decide +kernel
theorem dX2_dropClaimsBefore_21 : decode cX2_dropClaimsBefore 21 = .ok (.iload_n 1, 1) := by decide +kernel
theorem dX2_dropClaimsBefore_22 : decode cX2_dropClaimsBefore 22 = .ok (.if_icmp .lt 18, 3) := by decide +kernel
theorem dX2_dropClaimsBefore_25 : decode cX2_dropClaimsBefore 25 = .ok (.aload_n 0, 1) := by decide +kernel
theorem dX2_dropClaimsBefore_26 : decode cX2_dropClaimsBefore 26 = .ok (.getfield 17, 3) := by decide +kernel
theorem dX2_dropClaimsBefore_29 : decode cX2_dropClaimsBefore 29 = .ok (.iload_n 2, 1) := by decide +kernel
theorem dX2_dropClaimsBefore_30 : decode cX2_dropClaimsBefore 30 = .ok (.aload_n 0, 1) := by decide +kernel
theorem dX2_dropClaimsBefore_31 : decode cX2_dropClaimsBefore 31 = .ok (.getfield 17, 3) := by decide +kernel
theorem dX2_dropClaimsBefore_34 : decode cX2_dropClaimsBefore 34 = .ok (.iload_n 3, 1) := by decide +kernel
theorem dX2_dropClaimsBefore_35 : decode cX2_dropClaimsBefore 35 = .ok (.aaload, 1) := by decide +kernel
theorem dX2_dropClaimsBefore_36 : decode cX2_dropClaimsBefore 36 = .ok (.aastore, 1) := by decide +kernel
theorem dX2_dropClaimsBefore_37 : decode cX2_dropClaimsBefore 37 = .ok (.iinc 2 1, 3) := by decide +kernel
theorem dX2_dropClaimsBefore_40 : decode cX2_dropClaimsBefore 40 = .ok (.iinc 3 1, 3) := by decide +kernel
theorem dX2_dropClaimsBefore_43 : decode cX2_dropClaimsBefore 43 = .ok (.goto (-39), 3) := by decide +kernel
theorem dX2_dropClaimsBefore_46 : decode cX2_dropClaimsBefore 46 = .ok (.aload_n 0, 1) := by decide +kernel
theorem dX2_dropClaimsBefore_47 : decode cX2_dropClaimsBefore 47 = .ok (.iload_n 2, 1) := by decide +kernel
theorem dX2_dropClaimsBefore_48 : decode cX2_dropClaimsBefore 48 = .ok (.putfield 21, 3) := by decide +kernel
theorem dX2_dropClaimsBefore_51 : decode cX2_dropClaimsBefore 51 = .ok (.return_, 1) := by decide +kernel
theorem dX2_hasServed_0 : decode cX2_hasServed 0 = .ok (.iconst 0, 1) := by decide +kernel
theorem dX2_hasServed_1 : decode cX2_hasServed 1 = .ok (.istore_n 2, 1) := by decide +kernel
theorem dX2_hasServed_2 : decode cX2_hasServed 2 = .ok (.iload_n 2, 1) := by decide +kernel
theorem dX2_hasServed_3 : decode cX2_hasServed 3 = .ok (.aload_n 0, 1) := by decide +kernel
theorem dX2_hasServed_4 : decode cX2_hasServed 4 = .ok (.getfield 21, 3) := by decide +kernel
theorem dX2_hasServed_7 : decode cX2_hasServed 7 = .ok (.if_icmp .ge 24, 3) := by decide +kernel
theorem dX2_hasServed_10 : decode cX2_hasServed 10 = .ok (.aload_n 0, 1) := by decide +kernel
theorem dX2_hasServed_11 : decode cX2_hasServed 11 = .ok (.getfield 17, 3) := by decide +kernel
theorem dX2_hasServed_14 : decode cX2_hasServed 14 = .ok (.iload_n 2, 1) := by decide +kernel
theorem dX2_hasServed_15 : decode cX2_hasServed 15 = .ok (.aaload, 1) := by decide +kernel
theorem dX2_hasServed_16 : decode cX2_hasServed 16 = .ok (.aload_n 1, 1) := by decide +kernel
theorem dX2_hasServed_17 : decode cX2_hasServed 17 = .ok (.invokevirtual 31, 3) := by decide +kernel
theorem dX2_hasServed_20 : decode cX2_hasServed 20 = .ok (.ifCond .eq 5, 3) := by decide +kernel
theorem dX2_hasServed_23 : decode cX2_hasServed 23 = .ok (.iconst 1, 1) := by decide +kernel
theorem dX2_hasServed_24 : decode cX2_hasServed 24 = .ok (.ireturn, 1) := by decide +kernel
theorem dX2_hasServed_25 : decode cX2_hasServed 25 = .ok (.iinc 2 1, 3) := by decide +kernel
theorem dX2_hasServed_28 : decode cX2_hasServed 28 = .ok (.goto (-26), 3) := by decide +kernel
theorem dX2_hasServed_31 : decode cX2_hasServed 31 = .ok (.iconst 0, 1) := by decide +kernel
theorem dX2_hasServed_32 : decode cX2_hasServed 32 = .ok (.ireturn, 1) := by decide +kernel
theorem dX2_cacheIsFull_0 : decode cX2_cacheIsFull 0 = .ok (.aload_n 0, 1) := by decide +kernel
theorem dX2_cacheIsFull_1 : decode cX2_cacheIsFull 1 = .ok (.getfield 21, 3) := by decide +kernel
theorem dX2_cacheIsFull_4 : decode cX2_cacheIsFull 4 = .ok (.bipush 12, 2) := by decide +kernel
theorem dX2_cacheIsFull_6 : decode cX2_cacheIsFull 6 = .ok (.if_icmp .lt 7, 3) := by decide +kernel
theorem dX2_cacheIsFull_9 : decode cX2_cacheIsFull 9 = .ok (.iconst 1, 1) := by decide +kernel
theorem dX2_cacheIsFull_10 : decode cX2_cacheIsFull 10 = .ok (.goto 4, 3) := by decide +kernel
theorem dX2_cacheIsFull_13 : decode cX2_cacheIsFull 13 = .ok (.iconst 0, 1) := by decide +kernel
theorem dX2_cacheIsFull_14 : decode cX2_cacheIsFull 14 = .ok (.ireturn, 1) := by decide +kernel
theorem dX2_carryOut_0 : decode cX2_carryOut 0 = .ok (.aload_n 0, 1) := by decide +kernel
theorem dX2_carryOut_1 : decode cX2_carryOut 1 = .ok (.getfield 17, 3) := by decide +kernel
theorem dX2_carryOut_4 : decode cX2_carryOut 4 = .ok (.aload_n 0, 1) := by decide +kernel
theorem dX2_carryOut_5 : decode cX2_carryOut 5 = .ok (.getfield 21, 3) := by decide +kernel
theorem dX2_carryOut_8 : decode cX2_carryOut 8 = .ok (.aload_n 1, 1) := by decide +kernel
theorem dX2_carryOut_9 : decode cX2_carryOut 9 = .ok (.aastore, 1) := by decide +kernel
theorem dX2_carryOut_10 : decode cX2_carryOut 10 = .ok (.aload_n 0, 1) := by decide +kernel
theorem dX2_carryOut_11 : decode cX2_carryOut 11 = .ok (.dup, 1) := by decide +kernel
theorem dX2_carryOut_12 : decode cX2_carryOut 12 = .ok (.getfield 21, 3) := by decide +kernel
theorem dX2_carryOut_15 : decode cX2_carryOut 15 = .ok (.iconst 1, 1) := by decide +kernel
theorem dX2_carryOut_16 : decode cX2_carryOut 16 = .ok (.iadd, 1) := by decide +kernel
theorem dX2_carryOut_17 : decode cX2_carryOut 17 = .ok (.putfield 21, 3) := by decide +kernel
theorem dX2_carryOut_20 : decode cX2_carryOut 20 = .ok (.aload_n 1, 1) := by decide +kernel
theorem dX2_carryOut_21 : decode cX2_carryOut 21 = .ok (.getfield 35, 3) := by decide +kernel
theorem dX2_carryOut_24 : decode cX2_carryOut 24 = .ok (.astore_n 2, 1) := by decide +kernel
theorem dX2_carryOut_25 : decode cX2_carryOut 25 = .ok (.aload_n 2, 1) := by decide +kernel
theorem dX2_carryOut_26 : decode cX2_carryOut 26 = .ok (.getfield 39, 3) := by decide +kernel
theorem dX2_carryOut_29 : decode cX2_carryOut 29 = .ok (.iconst 2, 1) := by decide +kernel
theorem dX2_carryOut_30 : decode cX2_carryOut 30 = .ok (.if_icmp .ne 19, 3) := by decide +kernel
theorem dX2_carryOut_33 : decode cX2_carryOut 33 = .ok (.aload_n 0, 1) := by decide +kernel
theorem dX2_carryOut_34 : decode cX2_carryOut 34 = .ok (.getfield 9, 3) := by decide +kernel
theorem dX2_carryOut_37 : decode cX2_carryOut 37 = .ok (.aload_n 2, 1) := by decide +kernel
theorem dX2_carryOut_38 : decode cX2_carryOut 38 = .ok (.getfield 44, 3) := by decide +kernel
theorem dX2_carryOut_41 : decode cX2_carryOut 41 = .ok (.aload_n 2, 1) := by decide +kernel
theorem dX2_carryOut_42 : decode cX2_carryOut 42 = .ok (.getfield 47, 3) := by decide +kernel
theorem dX2_carryOut_45 : decode cX2_carryOut 45 = .ok (.iastore, 1) := by decide +kernel
theorem dX2_carryOut_46 : decode cX2_carryOut 46 = .ok (.goto 27, 3) := by decide +kernel
theorem dX2_carryOut_49 : decode cX2_carryOut 49 = .ok (.aload_n 2, 1) := by decide +kernel
theorem dX2_carryOut_50 : decode cX2_carryOut 50 = .ok (.getfield 39, 3) := by decide +kernel
theorem dX2_carryOut_53 : decode cX2_carryOut 53 = .ok (.iconst 3, 1) := by decide +kernel
theorem dX2_carryOut_54 : decode cX2_carryOut 54 = .ok (.if_icmp .ne 19, 3) := by decide +kernel
theorem dX2_carryOut_57 : decode cX2_carryOut 57 = .ok (.aload_n 0, 1) := by decide +kernel
theorem dX2_carryOut_58 : decode cX2_carryOut 58 = .ok (.getfield 9, 3) := by decide +kernel
theorem dX2_carryOut_61 : decode cX2_carryOut 61 = .ok (.aload_n 2, 1) := by decide +kernel
theorem dX2_carryOut_62 : decode cX2_carryOut 62 = .ok (.getfield 44, 3) := by decide +kernel
theorem dX2_carryOut_65 : decode cX2_carryOut 65 = .ok (.dup2, 1) := by decide +kernel
theorem dX2_carryOut_66 : decode cX2_carryOut 66 = .ok (.iaload, 1) := by decide +kernel
theorem dX2_carryOut_67 : decode cX2_carryOut 67 = .ok (.aload_n 2, 1) := by decide +kernel
theorem dX2_carryOut_68 : decode cX2_carryOut 68 = .ok (.getfield 47, 3) := by decide +kernel
theorem dX2_carryOut_71 : decode cX2_carryOut 71 = .ok (.iadd, 1) := by decide +kernel
theorem dX2_carryOut_72 : decode cX2_carryOut 72 = .ok (.iastore, 1) := by decide +kernel
theorem dX2_carryOut_73 : decode cX2_carryOut 73 = .ok (.aload_n 0, 1) := by decide +kernel
theorem dX2_carryOut_74 : decode cX2_carryOut 74 = .ok (.aload_n 0, 1) := by decide +kernel
theorem dX2_carryOut_75 : decode cX2_carryOut 75 = .ok (.getfield 9, 3) := by decide +kernel
theorem dX2_carryOut_78 : decode cX2_carryOut 78 = .ok (.aload_n 2, 1) := by decide +kernel
theorem dX2_carryOut_79 : decode cX2_carryOut 79 = .ok (.getfield 44, 3) := by decide +kernel
theorem dX2_carryOut_82 : decode cX2_carryOut 82 = .ok (.iaload, 1) := by decide +kernel
theorem dX2_carryOut_83 : decode cX2_carryOut 83 = .ok (.putfield 25, 3) := by decide +kernel
theorem dX2_carryOut_86 : decode cX2_carryOut 86 = .ok (.return_, 1) := by decide +kernel
theorem dX3_init_0 : decode cX3_init 0 = .ok (.aload_n 0, 1) := by decide +kernel
theorem dX3_init_1 : decode cX3_init 1 = .ok (.invokespecial 1, 3) := by decide +kernel
theorem dX3_init_4 : decode cX3_init 4 = .ok (.aload_n 0, 1) := by decide +kernel
theorem dX3_init_5 : decode cX3_init 5 = .ok (.iload_n 1, 1) := by decide +kernel
theorem dX3_init_6 : decode cX3_init 6 = .ok (.putfield 7, 3) := by decide +kernel
theorem dX3_init_9 : decode cX3_init 9 = .ok (.aload_n 0, 1) := by decide +kernel
theorem dX3_init_10 : decode cX3_init 10 = .ok (.iload_n 2, 1) := by decide +kernel
theorem dX3_init_11 : decode cX3_init 11 = .ok (.putfield 13, 3) := by decide +kernel
theorem dX3_init_14 : decode cX3_init 14 = .ok (.aload_n 0, 1) := by decide +kernel
theorem dX3_init_15 : decode cX3_init 15 = .ok (.iload_n 3, 1) := by decide +kernel
theorem dX3_init_16 : decode cX3_init 16 = .ok (.putfield 16, 3) := by decide +kernel
theorem dX3_init_19 : decode cX3_init 19 = .ok (.return_, 1) := by decide +kernel
theorem dX3_sameAs_0 : decode cX3_sameAs 0 = .ok (.aload_n 0, 1) := by decide +kernel
theorem dX3_sameAs_1 : decode cX3_sameAs 1 = .ok (.getfield 7, 3) := by decide +kernel
theorem dX3_sameAs_4 : decode cX3_sameAs 4 = .ok (.aload_n 1, 1) := by decide +kernel
theorem dX3_sameAs_5 : decode cX3_sameAs 5 = .ok (.getfield 7, 3) := by decide +kernel
theorem dX3_sameAs_8 : decode cX3_sameAs 8 = .ok (.if_icmp .ne 29, 3) := by decide +kernel
theorem dX3_sameAs_11 : decode cX3_sameAs 11 = .ok (.aload_n 0, 1) := by decide +kernel
theorem dX3_sameAs_12 : decode cX3_sameAs 12 = .ok (.getfield 13, 3) := by decide +kernel
theorem dX3_sameAs_15 : decode cX3_sameAs 15 = .ok (.aload_n 1, 1) := by decide +kernel
theorem dX3_sameAs_16 : decode cX3_sameAs 16 = .ok (.getfield 13, 3) := by decide +kernel
theorem dX3_sameAs_19 : decode cX3_sameAs 19 = .ok (.if_icmp .ne 18, 3) := by decide +kernel
theorem dX3_sameAs_22 : decode cX3_sameAs 22 = .ok (.aload_n 0, 1) := by decide +kernel
theorem dX3_sameAs_23 : decode cX3_sameAs 23 = .ok (.getfield 16, 3) := by decide +kernel
theorem dX3_sameAs_26 : decode cX3_sameAs 26 = .ok (.aload_n 1, 1) := by decide +kernel
theorem dX3_sameAs_27 : decode cX3_sameAs 27 = .ok (.getfield 16, 3) := by decide +kernel
theorem dX3_sameAs_30 : decode cX3_sameAs 30 = .ok (.if_icmp .ne 7, 3) := by decide +kernel
theorem dX3_sameAs_33 : decode cX3_sameAs 33 = .ok (.iconst 1, 1) := by decide +kernel
theorem dX3_sameAs_34 : decode cX3_sameAs 34 = .ok (.goto 4, 3) := by decide +kernel
theorem dX3_sameAs_37 : decode cX3_sameAs 37 = .ok (.iconst 0, 1) := by decide +kernel
theorem dX3_sameAs_38 : decode cX3_sameAs 38 = .ok (.ireturn, 1) := by decide +kernel
theorem dX4_init_0 : decode cX4_init 0 = .ok (.aload_n 0, 1) := by decide +kernel
theorem dX4_init_1 : decode cX4_init 1 = .ok (.iload_n 1, 1) := by decide +kernel
theorem dX4_init_2 : decode cX4_init 2 = .ok (.invokespecial 3, 3) := by decide +kernel
theorem dX4_init_5 : decode cX4_init 5 = .ok (.aload_n 0, 1) := by decide +kernel
theorem dX4_init_6 : decode cX4_init 6 = .ok (.iload_n 2, 1) := by decide +kernel
theorem dX4_init_7 : decode cX4_init 7 = .ok (.putfield 9, 3) := by decide +kernel
theorem dX4_init_10 : decode cX4_init 10 = .ok (.aload_n 0, 1) := by decide +kernel
theorem dX4_init_11 : decode cX4_init 11 = .ok (.iload_n 3, 1) := by decide +kernel
theorem dX4_init_12 : decode cX4_init 12 = .ok (.putfield 15, 3) := by decide +kernel
theorem dX4_init_15 : decode cX4_init 15 = .ok (.aload_n 0, 1) := by decide +kernel
theorem dX4_init_16 : decode cX4_init 16 = .ok (.iload 4, 2) := by decide +kernel
theorem dX4_init_18 : decode cX4_init 18 = .ok (.putfield 18, 3) := by decide +kernel
theorem dX4_init_21 : decode cX4_init 21 = .ok (.aload_n 0, 1) := by decide +kernel
theorem dX4_init_22 : decode cX4_init 22 = .ok (.iload 5, 2) := by decide +kernel
theorem dX4_init_24 : decode cX4_init 24 = .ok (.putfield 21, 3) := by decide +kernel
theorem dX4_init_27 : decode cX4_init 27 = .ok (.return_, 1) := by decide +kernel
theorem dX4_kind_0 : decode cX4_kind 0 = .ok (.iconst 3, 1) := by decide +kernel
theorem dX4_kind_1 : decode cX4_kind 1 = .ok (.ireturn, 1) := by decide +kernel
theorem dX4_heldKey_0 : decode cX4_heldKey 0 = .ok (.aload_n 0, 1) := by decide +kernel
theorem dX4_heldKey_1 : decode cX4_heldKey 1 = .ok (.getfield 9, 3) := by decide +kernel
theorem dX4_heldKey_4 : decode cX4_heldKey 4 = .ok (.ireturn, 1) := by decide +kernel
theorem dX4_shownEnd_0 : decode cX4_shownEnd 0 = .ok (.aload_n 0, 1) := by decide +kernel
theorem dX4_shownEnd_1 : decode cX4_shownEnd 1 = .ok (.getfield 21, 3) := by decide +kernel
theorem dX4_shownEnd_4 : decode cX4_shownEnd 4 = .ok (.ireturn, 1) := by decide +kernel
theorem dX5_init_0 : decode cX5_init 0 = .ok (.aload_n 0, 1) := by decide +kernel
theorem dX5_init_1 : decode cX5_init 1 = .ok (.iload_n 1, 1) := by decide +kernel
theorem dX5_init_2 : decode cX5_init 2 = .ok (.invokespecial 3, 3) := by decide +kernel
theorem dX5_init_5 : decode cX5_init 5 = .ok (.aload_n 0, 1) := by decide +kernel
theorem dX5_init_6 : decode cX5_init 6 = .ok (.iload_n 2, 1) := by decide +kernel
theorem dX5_init_7 : decode cX5_init 7 = .ok (.putfield 9, 3) := by decide +kernel
theorem dX5_init_10 : decode cX5_init 10 = .ok (.aload_n 0, 1) := by decide +kernel
theorem dX5_init_11 : decode cX5_init 11 = .ok (.iload_n 3, 1) := by decide +kernel
theorem dX5_init_12 : decode cX5_init 12 = .ok (.putfield 15, 3) := by decide +kernel
theorem dX5_init_15 : decode cX5_init 15 = .ok (.return_, 1) := by decide +kernel
theorem dX5_kind_0 : decode cX5_kind 0 = .ok (.iconst 1, 1) := by decide +kernel
theorem dX5_kind_1 : decode cX5_kind 1 = .ok (.ireturn, 1) := by decide +kernel
theorem dX5_shownTime_0 : decode cX5_shownTime 0 = .ok (.aload_n 0, 1) := by decide +kernel
theorem dX5_shownTime_1 : decode cX5_shownTime 1 = .ok (.getfield 15, 3) := by decide +kernel
theorem dX5_shownTime_4 : decode cX5_shownTime 4 = .ok (.ireturn, 1) := by decide +kernel
theorem dX6_init_0 : decode cX6_init 0 = .ok (.aload_n 0, 1) := by decide +kernel
theorem dX6_init_1 : decode cX6_init 1 = .ok (.invokespecial 3, 3) := by decide +kernel
theorem dX6_init_4 : decode cX6_init 4 = .ok (.aload_n 0, 1) := by decide +kernel
theorem dX6_init_5 : decode cX6_init 5 = .ok (.iload_n 1, 1) := by decide +kernel
theorem dX6_init_6 : decode cX6_init 6 = .ok (.putfield 9, 3) := by decide +kernel
theorem dX6_init_9 : decode cX6_init 9 = .ok (.return_, 1) := by decide +kernel
theorem dX6_heldKey_0 : decode cX6_heldKey 0 = .ok (.iconst (-1), 1) := by decide +kernel
theorem dX6_heldKey_1 : decode cX6_heldKey 1 = .ok (.ireturn, 1) := by decide +kernel
theorem dX6_shownEnd_0 : decode cX6_shownEnd 0 = .ok (.iconst 0, 1) := by decide +kernel
theorem dX6_shownEnd_1 : decode cX6_shownEnd 1 = .ok (.ireturn, 1) := by decide +kernel
theorem dX6_shownTime_0 : decode cX6_shownTime 0 = .ok (.iconst 0, 1) := by decide +kernel
theorem dX6_shownTime_1 : decode cX6_shownTime 1 = .ok (.ireturn, 1) := by decide +kernel
theorem dX7_init_0 : decode cX7_init 0 = .ok (.aload_n 0, 1) := by decide +kernel
theorem dX7_init_1 : decode cX7_init 1 = .ok (.iload_n 1, 1) := by decide +kernel
theorem dX7_init_2 : decode cX7_init 2 = .ok (.invokespecial 3, 3) := by decide +kernel
theorem dX7_init_5 : decode cX7_init 5 = .ok (.aload_n 0, 1) := by decide +kernel
theorem dX7_init_6 : decode cX7_init 6 = .ok (.iload_n 2, 1) := by decide +kernel
theorem dX7_init_7 : decode cX7_init 7 = .ok (.putfield 9, 3) := by decide +kernel
theorem dX7_init_10 : decode cX7_init 10 = .ok (.aload_n 0, 1) := by decide +kernel
theorem dX7_init_11 : decode cX7_init 11 = .ok (.iload_n 3, 1) := by decide +kernel
theorem dX7_init_12 : decode cX7_init 12 = .ok (.putfield 15, 3) := by decide +kernel
theorem dX7_init_15 : decode cX7_init 15 = .ok (.aload_n 0, 1) := by decide +kernel
theorem dX7_init_16 : decode cX7_init 16 = .ok (.iload 4, 2) := by decide +kernel
theorem dX7_init_18 : decode cX7_init 18 = .ok (.putfield 18, 3) := by decide +kernel
theorem dX7_init_21 : decode cX7_init 21 = .ok (.aload_n 0, 1) := by decide +kernel
theorem dX7_init_22 : decode cX7_init 22 = .ok (.iload 5, 2) := by decide +kernel
theorem dX7_init_24 : decode cX7_init 24 = .ok (.putfield 21, 3) := by decide +kernel
theorem dX7_init_27 : decode cX7_init 27 = .ok (.aload_n 0, 1) := by decide +kernel
theorem dX7_init_28 : decode cX7_init 28 = .ok (.iload 6, 2) := by decide +kernel
theorem dX7_init_30 : decode cX7_init 30 = .ok (.putfield 24, 3) := by decide +kernel
theorem dX7_init_33 : decode cX7_init 33 = .ok (.return_, 1) := by decide +kernel
theorem dX7_kind_0 : decode cX7_kind 0 = .ok (.iconst 2, 1) := by decide +kernel
theorem dX7_kind_1 : decode cX7_kind 1 = .ok (.ireturn, 1) := by decide +kernel
theorem dX7_heldKey_0 : decode cX7_heldKey 0 = .ok (.aload_n 0, 1) := by decide +kernel
theorem dX7_heldKey_1 : decode cX7_heldKey 1 = .ok (.getfield 15, 3) := by decide +kernel
theorem dX7_heldKey_4 : decode cX7_heldKey 4 = .ok (.ireturn, 1) := by decide +kernel
theorem dX7_shownEnd_0 : decode cX7_shownEnd 0 = .ok (.aload_n 0, 1) := by decide +kernel
theorem dX7_shownEnd_1 : decode cX7_shownEnd 1 = .ok (.getfield 21, 3) := by decide +kernel
theorem dX7_shownEnd_4 : decode cX7_shownEnd 4 = .ok (.ireturn, 1) := by decide +kernel
theorem dX8_init_0 : decode cX8_init 0 = .ok (.aload_n 0, 1) := by decide +kernel
theorem dX8_init_1 : decode cX8_init 1 = .ok (.invokespecial 3, 3) := by decide +kernel
theorem dX8_init_4 : decode cX8_init 4 = .ok (.aload_n 0, 1) := by decide +kernel
theorem dX8_init_5 : decode cX8_init 5 = .ok (.iconst 0, 1) := by decide +kernel
theorem dX8_init_6 : decode cX8_init 6 = .ok (.putfield 9, 3) := by decide +kernel
theorem dX8_init_9 : decode cX8_init 9 = .ok (.aload_n 0, 1) := by decide +kernel
theorem dX8_init_10 : decode cX8_init 10 = .ok (.iconst 0, 1) := by decide +kernel
theorem dX8_init_11 : decode cX8_init 11 = .ok (.putfield 15, 3) := by decide +kernel
theorem dX8_init_14 : decode cX8_init 14 = .ok (.aload_n 0, 1) := by decide +kernel
theorem dX8_init_15 : decode cX8_init 15 = .ok (.iconst (-1), 1) := by decide +kernel
theorem dX8_init_16 : decode cX8_init 16 = .ok (.putfield 18, 3) := by decide +kernel
theorem dX8_init_19 : decode cX8_init 19 = .ok (.aload_n 0, 1) := by decide +kernel
theorem dX8_init_20 : decode cX8_init 20 = .ok (.iconst 0, 1) := by decide +kernel
theorem dX8_init_21 : decode cX8_init 21 = .ok (.putfield 21, 3) := by decide +kernel
theorem dX8_init_24 : decode cX8_init 24 = .ok (.aload_n 0, 1) := by decide +kernel
theorem dX8_init_25 : decode cX8_init 25 = .ok (.iconst 2, 1) := by decide +kernel
theorem dX8_init_26 : decode cX8_init 26 = .ok (.newarray .int, 2) := by decide +kernel
theorem dX8_init_28 : decode cX8_init 28 = .ok (.putfield 24, 3) := by decide +kernel
theorem dX8_init_31 : decode cX8_init 31 = .ok (.aload_n 0, 1) := by decide +kernel
theorem dX8_init_32 : decode cX8_init 32 = .ok (.iconst 2, 1) := by decide +kernel
theorem dX8_init_33 : decode cX8_init 33 = .ok (.newarray .int, 2) := by decide +kernel
theorem dX8_init_35 : decode cX8_init 35 = .ok (.putfield 28, 3) := by decide +kernel
theorem dX8_init_38 : decode cX8_init 38 = .ok (.iconst 0, 1) := by decide +kernel
theorem dX8_init_39 : decode cX8_init 39 = .ok (.istore_n 1, 1) := by decide +kernel
theorem dX8_init_40 : decode cX8_init 40 = .ok (.iload_n 1, 1) := by decide +kernel
theorem dX8_init_41 : decode cX8_init 41 = .ok (.iconst 2, 1) := by decide +kernel
theorem dX8_init_42 : decode cX8_init 42 = .ok (.if_icmp .ge 23, 3) := by decide +kernel
theorem dX8_init_45 : decode cX8_init 45 = .ok (.aload_n 0, 1) := by decide +kernel
theorem dX8_init_46 : decode cX8_init 46 = .ok (.getfield 24, 3) := by decide +kernel
theorem dX8_init_49 : decode cX8_init 49 = .ok (.iload_n 1, 1) := by decide +kernel
theorem dX8_init_50 : decode cX8_init 50 = .ok (.iconst (-1), 1) := by decide +kernel
theorem dX8_init_51 : decode cX8_init 51 = .ok (.iastore, 1) := by decide +kernel
theorem dX8_init_52 : decode cX8_init 52 = .ok (.aload_n 0, 1) := by decide +kernel
theorem dX8_init_53 : decode cX8_init 53 = .ok (.getfield 28, 3) := by decide +kernel
theorem dX8_init_56 : decode cX8_init 56 = .ok (.iload_n 1, 1) := by decide +kernel
theorem dX8_init_57 : decode cX8_init 57 = .ok (.iconst (-1), 1) := by decide +kernel
theorem dX8_init_58 : decode cX8_init 58 = .ok (.iastore, 1) := by decide +kernel
theorem dX8_init_59 : decode cX8_init 59 = .ok (.iinc 1 1, 3) := by decide +kernel
theorem dX8_init_62 : decode cX8_init 62 = .ok (.goto (-22), 3) := by decide +kernel
theorem dX8_init_65 : decode cX8_init 65 = .ok (.return_, 1) := by decide +kernel
theorem dX8_hasRequest_0 : decode cX8_hasRequest 0 = .ok (.aload_n 0, 1) := by decide +kernel
theorem dX8_hasRequest_1 : decode cX8_hasRequest 1 = .ok (.getfield 9, 3) := by decide +kernel
theorem dX8_hasRequest_4 : decode cX8_hasRequest 4 = .ok (.ifCond .eq 7, 3) := by decide +kernel
theorem dX8_hasRequest_7 : decode cX8_hasRequest 7 = .ok (.iconst 1, 1) := by decide +kernel
theorem dX8_hasRequest_8 : decode cX8_hasRequest 8 = .ok (.goto 4, 3) := by decide +kernel
theorem dX8_hasRequest_11 : decode cX8_hasRequest 11 = .ok (.iconst 0, 1) := by decide +kernel
theorem dX8_hasRequest_12 : decode cX8_hasRequest 12 = .ok (.ireturn, 1) := by decide +kernel
theorem dX8_hasCredential_0 : decode cX8_hasCredential 0 = .ok (.aload_n 0, 1) := by decide +kernel
theorem dX8_hasCredential_1 : decode cX8_hasCredential 1 = .ok (.getfield 24, 3) := by decide +kernel
theorem dX8_hasCredential_4 : decode cX8_hasCredential 4 = .ok (.iload_n 1, 1) := by decide +kernel
theorem dX8_hasCredential_5 : decode cX8_hasCredential 5 = .ok (.iaload, 1) := by decide +kernel
theorem dX8_hasCredential_6 : decode cX8_hasCredential 6 = .ok (.iconst (-1), 1) := by decide +kernel
theorem dX8_hasCredential_7 : decode cX8_hasCredential 7 = .ok (.if_icmp .eq 7, 3) := by decide +kernel
theorem dX8_hasCredential_10 : decode cX8_hasCredential 10 = .ok (.iconst 1, 1) := by decide +kernel
theorem dX8_hasCredential_11 : decode cX8_hasCredential 11 = .ok (.goto 4, 3) := by decide +kernel
theorem dX8_hasCredential_14 : decode cX8_hasCredential 14 = .ok (.iconst 0, 1) := by decide +kernel
theorem dX8_hasCredential_15 : decode cX8_hasCredential 15 = .ok (.ireturn, 1) := by decide +kernel
theorem dX8_openRequest_0 : decode cX8_openRequest 0 = .ok (.aload_n 0, 1) := by decide +kernel
theorem dX8_openRequest_1 : decode cX8_openRequest 1 = .ok (.iload_n 1, 1) := by decide +kernel
theorem dX8_openRequest_2 : decode cX8_openRequest 2 = .ok (.putfield 9, 3) := by decide +kernel
theorem dX8_openRequest_5 : decode cX8_openRequest 5 = .ok (.aload_n 0, 1) := by decide +kernel
theorem dX8_openRequest_6 : decode cX8_openRequest 6 = .ok (.iload_n 2, 1) := by decide +kernel
theorem dX8_openRequest_7 : decode cX8_openRequest 7 = .ok (.putfield 15, 3) := by decide +kernel
theorem dX8_openRequest_10 : decode cX8_openRequest 10 = .ok (.aload_n 0, 1) := by decide +kernel
theorem dX8_openRequest_11 : decode cX8_openRequest 11 = .ok (.iload_n 3, 1) := by decide +kernel
theorem dX8_openRequest_12 : decode cX8_openRequest 12 = .ok (.putfield 18, 3) := by decide +kernel
theorem dX8_openRequest_15 : decode cX8_openRequest 15 = .ok (.return_, 1) := by decide +kernel
theorem dX8_closeRequest_0 : decode cX8_closeRequest 0 = .ok (.aload_n 0, 1) := by decide +kernel
theorem dX8_closeRequest_1 : decode cX8_closeRequest 1 = .ok (.getfield 24, 3) := by decide +kernel
theorem dX8_closeRequest_4 : decode cX8_closeRequest 4 = .ok (.aload_n 0, 1) := by decide +kernel
theorem dX8_closeRequest_5 : decode cX8_closeRequest 5 = .ok (.getfield 15, 3) := by decide +kernel
theorem dX8_closeRequest_8 : decode cX8_closeRequest 8 = .ok (.iload_n 1, 1) := by decide +kernel
theorem dX8_closeRequest_9 : decode cX8_closeRequest 9 = .ok (.iastore, 1) := by decide +kernel
theorem dX8_closeRequest_10 : decode cX8_closeRequest 10 = .ok (.aload_n 0, 1) := by decide +kernel
theorem dX8_closeRequest_11 : decode cX8_closeRequest 11 = .ok (.getfield 28, 3) := by decide +kernel
theorem dX8_closeRequest_14 : decode cX8_closeRequest 14 = .ok (.aload_n 0, 1) := by decide +kernel
theorem dX8_closeRequest_15 : decode cX8_closeRequest 15 = .ok (.getfield 15, 3) := by decide +kernel
theorem dX8_closeRequest_18 : decode cX8_closeRequest 18 = .ok (.iload_n 2, 1) := by decide +kernel
theorem dX8_closeRequest_19 : decode cX8_closeRequest 19 = .ok (.iastore, 1) := by decide +kernel
theorem dX8_closeRequest_20 : decode cX8_closeRequest 20 = .ok (.aload_n 0, 1) := by decide +kernel
theorem dX8_closeRequest_21 : decode cX8_closeRequest 21 = .ok (.iconst 0, 1) := by decide +kernel
theorem dX8_closeRequest_22 : decode cX8_closeRequest 22 = .ok (.putfield 9, 3) := by decide +kernel
theorem dX8_closeRequest_25 : decode cX8_closeRequest 25 = .ok (.return_, 1) := by decide +kernel
theorem dX8_makeSerial_0 : decode cX8_makeSerial 0 = .ok (.aload_n 0, 1) := by decide +kernel
theorem dX8_makeSerial_1 : decode cX8_makeSerial 1 = .ok (.dup, 1) := by decide +kernel
theorem dX8_makeSerial_2 : decode cX8_makeSerial 2 = .ok (.getfield 21, 3) := by decide +kernel
theorem dX8_makeSerial_5 : decode cX8_makeSerial 5 = .ok (.iconst 1, 1) := by decide +kernel
theorem dX8_makeSerial_6 : decode cX8_makeSerial 6 = .ok (.iadd, 1) := by decide +kernel
theorem dX8_makeSerial_7 : decode cX8_makeSerial 7 = .ok (.putfield 21, 3) := by decide +kernel
theorem dX8_makeSerial_10 : decode cX8_makeSerial 10 = .ok (.aload_n 0, 1) := by decide +kernel
theorem dX8_makeSerial_11 : decode cX8_makeSerial 11 = .ok (.getfield 21, 3) := by decide +kernel
theorem dX8_makeSerial_14 : decode cX8_makeSerial 14 = .ok (.ireturn, 1) := by decide +kernel
theorem dJ9_abs_067f4_0 : decode cJ9_abs_067f4 0 = .ok (.lload_n 0, 1) := by decide +kernel
theorem dJ9_abs_067f4_1 : decode cJ9_abs_067f4 1 = .ok (.lconst 0, 1) := by decide +kernel
theorem dJ9_abs_067f4_2 : decode cJ9_abs_067f4 2 = .ok (.lcmp, 1) := by decide +kernel
theorem dJ9_abs_067f4_3 : decode cJ9_abs_067f4 3 = .ok (.ifCond .ge 8, 3) := by decide +kernel
theorem dJ9_abs_067f4_6 : decode cJ9_abs_067f4 6 = .ok (.lload_n 0, 1) := by decide +kernel
theorem dJ9_abs_067f4_7 : decode cJ9_abs_067f4 7 = .ok (.lneg, 1) := by decide +kernel
theorem dJ9_abs_067f4_8 : decode cJ9_abs_067f4 8 = .ok (.goto 4, 3) := by decide +kernel
theorem dJ9_abs_067f4_11 : decode cJ9_abs_067f4 11 = .ok (.lload_n 0, 1) := by decide +kernel
theorem dJ9_abs_067f4_12 : decode cJ9_abs_067f4 12 = .ok (.lreturn, 1) := by decide +kernel
theorem dJ9_max_7cf53_0 : decode cJ9_max_7cf53 0 = .ok (.iload_n 0, 1) := by decide +kernel
theorem dJ9_max_7cf53_1 : decode cJ9_max_7cf53 1 = .ok (.iload_n 1, 1) := by decide +kernel
theorem dJ9_max_7cf53_2 : decode cJ9_max_7cf53 2 = .ok (.if_icmp .lt 7, 3) := by decide +kernel
theorem dJ9_max_7cf53_5 : decode cJ9_max_7cf53 5 = .ok (.iload_n 0, 1) := by decide +kernel
theorem dJ9_max_7cf53_6 : decode cJ9_max_7cf53 6 = .ok (.goto 4, 3) := by decide +kernel
theorem dJ9_max_7cf53_9 : decode cJ9_max_7cf53 9 = .ok (.iload_n 1, 1) := by decide +kernel
theorem dJ9_max_7cf53_10 : decode cJ9_max_7cf53 10 = .ok (.ireturn, 1) := by decide +kernel
theorem dJ9_min_7cf53_0 : decode cJ9_min_7cf53 0 = .ok (.iload_n 0, 1) := by decide +kernel
theorem dJ9_min_7cf53_1 : decode cJ9_min_7cf53 1 = .ok (.iload_n 1, 1) := by decide +kernel
theorem dJ9_min_7cf53_2 : decode cJ9_min_7cf53 2 = .ok (.if_icmp .gt 7, 3) := by decide +kernel
theorem dJ9_min_7cf53_5 : decode cJ9_min_7cf53 5 = .ok (.iload_n 0, 1) := by decide +kernel
theorem dJ9_min_7cf53_6 : decode cJ9_min_7cf53 6 = .ok (.goto 4, 3) := by decide +kernel
theorem dJ9_min_7cf53_9 : decode cJ9_min_7cf53 9 = .ok (.iload_n 1, 1) := by decide +kernel
theorem dJ9_min_7cf53_10 : decode cJ9_min_7cf53 10 = .ok (.ireturn, 1) := by decide +kernel
theorem dL_cell_0 : decode cL_cell 0 = .ok (.iload_n 1, 1) := by decide +kernel
theorem dL_cell_1 : decode cL_cell 1 = .ok (.aload_n 0, 1) := by decide +kernel
theorem dL_cell_2 : decode cL_cell 2 = .ok (.arraylength, 1) := by decide +kernel
theorem dL_cell_3 : decode cL_cell 3 = .ok (.if_icmp .ge 9, 3) := by decide +kernel
theorem dL_cell_6 : decode cL_cell 6 = .ok (.aload_n 0, 1) := by decide +kernel
theorem dL_cell_7 : decode cL_cell 7 = .ok (.iload_n 1, 1) := by decide +kernel
theorem dL_cell_8 : decode cL_cell 8 = .ok (.iaload, 1) := by decide +kernel
theorem dL_cell_9 : decode cL_cell 9 = .ok (.goto 4, 3) := by decide +kernel
theorem dL_cell_12 : decode cL_cell 12 = .ok (.iconst 0, 1) := by decide +kernel
theorem dL_cell_13 : decode cL_cell 13 = .ok (.ireturn, 1) := by decide +kernel
