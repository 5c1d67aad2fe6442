theorem dX0_init_0 : decode cX0_init 0 = .ok (.aload_n 0, 1) := by decide +kernel
theorem dX0_init_1 : decode cX0_init 1 = .ok (.invokespecial 5, 3) := by decide +kernel
theorem dX0_init_4 : decode cX0_init 4 = .ok (.aload_n 0, 1) := by decide +kernel
theorem dX0_init_5 : decode cX0_init 5 = .ok (.bipush 8, 2) := by decide +kernel
theorem dX0_init_7 : decode cX0_init 7 = .ok (.bipush 10, 2) := by decide +kernel
theorem dX0_init_9 : decode cX0_init 9 = .ok (.multianewarray 13 2, 4) := by decide +kernel
theorem dX0_init_13 : decode cX0_init 13 = .ok (.putfield 15, 3) := by decide +kernel
theorem dX0_init_16 : decode cX0_init 16 = .ok (.aload_n 0, 1) := by decide +kernel
theorem dX0_init_17 : decode cX0_init 17 = .ok (.sipush 1024, 3) := by decide +kernel
theorem dX0_init_20 : decode cX0_init 20 = .ok (.newarray .long, 2) := by decide +kernel
theorem dX0_init_22 : decode cX0_init 22 = .ok (.putfield 20, 3) := by decide +kernel
theorem dX0_init_25 : decode cX0_init 25 = .ok (.aload_n 0, 1) := by decide +kernel
theorem dX0_init_26 : decode cX0_init 26 = .ok (.bipush 8, 2) := by decide +kernel
theorem dX0_init_28 : decode cX0_init 28 = .ok (.newarray .int, 2) := by decide +kernel
theorem dX0_init_30 : decode cX0_init 30 = .ok (.putfield 24, 3) := by decide +kernel
theorem dX0_init_33 : decode cX0_init 33 = .ok (.aload_n 0, 1) := by decide +kernel
theorem dX0_init_34 : decode cX0_init 34 = .ok (.bipush 8, 2) := by decide +kernel
theorem dX0_init_36 : decode cX0_init 36 = .ok (.newarray .int, 2) := by decide +kernel
theorem dX0_init_38 : decode cX0_init 38 = .ok (.putfield 28, 3) := by decide +kernel
theorem dX0_init_41 : decode cX0_init 41 = .ok (.return_, 1) := by decide +kernel
theorem dX0_weigh_0 : decode cX0_weigh 0 = .ok (.aload_n 0, 1) := by decide +kernel
theorem dX0_weigh_1 : decode cX0_weigh 1 = .ok (.aload_n 1, 1) := by decide +kernel
theorem dX0_weigh_2 : decode cX0_weigh 2 = .ok (.getfield 31, 3) := by decide +kernel
theorem dX0_weigh_5 : decode cX0_weigh 5 = .ok (.getfield 37, 3) := by decide +kernel
theorem dX0_weigh_8 : decode cX0_weigh 8 = .ok (.iload_n 2, 1) := by decide +kernel
theorem dX0_weigh_9 : decode cX0_weigh 9 = .ok (.iaload, 1) := by decide +kernel
theorem dX0_weigh_10 : decode cX0_weigh 10 = .ok (.putfield 40, 3) := by decide +kernel
theorem dX0_weigh_13 : decode cX0_weigh 13 = .ok (.aload_n 0, 1) := by decide +kernel
theorem dX0_weigh_14 : decode cX0_weigh 14 = .ok (.aload_n 1, 1) := by decide +kernel
theorem dX0_weigh_15 : decode cX0_weigh 15 = .ok (.getfield 44, 3) := by decide +kernel
theorem dX0_weigh_18 : decode cX0_weigh 18 = .ok (.putfield 47, 3) := by decide +kernel
theorem dX0_weigh_21 : decode cX0_weigh 21 = .ok (.iconst 0, 1) := by decide +kernel
theorem dX0_weigh_22 : decode cX0_weigh 22 = .ok (.istore_n 3, 1) := by decide +kernel
theorem dX0_weigh_23 : decode cX0_weigh 23 = .ok (.iload_n 3, 1) := by decide +kernel
theorem dX0_weigh_24 : decode cX0_weigh 24 = .ok (.aload_n 0, 1) := by decide +kernel
theorem dX0_weigh_25 : decode cX0_weigh 25 = .ok (.getfield 40, 3) := by decide +kernel
theorem dX0_weigh_28 : decode cX0_weigh 28 = .ok (.if_icmp .ge 79, 3) := by decide +kernel
theorem dX0_weigh_31 : decode cX0_weigh 31 = .ok (.aload_n 1, 1) := by decide +kernel
theorem dX0_weigh_32 : decode cX0_weigh 32 = .ok (.getfield 31, 3) := by decide +kernel
theorem dX0_weigh_35 : decode cX0_weigh 35 = .ok (.getfield 48, 3) := by decide +kernel
theorem dX0_weigh_38 : decode cX0_weigh 38 = .ok (.iload_n 2, 1) := by decide +kernel
theorem dX0_weigh_39 : decode cX0_weigh 39 = .ok (.iaload, 1) := by decide +kernel
theorem dX0_weigh_40 : decode cX0_weigh 40 = .ok (.iload_n 3, 1) := by decide +kernel
theorem dX0_weigh_41 : decode cX0_weigh 41 = .ok (.iadd, 1) := by decide +kernel
theorem dX0_weigh_42 : decode cX0_weigh 42 = .ok (.istore 4, 2) := by decide +kernel
theorem dX0_weigh_44 : decode cX0_weigh 44 = .ok (.iconst 0, 1) := by decide +kernel
theorem dX0_weigh_45 : decode cX0_weigh 45 = .ok (.istore 5, 2) := by decide +kernel
theorem dX0_weigh_47 : decode cX0_weigh 47 = .ok (.iload 5, 2) := by decide +kernel
theorem dX0_weigh_49 : decode cX0_weigh 49 = .ok (.aload_n 0, 1) := by decide +kernel
theorem dX0_weigh_50 : decode cX0_weigh 50 = .ok (.getfield 47, 3) := by decide +kernel
theorem dX0_weigh_53 : decode cX0_weigh 53 = .ok (.if_icmp .ge 48, 3) := by decide +kernel
theorem dX0_weigh_56 : decode cX0_weigh 56 = .ok (.aload_n 1, 1) := by decide +kernel
theorem dX0_weigh_57 : decode cX0_weigh 57 = .ok (.iload 5, 2) := by decide +kernel
theorem dX0_weigh_59 : decode cX0_weigh 59 = .ok (.iload 4, 2) := by decide +kernel
theorem dX0_weigh_61 : decode cX0_weigh 61 = .ok (.invokevirtual 51, 3) := by decide +kernel
theorem dX0_weigh_64 : decode cX0_weigh 64 = .ok (.istore 6, 2) := by decide +kernel
theorem dX0_weigh_66 : decode cX0_weigh 66 = .ok (.aload_n 0, 1) := by decide +kernel
theorem dX0_weigh_67 : decode cX0_weigh 67 = .ok (.getfield 15, 3) := by decide +kernel
theorem dX0_weigh_70 : decode cX0_weigh 70 = .ok (.iload_n 3, 1) := by decide +kernel
theorem dX0_weigh_71 : decode cX0_weigh 71 = .ok (.aaload, 1) := by decide +kernel
theorem dX0_weigh_72 : decode cX0_weigh 72 = .ok (.iload 5, 2) := by decide +kernel
theorem dX0_weigh_74 : decode cX0_weigh 74 = .ok (.iload 6, 2) := by decide +kernel
theorem dX0_weigh_76 : decode cX0_weigh 76 = .ok (.ifCond .eq 15, 3) := by decide +kernel
theorem dX0_weigh_79 : decode cX0_weigh 79 = .ok (.aload_n 1, 1) := by decide +kernel
theorem dX0_weigh_80 : decode cX0_weigh 80 = .ok (.iload 5, 2) := by decide +kernel
theorem dX0_weigh_82 : decode cX0_weigh 82 = .ok (.iload 4, 2) := by decide +kernel
theorem dX0_weigh_84 : decode cX0_weigh 84 = .ok (.invokevirtual 55, 3) := by decide +kernel
theorem dX0_weigh_87 : decode cX0_weigh 87 = .ok (.i2l, 1) := by decide +kernel
theorem dX0_weigh_88 : decode cX0_weigh 88 = .ok (.goto 6, 3) := by decide +kernel
theorem dX0_weigh_91 : decode cX0_weigh 91 = .ok (.ldc2_w 59, 3) := by decide +kernel
theorem dX0_weigh_94 : decode cX0_weigh 94 = .ok (.lastore, 1) := by decide +kernel
theorem dX0_weigh_95 : decode cX0_weigh 95 = .ok (.iinc 5 1, 3) := by decide +kernel
theorem dX0_weigh_98 : decode cX0_weigh 98 = .ok (.goto (-51), 3) := by decide +kernel
theorem dX0_weigh_101 : decode cX0_weigh 101 = .ok (.iinc 3 1, 3) := by decide +kernel
theorem dX0_weigh_104 : decode cX0_weigh 104 = .ok (.goto (-81), 3) := by decide +kernel
theorem dX0_weigh_107 : decode cX0_weigh 107 = .ok (.return_, 1) := by decide +kernel
theorem dX0_choose_0 : decode cX0_choose 0 = .ok (.aload_n 0, 1) := by decide +kernel
theorem dX0_choose_1 : decode cX0_choose 1 = .ok (.aload_n 0, 1) := by decide +kernel
theorem dX0_choose_2 : decode cX0_choose 2 = .ok (.getfield 40, 3) := by decide +kernel
theorem dX0_choose_5 : decode cX0_choose 5 = .ok (.aload_n 0, 1) := by decide +kernel
theorem dX0_choose_6 : decode cX0_choose 6 = .ok (.getfield 47, 3) := by decide +kernel
theorem dX0_choose_9 : decode cX0_choose 9 = .ok (.if_icmp .gt 14, 3) := by decide +kernel
theorem dX0_choose_12 : decode cX0_choose 12 = .ok (.aload_n 0, 1) := by decide +kernel
theorem dX0_choose_13 : decode cX0_choose 13 = .ok (.invokevirtual 61, 3) := by decide +kernel
theorem dX0_choose_16 : decode cX0_choose 16 = .ok (.ifCond .eq 7, 3) := by decide +kernel
theorem dX0_choose_19 : decode cX0_choose 19 = .ok (.iconst 1, 1) := by decide +kernel
theorem dX0_choose_20 : decode cX0_choose 20 = .ok (.goto 4, 3) := by decide +kernel
theorem dX0_choose_23 : decode cX0_choose 23 = .ok (.iconst 0, 1) := by decide +kernel
theorem dX0_choose_24 : decode cX0_choose 24 = .ok (.putfield 65, 3) := by decide +kernel
theorem dX0_choose_27 : decode cX0_choose 27 = .ok (.aload_n 0, 1) := by decide +kernel
theorem dX0_choose_28 : decode cX0_choose 28 = .ok (.getfield 65, 3) := by decide +kernel
theorem dX0_choose_31 : decode cX0_choose 31 = .ok (.ifCond .eq 17, 3) := by decide +kernel
theorem dX0_choose_34 : decode cX0_choose 34 = .ok (.aload_n 0, 1) := by decide +kernel
theorem dX0_choose_35 : decode cX0_choose 35 = .ok (.aload_n 0, 1) := by decide +kernel
theorem dX0_choose_36 : decode cX0_choose 36 = .ok (.getfield 20, 3) := by decide +kernel
theorem dX0_choose_39 : decode cX0_choose 39 = .ok (.iconst 0, 1) := by decide +kernel
theorem dX0_choose_40 : decode cX0_choose 40 = .ok (.laload, 1) := by decide +kernel
theorem dX0_choose_41 : decode cX0_choose 41 = .ok (.putfield 69, 3) := by decide +kernel
theorem dX0_choose_44 : decode cX0_choose 44 = .ok (.aload_n 0, 1) := by decide +kernel
theorem dX0_choose_45 : decode cX0_choose 45 = .ok (.invokevirtual 73, 3) := by decide +kernel
theorem dX0_choose_48 : decode cX0_choose 48 = .ok (.aload_n 0, 1) := by decide +kernel
theorem dX0_choose_49 : decode cX0_choose 49 = .ok (.getfield 65, 3) := by decide +kernel
theorem dX0_choose_52 : decode cX0_choose 52 = .ok (.ireturn, 1) := by decide +kernel
theorem dX0_chooseWithout_0 : decode cX0_chooseWithout 0 = .ok (.iconst 0, 1) := by decide +kernel
theorem dX0_chooseWithout_1 : decode cX0_chooseWithout 1 = .ok (.istore_n 2, 1) := by decide +kernel
theorem dX0_chooseWithout_2 : decode cX0_chooseWithout 2 = .ok (.iload_n 2, 1) := by decide +kernel
theorem dX0_chooseWithout_3 : decode cX0_chooseWithout 3 = .ok (.aload_n 0, 1) := by decide +kernel
theorem dX0_chooseWithout_4 : decode cX0_chooseWithout 4 = .ok (.getfield 40, 3) := by decide +kernel
theorem dX0_chooseWithout_7 : decode cX0_chooseWithout 7 = .ok (.if_icmp .ge 87, 3) := by decide +kernel
theorem dX0_chooseWithout_10 : decode cX0_chooseWithout 10 = .ok (.aload_n 0, 1) := by decide +kernel
theorem dX0_chooseWithout_11 : decode cX0_chooseWithout 11 = .ok (.getfield 28, 3) := by decide +kernel
theorem dX0_chooseWithout_14 : decode cX0_chooseWithout 14 = .ok (.iload_n 2, 1) := by decide +kernel
theorem dX0_chooseWithout_15 : decode cX0_chooseWithout 15 = .ok (.aload_n 0, 1) := by decide +kernel
theorem dX0_chooseWithout_16 : decode cX0_chooseWithout 16 = .ok (.getfield 24, 3) := by decide +kernel
theorem dX0_chooseWithout_19 : decode cX0_chooseWithout 19 = .ok (.iload_n 2, 1) := by decide +kernel
theorem dX0_chooseWithout_20 : decode cX0_chooseWithout 20 = .ok (.iaload, 1) := by decide +kernel
theorem dX0_chooseWithout_21 : decode cX0_chooseWithout 21 = .ok (.iastore, 1) := by decide +kernel
theorem dX0_chooseWithout_22 : decode cX0_chooseWithout 22 = .ok (.aload_n 0, 1) := by decide +kernel
theorem dX0_chooseWithout_23 : decode cX0_chooseWithout 23 = .ok (.getfield 15, 3) := by decide +kernel
theorem dX0_chooseWithout_26 : decode cX0_chooseWithout 26 = .ok (.iload_n 2, 1) := by decide +kernel
theorem dX0_chooseWithout_27 : decode cX0_chooseWithout 27 = .ok (.aaload, 1) := by decide +kernel
theorem dX0_chooseWithout_28 : decode cX0_chooseWithout 28 = .ok (.iload_n 1, 1) := by decide +kernel
theorem dX0_chooseWithout_29 : decode cX0_chooseWithout 29 = .ok (.ldc2_w 59, 3) := by decide +kernel
theorem dX0_chooseWithout_32 : decode cX0_chooseWithout 32 = .ok (.lastore, 1) := by decide +kernel
theorem dX0_chooseWithout_33 : decode cX0_chooseWithout 33 = .ok (.iconst 0, 1) := by decide +kernel
theorem dX0_chooseWithout_34 : decode cX0_chooseWithout 34 = .ok (.istore_n 3, 1) := by decide +kernel
theorem dX0_chooseWithout_35 : decode cX0_chooseWithout 35 = .ok (.iload_n 3, 1) := by decide +kernel
theorem dX0_chooseWithout_36 : decode cX0_chooseWithout 36 = .ok (.aload_n 0, 1) := by decide +kernel
theorem dX0_chooseWithout_37 : decode cX0_chooseWithout 37 = .ok (.getfield 47, 3) := by decide +kernel
theorem dX0_chooseWithout_40 : decode cX0_chooseWithout 40 = .ok (.if_icmp .ge 48, 3) := by decide +kernel
theorem dX0_chooseWithout_43 : decode cX0_chooseWithout 43 = .ok (.iload_n 3, 1) := by decide +kernel
theorem dX0_chooseWithout_44 : decode cX0_chooseWithout 44 = .ok (.aload_n 0, 1) := by decide +kernel
theorem dX0_chooseWithout_45 : decode cX0_chooseWithout 45 = .ok (.getfield 28, 3) := by decide +kernel
theorem dX0_chooseWithout_48 : decode cX0_chooseWithout 48 = .ok (.iload_n 2, 1) := by decide +kernel
theorem dX0_chooseWithout_49 : decode cX0_chooseWithout 49 = .ok (.iaload, 1) := by decide +kernel
theorem dX0_chooseWithout_50 : decode cX0_chooseWithout 50 = .ok (.if_icmp .eq 32, 3) := by decide +kernel
theorem dX0_chooseWithout_53 : decode cX0_chooseWithout 53 = .ok (.aload_n 0, 1) := by decide +kernel
theorem dX0_chooseWithout_54 : decode cX0_chooseWithout 54 = .ok (.getfield 15, 3) := by decide +kernel
theorem dX0_chooseWithout_57 : decode cX0_chooseWithout 57 = .ok (.iload_n 2, 1) := by decide +kernel
theorem dX0_chooseWithout_58 : decode cX0_chooseWithout 58 = .ok (.aaload, 1) := by decide +kernel
theorem dX0_chooseWithout_59 : decode cX0_chooseWithout 59 = .ok (.iload_n 3, 1) := by decide +kernel
theorem dX0_chooseWithout_60 : decode cX0_chooseWithout 60 = .ok (.laload, 1) := by decide +kernel
theorem dX0_chooseWithout_61 : decode cX0_chooseWithout 61 = .ok (.ldc2_w 59, 3) := by decide +kernel
theorem dX0_chooseWithout_64 : decode cX0_chooseWithout 64 = .ok (.lcmp, 1) := by decide +kernel
theorem dX0_chooseWithout_65 : decode cX0_chooseWithout 65 = .ok (.ifCond .eq 17, 3) := by decide +kernel
theorem dX0_chooseWithout_68 : decode cX0_chooseWithout 68 = .ok (.aload_n 0, 1) := by decide +kernel
theorem dX0_chooseWithout_69 : decode cX0_chooseWithout 69 = .ok (.getfield 15, 3) := by decide +kernel
theorem dX0_chooseWithout_72 : decode cX0_chooseWithout 72 = .ok (.iload_n 2, 1) := by decide +kernel
theorem dX0_chooseWithout_73 : decode cX0_chooseWithout 73 = .ok (.aaload, 1) := by decide +kernel
theorem dX0_chooseWithout_74 : decode cX0_chooseWithout 74 = .ok (.iload_n 3, 1) := by decide +kernel
theorem dX0_chooseWithout_75 : decode cX0_chooseWithout 75 = .ok (.dup2, 1) := by decide +kernel
theorem dX0_chooseWithout_76 : decode cX0_chooseWithout 76 = .ok (.laload, 1) := by decide +kernel
theorem dX0_chooseWithout_77 : decode cX0_chooseWithout 77 = .ok (.ldc2_w 76, 3) := by decide +kernel
theorem dX0_chooseWithout_80 : decode cX0_chooseWithout 80 = .ok (.ladd, 1) := by decide +kernel
theorem dX0_chooseWithout_81 : decode cX0_chooseWithout 81 = .ok (.lastore, 1) := by decide +kernel
theorem dX0_chooseWithout_82 : decode cX0_chooseWithout 82 = .ok (.iinc 3 1, 3) := by decide +kernel
theorem dX0_chooseWithout_85 : decode cX0_chooseWithout 85 = .ok (.goto (-50), 3) := by decide +kernel
theorem dX0_chooseWithout_88 : decode cX0_chooseWithout 88 = .ok (.iinc 2 1, 3) := by decide +kernel
theorem dX0_chooseWithout_91 : decode cX0_chooseWithout 91 = .ok (.goto (-89), 3) := by decide +kernel
theorem dX0_chooseWithout_94 : decode cX0_chooseWithout 94 = .ok (.aload_n 0, 1) := by decide +kernel
theorem dX0_chooseWithout_95 : decode cX0_chooseWithout 95 = .ok (.invokevirtual 78, 3) := by decide +kernel
theorem dX0_chooseWithout_98 : decode cX0_chooseWithout 98 = .ok (.ireturn, 1) := by decide +kernel
theorem dX0_isWilling_0 : decode cX0_isWilling 0 = .ok (.aload_n 0, 1) := by decide +kernel
theorem dX0_isWilling_1 : decode cX0_isWilling 1 = .ok (.getfield 15, 3) := by decide +kernel
theorem dX0_isWilling_4 : decode cX0_isWilling 4 = .ok (.iload_n 1, 1) := by decide +kernel
theorem dX0_isWilling_5 : decode cX0_isWilling 5 = .ok (.aaload, 1) := by decide +kernel
theorem dX0_isWilling_6 : decode cX0_isWilling 6 = .ok (.iload_n 2, 1) := by decide +kernel
theorem dX0_isWilling_7 : decode cX0_isWilling 7 = .ok (.laload, 1) := by decide +kernel
theorem dX0_isWilling_8 : decode cX0_isWilling 8 = .ok (.ldc2_w 59, 3) := by decide +kernel
theorem dX0_isWilling_11 : decode cX0_isWilling 11 = .ok (.lcmp, 1) := by decide +kernel
theorem dX0_isWilling_12 : decode cX0_isWilling 12 = .ok (.ifCond .eq 7, 3) := by decide +kernel
theorem dX0_isWilling_15 : decode cX0_isWilling 15 = .ok (.iconst 1, 1) := by decide +kernel
theorem dX0_isWilling_16 : decode cX0_isWilling 16 = .ok (.goto 4, 3) := by decide +kernel
theorem dX0_isWilling_19 : decode cX0_isWilling 19 = .ok (.iconst 0, 1) := by decide +kernel
theorem dX0_isWilling_20 : decode cX0_isWilling 20 = .ok (.ireturn, 1) := by decide +kernel
theorem dX0_bodyOf_0 : decode cX0_bodyOf 0 = .ok (.aload_n 0, 1) := by decide +kernel
theorem dX0_bodyOf_1 : decode cX0_bodyOf 1 = .ok (.getfield 24, 3) := by decide +kernel
theorem dX0_bodyOf_4 : decode cX0_bodyOf 4 = .ok (.iload_n 1, 1) := by decide +kernel
theorem dX0_bodyOf_5 : decode cX0_bodyOf 5 = .ok (.iaload, 1) := by decide +kernel
theorem dX0_bodyOf_6 : decode cX0_bodyOf 6 = .ok (.ireturn, 1) := by decide +kernel
theorem dX0_inCast_0 : decode cX0_inCast 0 = .ok (.iconst 0, 1) := by decide +kernel
theorem dX0_inCast_1 : decode cX0_inCast 1 = .ok (.istore_n 1, 1) := by decide +kernel
theorem dX0_inCast_2 : decode cX0_inCast 2 = .ok (.iconst 0, 1) := by decide +kernel
theorem dX0_inCast_3 : decode cX0_inCast 3 = .ok (.istore_n 2, 1) := by decide +kernel
theorem dX0_inCast_4 : decode cX0_inCast 4 = .ok (.aload_n 0, 1) := by decide +kernel
theorem dX0_inCast_5 : decode cX0_inCast 5 = .ok (.getfield 65, 3) := by decide +kernel
theorem dX0_inCast_8 : decode cX0_inCast 8 = .ok (.ifCond .eq 28, 3) := by decide +kernel
theorem dX0_inCast_11 : decode cX0_inCast 11 = .ok (.iload_n 2, 1) := by decide +kernel
theorem dX0_inCast_12 : decode cX0_inCast 12 = .ok (.aload_n 0, 1) := by decide +kernel
theorem dX0_inCast_13 : decode cX0_inCast 13 = .ok (.getfield 40, 3) := by decide +kernel
theorem dX0_inCast_16 : decode cX0_inCast 16 = .ok (.if_icmp .ge 20, 3) := by decide +kernel
theorem dX0_inCast_19 : decode cX0_inCast 19 = .ok (.iload_n 1, 1) := by decide +kernel
theorem dX0_inCast_20 : decode cX0_inCast 20 = .ok (.iconst 1, 1) := by decide +kernel
theorem dX0_inCast_21 : decode cX0_inCast 21 = .ok (.aload_n 0, 1) := by decide +kernel
theorem dX0_inCast_22 : decode cX0_inCast 22 = .ok (.getfield 24, 3) := by decide +kernel
theorem dX0_inCast_25 : decode cX0_inCast 25 = .ok (.iload_n 2, 1) := by decide +kernel
theorem dX0_inCast_26 : decode cX0_inCast 26 = .ok (.iaload, 1) := by decide +kernel
theorem dX0_inCast_27 : decode cX0_inCast 27 = .ok (.ishl, 1) := by decide +kernel
theorem dX0_inCast_28 : decode cX0_inCast 28 = .ok (.ior, 1) := by decide +kernel
theorem dX0_inCast_29 : decode cX0_inCast 29 = .ok (.istore_n 1, 1) := by decide +kernel
theorem dX0_inCast_30 : decode cX0_inCast 30 = .ok (.iinc 2 1, 3) := by decide +kernel
theorem dX0_inCast_33 : decode cX0_inCast 33 = .ok (.goto (-29), 3) := by decide +kernel
theorem dX0_inCast_36 : decode cX0_inCast 36 = .ok (.iload_n 1, 1) := by decide +kernel
theorem dX0_inCast_37 : decode cX0_inCast 37 = .ok (.ireturn, 1) := by decide +kernel
theorem dX0_changed_0 : decode cX0_changed 0 = .ok (.iconst 0, 1) := by decide +kernel
theorem dX0_changed_1 : decode cX0_changed 1 = .ok (.istore_n 1, 1) := by decide +kernel
theorem dX0_changed_2 : decode cX0_changed 2 = .ok (.iconst 0, 1) := by decide +kernel
theorem dX0_changed_3 : decode cX0_changed 3 = .ok (.istore_n 2, 1) := by decide +kernel
theorem dX0_changed_4 : decode cX0_changed 4 = .ok (.iload_n 2, 1) := by decide +kernel
theorem dX0_changed_5 : decode cX0_changed 5 = .ok (.aload_n 0, 1) := by decide +kernel
theorem dX0_changed_6 : decode cX0_changed 6 = .ok (.getfield 40, 3) := by decide +kernel
theorem dX0_changed_9 : decode cX0_changed 9 = .ok (.if_icmp .ge 27, 3) := by decide +kernel
theorem dX0_changed_12 : decode cX0_changed 12 = .ok (.aload_n 0, 1) := by decide +kernel
theorem dX0_changed_13 : decode cX0_changed 13 = .ok (.getfield 24, 3) := by decide +kernel
theorem dX0_changed_16 : decode cX0_changed 16 = .ok (.iload_n 2, 1) := by decide +kernel
theorem dX0_changed_17 : decode cX0_changed 17 = .ok (.iaload, 1) := by decide +kernel
theorem dX0_changed_18 : decode cX0_changed 18 = .ok (.aload_n 0, 1) := by decide +kernel
theorem dX0_changed_19 : decode cX0_changed 19 = .ok (.getfield 28, 3) := by decide +kernel
theorem dX0_changed_22 : decode cX0_changed 22 = .ok (.iload_n 2, 1) := by decide +kernel
theorem dX0_changed_23 : decode cX0_changed 23 = .ok (.iaload, 1) := by decide +kernel
theorem dX0_changed_24 : decode cX0_changed 24 = .ok (.if_icmp .eq 6, 3) := by decide +kernel
theorem dX0_changed_27 : decode cX0_changed 27 = .ok (.iinc 1 1, 3) := by decide +kernel
theorem dX0_changed_30 : decode cX0_changed 30 = .ok (.iinc 2 1, 3) := by decide +kernel
theorem dX0_changed_33 : decode cX0_changed 33 = .ok (.goto (-29), 3) := by decide +kernel
theorem dX0_changed_36 : decode cX0_changed 36 = .ok (.iload_n 1, 1) := by decide +kernel
theorem dX0_changed_37 : decode cX0_changed 37 = .ok (.ireturn, 1) := by decide +kernel
theorem dX0_leastRest_0 : decode cX0_leastRest 0 = .ok (.iconst 1, 1) := by decide +kernel
theorem dX0_leastRest_1 : decode cX0_leastRest 1 = .ok (.aload_n 0, 1) := by decide +kernel
theorem dX0_leastRest_2 : decode cX0_leastRest 2 = .ok (.getfield 47, 3) := by decide +kernel
theorem dX0_leastRest_5 : decode cX0_leastRest 5 = .ok (.ishl, 1) := by decide +kernel
theorem dX0_leastRest_6 : decode cX0_leastRest 6 = .ok (.iconst 1, 1) := by decide +kernel
theorem dX0_leastRest_7 : decode cX0_leastRest 7 = .ok (.isub, 1) := by decide +kernel
theorem dX0_leastRest_8 : decode cX0_leastRest 8 = .ok (.istore_n 1, 1) := by decide +kernel
theorem dX0_leastRest_9 : decode cX0_leastRest 9 = .ok (.iload_n 1, 1) := by decide +kernel
theorem dX0_leastRest_10 : decode cX0_leastRest 10 = .ok (.ifCond .lt 44, 3) := by decide +kernel
theorem dX0_leastRest_13 : decode cX0_leastRest 13 = .ok (.iload_n 1, 1) := by decide +kernel
theorem dX0_leastRest_14 : decode cX0_leastRest 14 = .ok (.invokestatic 81, 3) := by decide +kernel
theorem dX0_leastRest_17 : decode cX0_leastRest 17 = .ok (.istore_n 2, 1) := by decide +kernel
theorem dX0_leastRest_18 : decode cX0_leastRest 18 = .ok (.iload_n 2, 1) := by decide +kernel
theorem dX0_leastRest_19 : decode cX0_leastRest 19 = .ok (.aload_n 0, 1) := by decide +kernel
theorem dX0_leastRest_20 : decode cX0_leastRest 20 = .ok (.getfield 40, 3) := by decide +kernel
theorem dX0_leastRest_23 : decode cX0_leastRest 23 = .ok (.if_icmp .ge 18, 3) := by decide +kernel
theorem dX0_leastRest_26 : decode cX0_leastRest 26 = .ok (.aload_n 0, 1) := by decide +kernel
theorem dX0_leastRest_27 : decode cX0_leastRest 27 = .ok (.getfield 20, 3) := by decide +kernel
theorem dX0_leastRest_30 : decode cX0_leastRest 30 = .ok (.iload_n 1, 1) := by decide +kernel
theorem dX0_leastRest_31 : decode cX0_leastRest 31 = .ok (.aload_n 0, 1) := by decide +kernel
theorem dX0_leastRest_32 : decode cX0_leastRest 32 = .ok (.iload_n 2, 1) := by decide +kernel
theorem dX0_leastRest_33 : decode cX0_leastRest 33 = .ok (.iload_n 1, 1) := by decide +kernel
theorem dX0_leastRest_34 : decode cX0_leastRest 34 = .ok (.invokevirtual 87, 3) := by decide +kernel
theorem dX0_leastRest_37 : decode cX0_leastRest 37 = .ok (.lastore, 1) := by decide +kernel
theorem dX0_leastRest_38 : decode cX0_leastRest 38 = .ok (.goto 10, 3) := by decide +kernel
theorem dX0_leastRest_41 : decode cX0_leastRest 41 = .ok (.aload_n 0, 1) := by decide +kernel
theorem dX0_leastRest_42 : decode cX0_leastRest 42 = .ok (.getfield 20, 3) := by decide +kernel
theorem dX0_leastRest_45 : decode cX0_leastRest 45 = .ok (.iload_n 1, 1) := by decide +kernel
theorem dX0_leastRest_46 : decode cX0_leastRest 46 = .ok (.lconst 0, 1) := by decide +kernel
theorem dX0_leastRest_47 : decode cX0_leastRest 47 = .ok (.lastore, 1) := by decide +kernel
theorem dX0_leastRest_48 : decode cX0_leastRest 48 = .ok (.iinc 1 (-1), 3) := by decide +kernel
theorem dX0_leastRest_51 : decode cX0_leastRest 51 = .ok (.goto (-42), 3) := by decide +kernel
theorem dX0_leastRest_54 : decode cX0_leastRest 54 = .ok (.aload_n 0, 1) := by decide +kernel
theorem dX0_leastRest_55 : decode cX0_leastRest 55 = .ok (.getfield 20, 3) := by decide +kernel
theorem dX0_leastRest_58 : decode cX0_leastRest 58 = .ok (.iconst 0, 1) := by decide +kernel
theorem dX0_leastRest_59 : decode cX0_leastRest 59 = .ok (.laload, 1) := by decide +kernel
theorem dX0_leastRest_60 : decode cX0_leastRest 60 = .ok (.ldc2_w 59, 3) := by decide +kernel
theorem dX0_leastRest_63 : decode cX0_leastRest 63 = .ok (.lcmp, 1) := by decide +kernel
theorem dX0_leastRest_64 : decode cX0_leastRest 64 = .ok (.ifCond .eq 7, 3) := by decide +kernel
theorem dX0_leastRest_67 : decode cX0_leastRest 67 = .ok (.iconst 1, 1) := by decide +kernel
theorem dX0_leastRest_68 : decode cX0_leastRest 68 = .ok (.goto 4, 3) := by decide +kernel
theorem dX0_leastRest_71 : decode cX0_leastRest 71 = .ok (.iconst 0, 1) := by decide +kernel
theorem dX0_leastRest_72 : decode cX0_leastRest 72 = .ok (.ireturn, 1) := by decide +kernel
theorem dX0_leastFrom_0 : decode cX0_leastFrom 0 = .ok (.aload_n 0, 1) := by decide +kernel
theorem dX0_leastFrom_1 : decode cX0_leastFrom 1 = .ok (.getfield 15, 3) := by decide +kernel
theorem dX0_leastFrom_4 : decode cX0_leastFrom 4 = .ok (.iload_n 1, 1) := by decide +kernel
theorem dX0_leastFrom_5 : decode cX0_leastFrom 5 = .ok (.aaload, 1) := by decide +kernel
theorem dX0_leastFrom_6 : decode cX0_leastFrom 6 = .ok (.astore_n 3, 1) := by decide +kernel
theorem dX0_leastFrom_7 : decode cX0_leastFrom 7 = .ok (.ldc2_w 59, 3) := by decide +kernel
theorem dX0_leastFrom_10 : decode cX0_leastFrom 10 = .ok (.lstore 4, 2) := by decide +kernel
theorem dX0_leastFrom_12 : decode cX0_leastFrom 12 = .ok (.iconst 0, 1) := by decide +kernel
theorem dX0_leastFrom_13 : decode cX0_leastFrom 13 = .ok (.istore 6, 2) := by decide +kernel
theorem dX0_leastFrom_15 : decode cX0_leastFrom 15 = .ok (.iload 6, 2) := by decide +kernel
theorem dX0_leastFrom_17 : decode cX0_leastFrom 17 = .ok (.aload_n 0, 1) := by decide +kernel
theorem dX0_leastFrom_18 : decode cX0_leastFrom 18 = .ok (.getfield 47, 3) := by decide +kernel
theorem dX0_leastFrom_21 : decode cX0_leastFrom 21 = .ok (.if_icmp .ge 67, 3) := by decide +kernel
theorem dX0_leastFrom_24 : decode cX0_leastFrom 24 = .ok (.iload_n 2, 1) := by decide +kernel
theorem dX0_leastFrom_25 : decode cX0_leastFrom 25 = .ok (.iconst 1, 1) := by decide +kernel
theorem dX0_leastFrom_26 : decode cX0_leastFrom 26 = .ok (.iload 6, 2) := by decide +kernel
theorem dX0_leastFrom_28 : decode cX0_leastFrom 28 = .ok (.ishl, 1) := by decide +kernel
theorem dX0_leastFrom_29 : decode cX0_leastFrom 29 = .ok (.ior, 1) := by decide +kernel
theorem dX0_leastFrom_30 : decode cX0_leastFrom 30 = .ok (.istore 7, 2) := by decide +kernel
theorem dX0_leastFrom_32 : decode cX0_leastFrom 32 = .ok (.iload 7, 2) := by decide +kernel
theorem dX0_leastFrom_34 : decode cX0_leastFrom 34 = .ok (.iload_n 2, 1) := by decide +kernel
theorem dX0_leastFrom_35 : decode cX0_leastFrom 35 = .ok (.if_icmp .eq 47, 3) := by decide +kernel
theorem dX0_leastFrom_38 : decode cX0_leastFrom 38 = .ok (.aload_n 3, 1) := by decide +kernel
theorem dX0_leastFrom_39 : decode cX0_leastFrom 39 = .ok (.iload 6, 2) := by decide +kernel
theorem dX0_leastFrom_41 : decode cX0_leastFrom 41 = .ok (.laload, 1) := by decide +kernel
theorem dX0_leastFrom_42 : decode cX0_leastFrom 42 = .ok (.ldc2_w 59, 3) := by decide +kernel
theorem dX0_leastFrom_45 : decode cX0_leastFrom 45 = .ok (.lcmp, 1) := by decide +kernel
theorem dX0_leastFrom_46 : decode cX0_leastFrom 46 = .ok (.ifCond .eq 36, 3) := by decide +kernel
theorem dX0_leastFrom_49 : decode cX0_leastFrom 49 = .ok (.aload_n 0, 1) := by decide +kernel
theorem dX0_leastFrom_50 : decode cX0_leastFrom 50 = .ok (.getfield 20, 3) := by decide +kernel
theorem dX0_leastFrom_53 : decode cX0_leastFrom 53 = .ok (.iload 7, 2) := by decide +kernel
theorem dX0_leastFrom_55 : decode cX0_leastFrom 55 = .ok (.laload, 1) := by decide +kernel
theorem dX0_leastFrom_56 : decode cX0_leastFrom 56 = .ok (.ldc2_w 59, 3) := by decide +kernel
theorem dX0_leastFrom_59 : decode cX0_leastFrom 59 = .ok (.lcmp, 1) := by decide +kernel
theorem dX0_leastFrom_60 : decode cX0_leastFrom 60 = .ok (.ifCond .eq 22, 3) := by decide +kernel
theorem dX0_leastFrom_63 : decode cX0_leastFrom 63 = .ok (.lload 4, 2) := by decide +kernel
theorem dX0_leastFrom_65 : decode cX0_leastFrom 65 = .ok (.aload_n 3, 1) := by decide +kernel
theorem dX0_leastFrom_66 : decode cX0_leastFrom 66 = .ok (.iload 6, 2) := by decide +kernel
theorem dX0_leastFrom_68 : decode cX0_leastFrom 68 = .ok (.laload, 1) := by decide +kernel
theorem dX0_leastFrom_69 : decode cX0_leastFrom 69 = .ok (.aload_n 0, 1) := by decide +kernel
theorem dX0_leastFrom_70 : decode cX0_leastFrom 70 = .ok (.getfield 20, 3) := by decide +kernel
theorem dX0_leastFrom_73 : decode cX0_leastFrom 73 = .ok (.iload 7, 2) := by decide +kernel
theorem dX0_leastFrom_75 : decode cX0_leastFrom 75 = .ok (.laload, 1) := by decide +kernel
theorem dX0_leastFrom_76 : decode cX0_leastFrom 76 = .ok (.ladd, 1) := by decide +kernel
theorem dX0_leastFrom_77 : decode cX0_leastFrom 77 = .ok (.invokestatic 91, 3) := by decide +kernel
theorem dX0_leastFrom_80 : decode cX0_leastFrom 80 = .ok (.lstore 4, 2) := by decide +kernel
theorem dX0_leastFrom_82 : decode cX0_leastFrom 82 = .ok (.iinc 6 1, 3) := by decide +kernel
theorem dX0_leastFrom_85 : decode cX0_leastFrom 85 = .ok (.goto (-70), 3) := by decide +kernel
theorem dX0_leastFrom_88 : decode cX0_leastFrom 88 = .ok (.lload 4, 2) := by decide +kernel
theorem dX0_leastFrom_90 : decode cX0_leastFrom 90 = .ok (.lreturn, 1) := by decide +kernel
theorem dX0_pickFirst_0 : decode cX0_pickFirst 0 = .ok (.iconst 0, 1) := by decide +kernel
theorem dX0_pickFirst_1 : decode cX0_pickFirst 1 = .ok (.istore_n 1, 1) := by decide +kernel
theorem dX0_pickFirst_2 : decode cX0_pickFirst 2 = .ok (.iconst 0, 1) := by decide +kernel
theorem dX0_pickFirst_3 : decode cX0_pickFirst 3 = .ok (.istore_n 2, 1) := by decide +kernel
theorem dX0_pickFirst_4 : decode cX0_pickFirst 4 = .ok (.iload_n 2, 1) := by decide +kernel
theorem dX0_pickFirst_5 : decode cX0_pickFirst 5 = .ok (.aload_n 0, 1) := by decide +kernel
theorem dX0_pickFirst_6 : decode cX0_pickFirst 6 = .ok (.getfield 40, 3) := by decide +kernel
theorem dX0_pickFirst_9 : decode cX0_pickFirst 9 = .ok (.if_icmp .ge 32, 3) := by decide +kernel
theorem dX0_pickFirst_12 : decode cX0_pickFirst 12 = .ok (.aload_n 0, 1) := by decide +kernel
theorem dX0_pickFirst_13 : decode cX0_pickFirst 13 = .ok (.getfield 24, 3) := by decide +kernel
theorem dX0_pickFirst_16 : decode cX0_pickFirst 16 = .ok (.iload_n 2, 1) := by decide +kernel
theorem dX0_pickFirst_17 : decode cX0_pickFirst 17 = .ok (.aload_n 0, 1) := by decide +kernel
theorem dX0_pickFirst_18 : decode cX0_pickFirst 18 = .ok (.iload_n 2, 1) := by decide +kernel
theorem dX0_pickFirst_19 : decode cX0_pickFirst 19 = .ok (.iload_n 1, 1) := by decide +kernel
theorem dX0_pickFirst_20 : decode cX0_pickFirst 20 = .ok (.invokevirtual 97, 3) := by decide +kernel
theorem dX0_pickFirst_23 : decode cX0_pickFirst 23 = .ok (.iastore, 1) := by decide +kernel
theorem dX0_pickFirst_24 : decode cX0_pickFirst 24 = .ok (.iload_n 1, 1) := by decide +kernel
theorem dX0_pickFirst_25 : decode cX0_pickFirst 25 = .ok (.iconst 1, 1) := by decide +kernel
theorem dX0_pickFirst_26 : decode cX0_pickFirst 26 = .ok (.aload_n 0, 1) := by decide +kernel
theorem dX0_pickFirst_27 : decode cX0_pickFirst 27 = .ok (.getfield 24, 3) := by decide +kernel
theorem dX0_pickFirst_30 : decode cX0_pickFirst 30 = .ok (.iload_n 2, 1) := by decide +kernel
theorem dX0_pickFirst_31 : decode cX0_pickFirst 31 = .ok (.iaload, 1) := by decide +kernel
theorem dX0_pickFirst_32 : decode cX0_pickFirst 32 = .ok (.ishl, 1) := by decide +kernel
theorem dX0_pickFirst_33 : decode cX0_pickFirst 33 = .ok (.ior, 1) := by decide +kernel
theorem dX0_pickFirst_34 : decode cX0_pickFirst 34 = .ok (.istore_n 1, 1) := by decide +kernel
theorem dX0_pickFirst_35 : decode cX0_pickFirst 35 = .ok (.iinc 2 1, 3) := by decide +kernel
theorem dX0_pickFirst_38 : decode cX0_pickFirst 38 = .ok (.goto (-34), 3) := by decide +kernel
theorem dX0_pickFirst_41 : decode cX0_pickFirst 41 = .ok (.return_, 1) := by decide +kernel
theorem dX0_firstOfLeast_0 : decode cX0_firstOfLeast 0 = .ok (.iconst 0, 1) := by decide +kernel
theorem dX0_firstOfLeast_1 : decode cX0_firstOfLeast 1 = .ok (.istore_n 3, 1) := by decide +kernel
theorem dX0_firstOfLeast_2 : decode cX0_firstOfLeast 2 = .ok (.iload_n 3, 1) := by decide +kernel
theorem dX0_firstOfLeast_3 : decode cX0_firstOfLeast 3 = .ok (.aload_n 0, 1) := by decide +kernel
theorem dX0_firstOfLeast_4 : decode cX0_firstOfLeast 4 = .ok (.getfield 47, 3) := by decide +kernel
theorem dX0_firstOfLeast_7 : decode cX0_firstOfLeast 7 = .ok (.if_icmp .ge 73, 3) := by decide +kernel
theorem dX0_firstOfLeast_10 : decode cX0_firstOfLeast 10 = .ok (.iload_n 2, 1) := by decide +kernel
theorem dX0_firstOfLeast_11 : decode cX0_firstOfLeast 11 = .ok (.iconst 1, 1) := by decide +kernel
theorem dX0_firstOfLeast_12 : decode cX0_firstOfLeast 12 = .ok (.iload_n 3, 1) := by decide +kernel
theorem dX0_firstOfLeast_13 : decode cX0_firstOfLeast 13 = .ok (.ishl, 1) := by decide +kernel
theorem dX0_firstOfLeast_14 : decode cX0_firstOfLeast 14 = .ok (.ior, 1) := by decide +kernel
theorem dX0_firstOfLeast_15 : decode cX0_firstOfLeast 15 = .ok (.istore 4, 2) := by decide +kernel
theorem dX0_firstOfLeast_17 : decode cX0_firstOfLeast 17 = .ok (.iload 4, 2) := by decide +kernel
theorem dX0_firstOfLeast_19 : decode cX0_firstOfLeast 19 = .ok (.iload_n 2, 1) := by decide +kernel
theorem dX0_firstOfLeast_20 : decode cX0_firstOfLeast 20 = .ok (.if_icmp .eq 54, 3) := by decide +kernel
theorem dX0_firstOfLeast_23 : decode cX0_firstOfLeast 23 = .ok (.aload_n 0, 1) := by decide +kernel
theorem dX0_firstOfLeast_24 : decode cX0_firstOfLeast 24 = .ok (.iload_n 1, 1) := by decide +kernel
theorem dX0_firstOfLeast_25 : decode cX0_firstOfLeast 25 = .ok (.iload_n 3, 1) := by decide +kernel
theorem dX0_firstOfLeast_26 : decode cX0_firstOfLeast 26 = .ok (.invokevirtual 100, 3) := by decide +kernel
theorem dX0_firstOfLeast_29 : decode cX0_firstOfLeast 29 = .ok (.ifCond .eq 45, 3) := by decide +kernel
theorem dX0_firstOfLeast_32 : decode cX0_firstOfLeast 32 = .ok (.aload_n 0, 1) := by decide +kernel
theorem dX0_firstOfLeast_33 : decode cX0_firstOfLeast 33 = .ok (.getfield 20, 3) := by decide +kernel
theorem dX0_firstOfLeast_36 : decode cX0_firstOfLeast 36 = .ok (.iload 4, 2) := by decide +kernel
theorem dX0_firstOfLeast_38 : decode cX0_firstOfLeast 38 = .ok (.laload, 1) := by decide +kernel
theorem dX0_firstOfLeast_39 : decode cX0_firstOfLeast 39 = .ok (.ldc2_w 59, 3) := by decide +kernel
theorem dX0_firstOfLeast_42 : decode cX0_firstOfLeast 42 = .ok (.lcmp, 1) := by decide +kernel
theorem dX0_firstOfLeast_43 : decode cX0_firstOfLeast 43 = .ok (.ifCond .eq 31, 3) := by decide +kernel
theorem dX0_firstOfLeast_46 : decode cX0_firstOfLeast 46 = .ok (.aload_n 0, 1) := by decide +kernel
theorem dX0_firstOfLeast_47 : decode cX0_firstOfLeast 47 = .ok (.getfield 15, 3) := by decide +kernel
theorem dX0_firstOfLeast_50 : decode cX0_firstOfLeast 50 = .ok (.iload_n 1, 1) := by decide +kernel
theorem dX0_firstOfLeast_51 : decode cX0_firstOfLeast 51 = .ok (.aaload, 1) := by decide +kernel
theorem dX0_firstOfLeast_52 : decode cX0_firstOfLeast 52 = .ok (.iload_n 3, 1) := by decide +kernel
theorem dX0_firstOfLeast_53 : decode cX0_firstOfLeast 53 = .ok (.laload, 1) := by decide +kernel
theorem dX0_firstOfLeast_54 : decode cX0_firstOfLeast 54 = .ok (.aload_n 0, 1) := by decide +kernel
theorem dX0_firstOfLeast_55 : decode cX0_firstOfLeast 55 = .ok (.getfield 20, 3) := by decide +kernel
theorem dX0_firstOfLeast_58 : decode cX0_firstOfLeast 58 = .ok (.iload 4, 2) := by decide +kernel
theorem dX0_firstOfLeast_60 : decode cX0_firstOfLeast 60 = .ok (.laload, 1) := by decide +kernel
theorem dX0_firstOfLeast_61 : decode cX0_firstOfLeast 61 = .ok (.ladd, 1) := by decide +kernel
theorem dX0_firstOfLeast_62 : decode cX0_firstOfLeast 62 = .ok (.aload_n 0, 1) := by decide +kernel
theorem dX0_firstOfLeast_63 : decode cX0_firstOfLeast 63 = .ok (.getfield 20, 3) := by decide +kernel
theorem dX0_firstOfLeast_66 : decode cX0_firstOfLeast 66 = .ok (.iload_n 2, 1) := by decide +kernel
theorem dX0_firstOfLeast_67 : decode cX0_firstOfLeast 67 = .ok (.laload, 1) := by decide +kernel
theorem dX0_firstOfLeast_68 : decode cX0_firstOfLeast 68 = .ok (.lcmp, 1) := by decide +kernel
theorem dX0_firstOfLeast_69 : decode cX0_firstOfLeast 69 = .ok (.ifCond .ne 5, 3) := by decide +kernel
theorem dX0_firstOfLeast_72 : decode cX0_firstOfLeast 72 = .ok (.iload_n 3, 1) := by decide +kernel
theorem dX0_firstOfLeast_73 : decode cX0_firstOfLeast 73 = .ok (.ireturn, 1) := by decide +kernel
theorem dX0_firstOfLeast_74 : decode cX0_firstOfLeast 74 = .ok (.iinc 3 1, 3) := by decide +kernel
theorem dX0_firstOfLeast_77 : decode cX0_firstOfLeast 77 = .ok (.goto (-75), 3) := by decide +kernel
theorem dX0_firstOfLeast_80 : decode cX0_firstOfLeast 80 = .ok (.iconst 0, 1) := by decide +kernel
theorem dX0_firstOfLeast_81 : decode cX0_firstOfLeast 81 = .ok (.ireturn, 1) := by decide +kernel
theorem dX1_init_0 : decode cX1_init 0 = .ok (.aload_n 0, 1) := by decide +kernel
theorem dX1_init_1 : decode cX1_init 1 = .ok (.invokespecial 3, 3) := by decide +kernel
theorem dX1_init_4 : decode cX1_init 4 = .ok (.aload_n 0, 1) := by decide +kernel
theorem dX1_init_5 : decode cX1_init 5 = .ok (.sipush 200, 3) := by decide +kernel
theorem dX1_init_8 : decode cX1_init 8 = .ok (.newarray .int, 2) := by decide +kernel
theorem dX1_init_10 : decode cX1_init 10 = .ok (.putfield 11, 3) := by decide +kernel
theorem dX1_init_13 : decode cX1_init 13 = .ok (.aload_n 0, 1) := by decide +kernel
theorem dX1_init_14 : decode cX1_init 14 = .ok (.sipush 200, 3) := by decide +kernel
theorem dX1_init_17 : decode cX1_init 17 = .ok (.newarray .int, 2) := by decide +kernel
theorem dX1_init_19 : decode cX1_init 19 = .ok (.putfield 15, 3) := by decide +kernel
theorem dX1_init_22 : decode cX1_init 22 = .ok (.aload_n 0, 1) := by decide +kernel
theorem dX1_init_23 : decode cX1_init 23 = .ok (.sipush 200, 3) := by decide +kernel
theorem dX1_init_26 : decode cX1_init 26 = .ok (.newarray .int, 2) := by decide +kernel
theorem dX1_init_28 : decode cX1_init 28 = .ok (.putfield 18, 3) := by decide +kernel
theorem dX1_init_31 : decode cX1_init 31 = .ok (.aload_n 0, 1) := by decide +kernel
theorem dX1_init_32 : decode cX1_init 32 = .ok (.sipush 200, 3) := by decide +kernel
theorem dX1_init_35 : decode cX1_init 35 = .ok (.newarray .int, 2) := by decide +kernel
theorem dX1_init_37 : decode cX1_init 37 = .ok (.putfield 21, 3) := by decide +kernel
theorem dX1_init_40 : decode cX1_init 40 = .ok (.aload_n 0, 1) := by decide +kernel
theorem dX1_init_41 : decode cX1_init 41 = .ok (.sipush 200, 3) := by decide +kernel
theorem dX1_init_44 : decode cX1_init 44 = .ok (.newarray .int, 2) := by decide +kernel
theorem dX1_init_46 : decode cX1_init 46 = .ok (.putfield 24, 3) := by decide +kernel
theorem dX1_init_49 : decode cX1_init 49 = .ok (.aload_n 0, 1) := by decide +kernel
theorem dX1_init_50 : decode cX1_init 50 = .ok (.sipush 200, 3) := by decide +kernel
theorem dX1_init_53 : decode cX1_init 53 = .ok (.newarray .int, 2) := by decide +kernel
theorem dX1_init_55 : decode cX1_init 55 = .ok (.putfield 27, 3) := by decide +kernel
theorem dX1_init_58 : decode cX1_init 58 = .ok (.aload_n 0, 1) := by decide +kernel
theorem dX1_init_59 : decode cX1_init 59 = .ok (.sipush 200, 3) := by decide +kernel
theorem dX1_init_62 : decode cX1_init 62 = .ok (.newarray .int, 2) := by decide +kernel
theorem dX1_init_64 : decode cX1_init 64 = .ok (.putfield 30, 3) := by decide +kernel
theorem dX1_init_67 : decode cX1_init 67 = .ok (.return_, 1) := by decide +kernel
theorem dX1_tell_0 : decode cX1_tell 0 = .ok (.aload_n 0, 1) := by decide +kernel
theorem dX1_tell_1 : decode cX1_tell 1 = .ok (.getfield 33, 3) := by decide +kernel
theorem dX1_tell_4 : decode cX1_tell 4 = .ok (.sipush 200, 3) := by decide +kernel
theorem dX1_tell_7 : decode cX1_tell 7 = .ok (.if_icmp .lt 5, 3) := by decide +kernel
theorem dX1_tell_10 : decode cX1_tell 10 = .ok (.iconst (-1), 1) := by decide +kernel
theorem dX1_tell_11 : decode cX1_tell 11 = .ok (.ireturn, 1) := by decide +kernel
theorem dX1_tell_12 : decode cX1_tell 12 = .ok (.aload_n 0, 1) := by decide +kernel
theorem dX1_tell_13 : decode cX1_tell 13 = .ok (.getfield 11, 3) := by decide +kernel
theorem dX1_tell_16 : decode cX1_tell 16 = .ok (.aload_n 0, 1) := by decide +kernel
theorem dX1_tell_17 : decode cX1_tell 17 = .ok (.getfield 33, 3) := by decide +kernel
theorem dX1_tell_20 : decode cX1_tell 20 = .ok (.iload_n 1, 1) := by decide +kernel
theorem dX1_tell_21 : decode cX1_tell 21 = .ok (.iastore, 1) := by decide +kernel
theorem dX1_tell_22 : decode cX1_tell 22 = .ok (.aload_n 0, 1) := by decide +kernel
theorem dX1_tell_23 : decode cX1_tell 23 = .ok (.getfield 15, 3) := by decide +kernel
theorem dX1_tell_26 : decode cX1_tell 26 = .ok (.aload_n 0, 1) := by decide +kernel
theorem dX1_tell_27 : decode cX1_tell 27 = .ok (.getfield 33, 3) := by decide +kernel
theorem dX1_tell_30 : decode cX1_tell 30 = .ok (.iload_n 2, 1) := by decide +kernel
theorem dX1_tell_31 : decode cX1_tell 31 = .ok (.iastore, 1) := by decide +kernel
theorem dX1_tell_32 : decode cX1_tell 32 = .ok (.aload_n 0, 1) := by decide +kernel
theorem dX1_tell_33 : decode cX1_tell 33 = .ok (.getfield 18, 3) := by decide +kernel
theorem dX1_tell_36 : decode cX1_tell 36 = .ok (.aload_n 0, 1) := by decide +kernel
theorem dX1_tell_37 : decode cX1_tell 37 = .ok (.getfield 33, 3) := by decide +kernel
theorem dX1_tell_40 : decode cX1_tell 40 = .ok (.iload_n 3, 1) := by decide +kernel
theorem dX1_tell_41 : decode cX1_tell 41 = .ok (.iastore, 1) := by decide +kernel
theorem dX1_tell_42 : decode cX1_tell 42 = .ok (.aload_n 0, 1) := by decide +kernel
theorem dX1_tell_43 : decode cX1_tell 43 = .ok (.getfield 21, 3) := by decide +kernel
theorem dX1_tell_46 : decode cX1_tell 46 = .ok (.aload_n 0, 1) := by decide +kernel
theorem dX1_tell_47 : decode cX1_tell 47 = .ok (.getfield 33, 3) := by decide +kernel
theorem dX1_tell_50 : decode cX1_tell 50 = .ok (.iload 4, 2) := by decide +kernel
theorem dX1_tell_52 : decode cX1_tell 52 = .ok (.iastore, 1) := by decide +kernel
theorem dX1_tell_53 : decode cX1_tell 53 = .ok (.aload_n 0, 1) := by decide +kernel
theorem dX1_tell_54 : decode cX1_tell 54 = .ok (.getfield 24, 3) := by decide +kernel
theorem dX1_tell_57 : decode cX1_tell 57 = .ok (.aload_n 0, 1) := by decide +kernel
theorem dX1_tell_58 : decode cX1_tell 58 = .ok (.getfield 33, 3) := by decide +kernel
theorem dX1_tell_61 : decode cX1_tell 61 = .ok (.iload 5, 2) := by decide +kernel
theorem dX1_tell_63 : decode cX1_tell 63 = .ok (.iastore, 1) := by decide +kernel
theorem dX1_tell_64 : decode cX1_tell 64 = .ok (.aload_n 0, 1) := by decide +kernel
theorem dX1_tell_65 : decode cX1_tell 65 = .ok (.getfield 27, 3) := by decide +kernel
theorem dX1_tell_68 : decode cX1_tell 68 = .ok (.aload_n 0, 1) := by decide +kernel
theorem dX1_tell_69 : decode cX1_tell 69 = .ok (.getfield 33, 3) := by decide +kernel
theorem dX1_tell_72 : decode cX1_tell 72 = .ok (.aload_n 0, 1) := by decide +kernel
theorem dX1_tell_73 : decode cX1_tell 73 = .ok (.getfield 37, 3) := by decide +kernel
theorem dX1_tell_76 : decode cX1_tell 76 = .ok (.iastore, 1) := by decide +kernel
theorem dX1_tell_77 : decode cX1_tell 77 = .ok (.aload_n 0, 1) := by decide +kernel
theorem dX1_tell_78 : decode cX1_tell 78 = .ok (.getfield 30, 3) := by decide +kernel
theorem dX1_tell_81 : decode cX1_tell 81 = .ok (.aload_n 0, 1) := by decide +kernel
theorem dX1_tell_82 : decode cX1_tell 82 = .ok (.getfield 33, 3) := by decide +kernel
theorem dX1_tell_85 : decode cX1_tell 85 = .ok (.iconst (-1), 1) := by decide +kernel
theorem dX1_tell_86 : decode cX1_tell 86 = .ok (.iastore, 1) := by decide +kernel
theorem dX1_tell_87 : decode cX1_tell 87 = .ok (.aload_n 0, 1) := by decide +kernel
theorem dX1_tell_88 : decode cX1_tell 88 = .ok (.dup, 1) := by decide +kernel
theorem dX1_tell_89 : decode cX1_tell 89 = .ok (.getfield 33, 3) := by decide +kernel
theorem dX1_tell_92 : decode cX1_tell 92 = .ok (.iconst 1, 1) := by decide +kernel
theorem dX1_tell_93 : decode cX1_tell 93 = .ok (.iadd, 1) := by decide +kernel
theorem dX1_tell_94 : decode cX1_tell 94 = .ok (.putfield 33, 3) := by decide +kernel
theorem dX1_tell_97 : decode cX1_tell 97 = .ok (.aload_n 0, 1) := by decide +kernel
theorem dX1_tell_98 : decode cX1_tell 98 = .ok (.getfield 33, 3) := by decide +kernel
theorem dX1_tell_101 : decode cX1_tell 101 = .ok (.iconst 1, 1) := by decide +kernel
theorem dX1_tell_102 : decode cX1_tell 102 = .ok (.isub, 1) := by decide +kernel
theorem dX1_tell_103 : decode cX1_tell 103 = .ok (.ireturn, 1) := by decide +kernel
theorem dX1_takeBack_0 : decode cX1_takeBack 0 = .ok (.iload_n 1, 1) := by decide +kernel
theorem dX1_takeBack_1 : decode cX1_takeBack 1 = .ok (.ifCond .lt 21, 3) := by decide +kernel
theorem dX1_takeBack_4 : decode cX1_takeBack 4 = .ok (.iload_n 1, 1) := by decide +kernel
theorem dX1_takeBack_5 : decode cX1_takeBack 5 = .ok (.aload_n 0, 1) := by decide +kernel
theorem dX1_takeBack_6 : decode cX1_takeBack 6 = .ok (.getfield 33, 3) := by decide +kernel
theorem dX1_takeBack_9 : decode cX1_takeBack 9 = .ok (.if_icmp .ge 13, 3) := by decide +kernel
theorem dX1_takeBack_12 : decode cX1_takeBack 12 = .ok (.aload_n 0, 1) := by decide +kernel
theorem dX1_takeBack_13 : decode cX1_takeBack 13 = .ok (.getfield 30, 3) := by decide +kernel
theorem dX1_takeBack_16 : decode cX1_takeBack 16 = .ok (.iload_n 1, 1) := by decide +kernel
theorem dX1_takeBack_17 : decode cX1_takeBack 17 = .ok (.iaload, 1) := by decide +kernel
theorem dX1_takeBack_18 : decode cX1_takeBack 18 = .ok (.iconst (-1), 1) := by decide +kernel
theorem dX1_takeBack_19 : decode cX1_takeBack 19 = .ok (.if_icmp .eq 5, 3) := by decide +kernel
theorem dX1_takeBack_22 : decode cX1_takeBack 22 = .ok (.iconst 0, 1) := by decide +kernel
theorem dX1_takeBack_23 : decode cX1_takeBack 23 = .ok (.ireturn, 1) := by decide +kernel
theorem dX1_takeBack_24 : decode cX1_takeBack 24 = .ok (.aload_n 0, 1) := by decide +kernel
theorem dX1_takeBack_25 : decode cX1_takeBack 25 = .ok (.getfield 30, 3) := by decide +kernel
theorem dX1_takeBack_28 : decode cX1_takeBack 28 = .ok (.iload_n 1, 1) := by decide +kernel
theorem dX1_takeBack_29 : decode cX1_takeBack 29 = .ok (.aload_n 0, 1) := by decide +kernel
theorem dX1_takeBack_30 : decode cX1_takeBack 30 = .ok (.getfield 37, 3) := by decide +kernel
theorem dX1_takeBack_33 : decode cX1_takeBack 33 = .ok (.iastore, 1) := by decide +kernel
theorem dX1_takeBack_34 : decode cX1_takeBack 34 = .ok (.iconst 1, 1) := by decide +kernel
theorem dX1_takeBack_35 : decode cX1_takeBack 35 = .ok (.ireturn, 1) := by decide +kernel
theorem dX1_counts_0 : decode cX1_counts 0 = .ok (.aload_n 0, 1) := by decide +kernel
theorem dX1_counts_1 : decode cX1_counts 1 = .ok (.getfield 27, 3) := by decide +kernel
theorem dX1_counts_4 : decode cX1_counts 4 = .ok (.iload_n 1, 1) := by decide +kernel
theorem dX1_counts_5 : decode cX1_counts 5 = .ok (.iaload, 1) := by decide +kernel
theorem dX1_counts_6 : decode cX1_counts 6 = .ok (.iload_n 2, 1) := by decide +kernel
theorem dX1_counts_7 : decode cX1_counts 7 = .ok (.if_icmp .gt 27, 3) := by decide +kernel
theorem dX1_counts_10 : decode cX1_counts 10 = .ok (.aload_n 0, 1) := by decide +kernel
theorem dX1_counts_11 : decode cX1_counts 11 = .ok (.getfield 30, 3) := by decide +kernel
theorem dX1_counts_14 : decode cX1_counts 14 = .ok (.iload_n 1, 1) := by decide +kernel
theorem dX1_counts_15 : decode cX1_counts 15 = .ok (.iaload, 1) := by decide +kernel
theorem dX1_counts_16 : decode cX1_counts 16 = .ok (.iconst (-1), 1) := by decide +kernel
theorem dX1_counts_17 : decode cX1_counts 17 = .ok (.if_icmp .eq 13, 3) := by decide +kernel
theorem dX1_counts_20 : decode cX1_counts 20 = .ok (.aload_n 0, 1) := by decide +kernel
theorem dX1_counts_21 : decode cX1_counts 21 = .ok (.getfield 30, 3) := by decide +kernel
theorem dX1_counts_24 : decode cX1_counts 24 = .ok (.iload_n 1, 1) := by decide +kernel
theorem dX1_counts_25 : decode cX1_counts 25 = .ok (.iaload, 1) := by decide +kernel
theorem dX1_counts_26 : decode cX1_counts 26 = .ok (.iload_n 2, 1) := by decide +kernel
theorem dX1_counts_27 : decode cX1_counts 27 = .ok (.if_icmp .le 7, 3) := by decide +kernel
theorem dX1_counts_30 : decode cX1_counts 30 = .ok (.iconst 1, 1) := by decide +kernel
theorem dX1_counts_31 : decode cX1_counts 31 = .ok (.goto 4, 3) := by decide +kernel
theorem dX1_counts_34 : decode cX1_counts 34 = .ok (.iconst 0, 1) := by decide +kernel
theorem dX1_counts_35 : decode cX1_counts 35 = .ok (.ireturn, 1) := by decide +kernel
theorem dX2_init_0 : decode cX2_init 0 = .ok (.aload_n 0, 1) := by decide +kernel
theorem dX2_init_1 : decode cX2_init 1 = .ok (.invokespecial 5, 3) := by decide +kernel
theorem dX2_init_4 : decode cX2_init 4 = .ok (.aload_n 0, 1) := by decide +kernel
theorem dX2_init_5 : decode cX2_init 5 = .ok (.bipush 48, 2) := by decide +kernel
theorem dX2_init_7 : decode cX2_init 7 = .ok (.newarray .int, 2) := by decide +kernel
theorem dX2_init_9 : decode cX2_init 9 = .ok (.putfield 11, 3) := by decide +kernel
theorem dX2_init_12 : decode cX2_init 12 = .ok (.aload_n 0, 1) := by decide +kernel
theorem dX2_init_13 : decode cX2_init 13 = .ok (.aload_n 1, 1) := by decide +kernel
theorem dX2_init_14 : decode cX2_init 14 = .ok (.putfield 15, 3) := by decide +kernel
theorem dX2_init_17 : decode cX2_init 17 = .ok (.return_, 1) := by decide +kernel
theorem dX2_readInto_0 : decode cX2_readInto 0 = .ok (.aload_n 0, 1) := by decide +kernel
theorem dX2_readInto_1 : decode cX2_readInto 1 = .ok (.aload_n 1, 1) := by decide +kernel
theorem dX2_readInto_2 : decode cX2_readInto 2 = .ok (.putfield 19, 3) := by decide +kernel
theorem dX2_readInto_5 : decode cX2_readInto 5 = .ok (.aload_n 0, 1) := by decide +kernel
theorem dX2_readInto_6 : decode cX2_readInto 6 = .ok (.getfield 19, 3) := by decide +kernel
theorem dX2_readInto_9 : decode cX2_readInto 9 = .ok (.invokevirtual 23, 3) := by decide +kernel
theorem dX2_readInto_12 : decode cX2_readInto 12 = .ok (.aload_n 0, 1) := by decide +kernel
theorem dX2_readInto_13 : decode cX2_readInto 13 = .ok (.iconst 0, 1) := by decide +kernel
theorem dX2_readInto_14 : decode cX2_readInto 14 = .ok (.putfield 28, 3) := by decide +kernel
theorem dX2_readInto_17 : decode cX2_readInto 17 = .ok (.aload_n 0, 1) := by decide +kernel
theorem dX2_readInto_18 : decode cX2_readInto 18 = .ok (.iconst 0, 1) := by decide +kernel
theorem dX2_readInto_19 : decode cX2_readInto 19 = .ok (.putfield 32, 3) := by decide +kernel
theorem dX2_readInto_22 : decode cX2_readInto 22 = .ok (.aload_n 0, 1) := by decide +kernel
theorem dX2_readInto_23 : decode cX2_readInto 23 = .ok (.iconst (-1), 1) := by decide +kernel
theorem dX2_readInto_24 : decode cX2_readInto 24 = .ok (.putfield 35, 3) := by decide +kernel
theorem dX2_readInto_27 : decode cX2_readInto 27 = .ok (.aload_n 0, 1) := by decide +kernel
theorem dX2_readInto_28 : decode cX2_readInto 28 = .ok (.getfield 15, 3) := by decide +kernel
theorem dX2_readInto_31 : decode cX2_readInto 31 = .ok (.invokevirtual 38, 3) := by decide +kernel
theorem dX2_readInto_34 : decode cX2_readInto 34 = .ok (.iconst 0, 1) := by decide +kernel
theorem dX2_readInto_35 : decode cX2_readInto 35 = .ok (.istore_n 2, 1) := by decide +kernel
theorem dX2_readInto_36 : decode cX2_readInto 36 = .ok (.iload_n 2, 1) := by decide +kernel
theorem dX2_readInto_37 : decode cX2_readInto 37 = .ok (.iconst 3, 1) := by decide +kernel
theorem dX2_readInto_38 : decode cX2_readInto 38 = .ok (.if_icmp .gt 28, 3) := by decide +kernel
theorem dX2_readInto_41 : decode cX2_readInto 41 = .ok (.aload_n 0, 1) := by decide +kernel
theorem dX2_readInto_42 : decode cX2_readInto 42 = .ok (.getfield 15, 3) := by decide +kernel
theorem dX2_readInto_45 : decode cX2_readInto 45 = .ok (.getfield 43, 3) := by decide +kernel
theorem dX2_readInto_48 : decode cX2_readInto 48 = .ok (.ifCond .eq 18, 3) := by decide +kernel
theorem dX2_readInto_51 : decode cX2_readInto 51 = .ok (.aload_n 0, 1) := by decide +kernel
theorem dX2_readInto_52 : decode cX2_readInto 52 = .ok (.invokevirtual 46, 3) := by decide +kernel
theorem dX2_readInto_55 : decode cX2_readInto 55 = .ok (.ifCond .ne 5, 3) := by decide +kernel
theorem dX2_readInto_58 : decode cX2_readInto 58 = .ok (.iconst 0, 1) := by decide +kernel
theorem dX2_readInto_59 : decode cX2_readInto 59 = .ok (.ireturn, 1) := by decide +kernel
theorem dX2_readInto_60 : decode cX2_readInto 60 = .ok (.iinc 2 1, 3) := by decide +kernel
theorem dX2_readInto_63 : decode cX2_readInto 63 = .ok (.goto (-27), 3) := by decide +kernel
theorem dX2_readInto_66 : decode cX2_readInto 66 = .ok (.iconst 1, 1) := by decide +kernel
theorem dX2_readInto_67 : decode cX2_readInto 67 = .ok (.ireturn, 1) := by decide +kernel
theorem dX2_takeLine_0 : decode cX2_takeLine 0 = .ok (.aload_n 0, 1) := by decide +kernel
theorem dX2_takeLine_1 : decode cX2_takeLine 1 = .ok (.getfield 15, 3) := by decide +kernel
theorem dX2_takeLine_4 : decode cX2_takeLine 4 = .ok (.getfield 43, 3) := by decide +kernel
theorem dX2_takeLine_7 : decode cX2_takeLine 7 = .ok (.invokestatic 50, 3) := by decide +kernel
theorem dX2_takeLine_10 : decode cX2_takeLine 10 = .ok (.istore_n 1, 1) := by decide +kernel
theorem dX2_takeLine_11 : decode cX2_takeLine 11 = .ok (.iload_n 1, 1) := by decide +kernel
theorem dX2_takeLine_12 : decode cX2_takeLine 12 = .ok (.iconst (-1), 1) := by decide +kernel
theorem dX2_takeLine_13 : decode cX2_takeLine 13 = .ok (.if_icmp .eq 14, 3) := by decide +kernel
theorem dX2_takeLine_16 : decode cX2_takeLine 16 = .ok (.aload_n 0, 1) := by decide +kernel
theorem dX2_takeLine_17 : decode cX2_takeLine 17 = .ok (.getfield 19, 3) := by decide +kernel
theorem dX2_takeLine_20 : decode cX2_takeLine 20 = .ok (.iload_n 1, 1) := by decide +kernel
theorem dX2_takeLine_21 : decode cX2_takeLine 21 = .ok (.invokevirtual 54, 3) := by decide +kernel
theorem dX2_takeLine_24 : decode cX2_takeLine 24 = .ok (.ifCond .eq 8, 3) := by decide +kernel
theorem dX2_takeLine_27 : decode cX2_takeLine 27 = .ok (.aload_n 0, 1) := by decide +kernel
theorem dX2_takeLine_28 : decode cX2_takeLine 28 = .ok (.invokevirtual 58, 3) := by decide +kernel
theorem dX2_takeLine_31 : decode cX2_takeLine 31 = .ok (.ireturn, 1) := by decide +kernel
theorem dX2_takeLine_32 : decode cX2_takeLine 32 = .ok (.aload_n 0, 1) := by decide +kernel
theorem dX2_takeLine_33 : decode cX2_takeLine 33 = .ok (.getfield 15, 3) := by decide +kernel
theorem dX2_takeLine_36 : decode cX2_takeLine 36 = .ok (.invokevirtual 61, 3) := by decide +kernel
theorem dX2_takeLine_39 : decode cX2_takeLine 39 = .ok (.iload_n 1, 1) := by decide +kernel
theorem dX2_takeLine_40 : decode cX2_takeLine 40 = .ok (.iconst 2, 1) := by decide +kernel
theorem dX2_takeLine_41 : decode cX2_takeLine 41 = .ok (.if_icmp .eq 27, 3) := by decide +kernel
theorem dX2_takeLine_44 : decode cX2_takeLine 44 = .ok (.aload_n 0, 1) := by decide +kernel
theorem dX2_takeLine_45 : decode cX2_takeLine 45 = .ok (.getfield 15, 3) := by decide +kernel
theorem dX2_takeLine_48 : decode cX2_takeLine 48 = .ok (.getfield 43, 3) := by decide +kernel
theorem dX2_takeLine_51 : decode cX2_takeLine 51 = .ok (.bipush 13, 2) := by decide +kernel
theorem dX2_takeLine_53 : decode cX2_takeLine 53 = .ok (.if_icmp .eq 8, 3) := by decide +kernel
theorem dX2_takeLine_56 : decode cX2_takeLine 56 = .ok (.aload_n 0, 1) := by decide +kernel
theorem dX2_takeLine_57 : decode cX2_takeLine 57 = .ok (.invokevirtual 58, 3) := by decide +kernel
theorem dX2_takeLine_60 : decode cX2_takeLine 60 = .ok (.ireturn, 1) := by decide +kernel
theorem dX2_takeLine_61 : decode cX2_takeLine 61 = .ok (.aload_n 0, 1) := by decide +kernel
theorem dX2_takeLine_62 : decode cX2_takeLine 62 = .ok (.getfield 15, 3) := by decide +kernel
theorem dX2_takeLine_65 : decode cX2_takeLine 65 = .ok (.invokevirtual 61, 3) := by decide +kernel
theorem dX2_takeLine_68 : decode cX2_takeLine 68 = .ok (.aload_n 0, 1) := by decide +kernel
theorem dX2_takeLine_69 : decode cX2_takeLine 69 = .ok (.getfield 19, 3) := by decide +kernel
theorem dX2_takeLine_72 : decode cX2_takeLine 72 = .ok (.iload_n 1, 1) := by decide +kernel
theorem dX2_takeLine_73 : decode cX2_takeLine 73 = .ok (.invokevirtual 64, 3) := by decide +kernel
theorem dX2_takeLine_76 : decode cX2_takeLine 76 = .ok (.aload_n 0, 1) := by decide +kernel
theorem dX2_takeLine_77 : decode cX2_takeLine 77 = .ok (.invokevirtual 68, 3) := by decide +kernel
theorem dX2_takeLine_80 : decode cX2_takeLine 80 = .ok (.ifCond .ne 8, 3) := by decide +kernel
theorem dX2_takeLine_83 : decode cX2_takeLine 83 = .ok (.aload_n 0, 1) := by decide +kernel
theorem dX2_takeLine_84 : decode cX2_takeLine 84 = .ok (.invokevirtual 58, 3) := by decide +kernel
theorem dX2_takeLine_87 : decode cX2_takeLine 87 = .ok (.ireturn, 1) := by decide +kernel
theorem dX2_takeLine_88 : decode cX2_takeLine 88 = .ok (.aload_n 0, 1) := by decide +kernel
theorem dX2_takeLine_89 : decode cX2_takeLine 89 = .ok (.getfield 19, 3) := by decide +kernel
theorem dX2_takeLine_92 : decode cX2_takeLine 92 = .ok (.iload_n 1, 1) := by decide +kernel
theorem dX2_takeLine_93 : decode cX2_takeLine 93 = .ok (.invokevirtual 71, 3) := by decide +kernel
theorem dX2_takeLine_96 : decode cX2_takeLine 96 = .ok (.aload_n 0, 1) := by decide +kernel
theorem dX2_takeLine_97 : decode cX2_takeLine 97 = .ok (.getfield 15, 3) := by decide +kernel
theorem dX2_takeLine_100 : decode cX2_takeLine 100 = .ok (.invokevirtual 61, 3) := by decide +kernel
theorem dX2_takeLine_103 : decode cX2_takeLine 103 = .ok (.iconst 1, 1) := by decide +kernel
theorem dX2_takeLine_104 : decode cX2_takeLine 104 = .ok (.ireturn, 1) := by decide +kernel
theorem dX2_lineOf_0 : decode cX2_lineOf 0 = .ok (.iload_n 0, 1) := by decide +kernel
theorem dX2_lineOf_1 : decode cX2_lineOf 1 = .ok (.tableswitch 33 10 12 #[27, 31, 29], 27) := by decide +kernel
theorem dX2_lineOf_28 : decode cX2_lineOf 28 = .ok (.iconst 0, 1) := by decide +kernel
theorem dX2_lineOf_29 : decode cX2_lineOf 29 = .ok (.ireturn, 1) := by decide +kernel
theorem dX2_lineOf_30 : decode cX2_lineOf 30 = .ok (.iconst 1, 1) := by decide +kernel
theorem dX2_lineOf_31 : decode cX2_lineOf 31 = .ok (.ireturn, 1) := by decide +kernel
theorem dX2_lineOf_32 : decode cX2_lineOf 32 = .ok (.iconst 2, 1) := by decide +kernel
theorem dX2_lineOf_33 : decode cX2_lineOf 33 = .ok (.ireturn, 1) := by decide +kernel
theorem dX2_lineOf_34 : decode cX2_lineOf 34 = .ok (.iconst (-1), 1) := by decide +kernel
theorem dX2_lineOf_35 : decode cX2_lineOf 35 = .ok (.ireturn, 1) := by decide +kernel
theorem dX2_takeExpression_0 : decode cX2_takeExpression 0 = .ok (.aload_n 0, 1) := by decide +kernel
theorem dX2_takeExpression_1 : decode cX2_takeExpression 1 = .ok (.iconst 0, 1) := by decide +kernel
theorem dX2_takeExpression_2 : decode cX2_takeExpression 2 = .ok (.putfield 74, 3) := by decide +kernel
theorem dX2_takeExpression_5 : decode cX2_takeExpression 5 = .ok (.aload_n 0, 1) := by decide +kernel
theorem dX2_takeExpression_6 : decode cX2_takeExpression 6 = .ok (.iconst 0, 1) := by decide +kernel
theorem dX2_takeExpression_7 : decode cX2_takeExpression 7 = .ok (.putfield 77, 3) := by decide +kernel
theorem dX2_takeExpression_10 : decode cX2_takeExpression 10 = .ok (.iconst 0, 1) := by decide +kernel
theorem dX2_takeExpression_11 : decode cX2_takeExpression 11 = .ok (.istore_n 1, 1) := by decide +kernel
theorem dX2_takeExpression_12 : decode cX2_takeExpression 12 = .ok (.iconst 0, 1) := by decide +kernel
theorem dX2_takeExpression_13 : decode cX2_takeExpression 13 = .ok (.istore_n 2, 1) := by decide +kernel
theorem dX2_takeExpression_14 : decode cX2_takeExpression 14 = .ok (.iload_n 2, 1) := by decide +kernel
theorem dX2_takeExpression_15 : decode cX2_takeExpression 15 = .ok (.sipush 1400, 3) := by decide +kernel
theorem dX2_takeExpression_18 : decode cX2_takeExpression 18 = .ok (.if_icmp .gt 69, 3) := by decide +kernel
theorem dX2_takeExpression_21 : decode cX2_takeExpression 21 = .ok (.iload_n 1, 1) := by decide +kernel
theorem dX2_takeExpression_22 : decode cX2_takeExpression 22 = .ok (.iconst 2, 1) := by decide +kernel
theorem dX2_takeExpression_23 : decode cX2_takeExpression 23 = .ok (.if_icmp .ne 17, 3) := by decide +kernel
theorem dX2_takeExpression_26 : decode cX2_takeExpression 26 = .ok (.aload_n 0, 1) := by decide +kernel
theorem dX2_takeExpression_27 : decode cX2_takeExpression 27 = .ok (.aload_n 0, 1) := by decide +kernel
theorem dX2_takeExpression_28 : decode cX2_takeExpression 28 = .ok (.getfield 15, 3) := by decide +kernel
theorem dX2_takeExpression_31 : decode cX2_takeExpression 31 = .ok (.getfield 43, 3) := by decide +kernel
theorem dX2_takeExpression_34 : decode cX2_takeExpression 34 = .ok (.invokevirtual 82, 3) := by decide +kernel
theorem dX2_takeExpression_37 : decode cX2_takeExpression 37 = .ok (.goto 15, 3) := by decide +kernel
theorem dX2_takeExpression_40 : decode cX2_takeExpression 40 = .ok (.aload_n 0, 1) := by decide +kernel
theorem dX2_takeExpression_41 : decode cX2_takeExpression 41 = .ok (.aload_n 0, 1) := by decide +kernel
theorem dX2_takeExpression_42 : decode cX2_takeExpression 42 = .ok (.getfield 15, 3) := by decide +kernel
theorem dX2_takeExpression_45 : decode cX2_takeExpression 45 = .ok (.getfield 43, 3) := by decide +kernel
theorem dX2_takeExpression_48 : decode cX2_takeExpression 48 = .ok (.iload_n 1, 1) := by decide +kernel
theorem dX2_takeExpression_49 : decode cX2_takeExpression 49 = .ok (.invokevirtual 85, 3) := by decide +kernel
theorem dX2_takeExpression_52 : decode cX2_takeExpression 52 = .ok (.istore_n 1, 1) := by decide +kernel
theorem dX2_takeExpression_53 : decode cX2_takeExpression 53 = .ok (.iload_n 1, 1) := by decide +kernel
theorem dX2_takeExpression_54 : decode cX2_takeExpression 54 = .ok (.iconst 3, 1) := by decide +kernel
theorem dX2_takeExpression_55 : decode cX2_takeExpression 55 = .ok (.if_icmp .eq 8, 3) := by decide +kernel
theorem dX2_takeExpression_58 : decode cX2_takeExpression 58 = .ok (.iload_n 1, 1) := by decide +kernel
theorem dX2_takeExpression_59 : decode cX2_takeExpression 59 = .ok (.iconst 4, 1) := by decide +kernel
theorem dX2_takeExpression_60 : decode cX2_takeExpression 60 = .ok (.if_icmp .ne 14, 3) := by decide +kernel
theorem dX2_takeExpression_63 : decode cX2_takeExpression 63 = .ok (.iload_n 1, 1) := by decide +kernel
theorem dX2_takeExpression_64 : decode cX2_takeExpression 64 = .ok (.iconst 3, 1) := by decide +kernel
theorem dX2_takeExpression_65 : decode cX2_takeExpression 65 = .ok (.if_icmp .ne 7, 3) := by decide +kernel
theorem dX2_takeExpression_68 : decode cX2_takeExpression 68 = .ok (.iconst 1, 1) := by decide +kernel
theorem dX2_takeExpression_69 : decode cX2_takeExpression 69 = .ok (.goto 4, 3) := by decide +kernel
theorem dX2_takeExpression_72 : decode cX2_takeExpression 72 = .ok (.iconst 0, 1) := by decide +kernel
theorem dX2_takeExpression_73 : decode cX2_takeExpression 73 = .ok (.ireturn, 1) := by decide +kernel
theorem dX2_takeExpression_74 : decode cX2_takeExpression 74 = .ok (.aload_n 0, 1) := by decide +kernel
theorem dX2_takeExpression_75 : decode cX2_takeExpression 75 = .ok (.getfield 15, 3) := by decide +kernel
theorem dX2_takeExpression_78 : decode cX2_takeExpression 78 = .ok (.invokevirtual 61, 3) := by decide +kernel
theorem dX2_takeExpression_81 : decode cX2_takeExpression 81 = .ok (.iinc 2 1, 3) := by decide +kernel
theorem dX2_takeExpression_84 : decode cX2_takeExpression 84 = .ok (.goto (-70), 3) := by decide +kernel
theorem dX2_takeExpression_87 : decode cX2_takeExpression 87 = .ok (.iconst 0, 1) := by decide +kernel
theorem dX2_takeExpression_88 : decode cX2_takeExpression 88 = .ok (.ireturn, 1) := by decide +kernel
theorem dX2_beforeUnit_0 : decode cX2_beforeUnit 0 = .ok (.iload_n 1, 1) := by decide +kernel
theorem dX2_beforeUnit_1 : decode cX2_beforeUnit 1 = .ok (.bipush 16, 2) := by decide +kernel
theorem dX2_beforeUnit_3 : decode cX2_beforeUnit 3 = .ok (.if_icmp .ne 21, 3) := by decide +kernel
theorem dX2_beforeUnit_6 : decode cX2_beforeUnit 6 = .ok (.iload_n 2, 1) := by decide +kernel
theorem dX2_beforeUnit_7 : decode cX2_beforeUnit 7 = .ok (.ifCond .ne 15, 3) := by decide +kernel
theorem dX2_beforeUnit_10 : decode cX2_beforeUnit 10 = .ok (.aload_n 0, 1) := by decide +kernel
theorem dX2_beforeUnit_11 : decode cX2_beforeUnit 11 = .ok (.iload_n 1, 1) := by decide +kernel
theorem dX2_beforeUnit_12 : decode cX2_beforeUnit 12 = .ok (.invokevirtual 89, 3) := by decide +kernel
theorem dX2_beforeUnit_15 : decode cX2_beforeUnit 15 = .ok (.ifCond .eq 7, 3) := by decide +kernel
theorem dX2_beforeUnit_18 : decode cX2_beforeUnit 18 = .ok (.iconst 0, 1) := by decide +kernel
theorem dX2_beforeUnit_19 : decode cX2_beforeUnit 19 = .ok (.goto 4, 3) := by decide +kernel
theorem dX2_beforeUnit_22 : decode cX2_beforeUnit 22 = .ok (.iconst 4, 1) := by decide +kernel
theorem dX2_beforeUnit_23 : decode cX2_beforeUnit 23 = .ok (.ireturn, 1) := by decide +kernel
theorem dX2_beforeUnit_24 : decode cX2_beforeUnit 24 = .ok (.aload_n 0, 1) := by decide +kernel
theorem dX2_beforeUnit_25 : decode cX2_beforeUnit 25 = .ok (.iload_n 1, 1) := by decide +kernel
theorem dX2_beforeUnit_26 : decode cX2_beforeUnit 26 = .ok (.invokevirtual 92, 3) := by decide +kernel
theorem dX2_beforeUnit_29 : decode cX2_beforeUnit 29 = .ok (.istore_n 3, 1) := by decide +kernel
theorem dX2_beforeUnit_30 : decode cX2_beforeUnit 30 = .ok (.iload_n 1, 1) := by decide +kernel
theorem dX2_beforeUnit_31 : decode cX2_beforeUnit 31 = .ok (.bipush 40, 2) := by decide +kernel
theorem dX2_beforeUnit_33 : decode cX2_beforeUnit 33 = .ok (.if_icmp .eq 8, 3) := by decide +kernel
theorem dX2_beforeUnit_36 : decode cX2_beforeUnit 36 = .ok (.iload_n 3, 1) := by decide +kernel
theorem dX2_beforeUnit_37 : decode cX2_beforeUnit 37 = .ok (.iconst (-1), 1) := by decide +kernel
theorem dX2_beforeUnit_38 : decode cX2_beforeUnit 38 = .ok (.if_icmp .eq 12, 3) := by decide +kernel
theorem dX2_beforeUnit_41 : decode cX2_beforeUnit 41 = .ok (.aload_n 0, 1) := by decide +kernel
theorem dX2_beforeUnit_42 : decode cX2_beforeUnit 42 = .ok (.getfield 28, 3) := by decide +kernel
theorem dX2_beforeUnit_45 : decode cX2_beforeUnit 45 = .ok (.bipush 60, 2) := by decide +kernel
theorem dX2_beforeUnit_47 : decode cX2_beforeUnit 47 = .ok (.if_icmp .lt 5, 3) := by decide +kernel
theorem dX2_beforeUnit_50 : decode cX2_beforeUnit 50 = .ok (.iconst 4, 1) := by decide +kernel
theorem dX2_beforeUnit_51 : decode cX2_beforeUnit 51 = .ok (.ireturn, 1) := by decide +kernel
theorem dX2_beforeUnit_52 : decode cX2_beforeUnit 52 = .ok (.aload_n 0, 1) := by decide +kernel
theorem dX2_beforeUnit_53 : decode cX2_beforeUnit 53 = .ok (.dup, 1) := by decide +kernel
theorem dX2_beforeUnit_54 : decode cX2_beforeUnit 54 = .ok (.getfield 28, 3) := by decide +kernel
theorem dX2_beforeUnit_57 : decode cX2_beforeUnit 57 = .ok (.iconst 1, 1) := by decide +kernel
theorem dX2_beforeUnit_58 : decode cX2_beforeUnit 58 = .ok (.iadd, 1) := by decide +kernel
theorem dX2_beforeUnit_59 : decode cX2_beforeUnit 59 = .ok (.putfield 28, 3) := by decide +kernel
theorem dX2_beforeUnit_62 : decode cX2_beforeUnit 62 = .ok (.iload_n 1, 1) := by decide +kernel
theorem dX2_beforeUnit_63 : decode cX2_beforeUnit 63 = .ok (.bipush 40, 2) := by decide +kernel
theorem dX2_beforeUnit_65 : decode cX2_beforeUnit 65 = .ok (.if_icmp .ne 17, 3) := by decide +kernel
theorem dX2_beforeUnit_68 : decode cX2_beforeUnit 68 = .ok (.aload_n 0, 1) := by decide +kernel
theorem dX2_beforeUnit_69 : decode cX2_beforeUnit 69 = .ok (.iload_n 1, 1) := by decide +kernel
theorem dX2_beforeUnit_70 : decode cX2_beforeUnit 70 = .ok (.invokevirtual 89, 3) := by decide +kernel
theorem dX2_beforeUnit_73 : decode cX2_beforeUnit 73 = .ok (.ifCond .eq 7, 3) := by decide +kernel
theorem dX2_beforeUnit_76 : decode cX2_beforeUnit 76 = .ok (.iconst 0, 1) := by decide +kernel
theorem dX2_beforeUnit_77 : decode cX2_beforeUnit 77 = .ok (.goto 4, 3) := by decide +kernel
theorem dX2_beforeUnit_80 : decode cX2_beforeUnit 80 = .ok (.iconst 4, 1) := by decide +kernel
theorem dX2_beforeUnit_81 : decode cX2_beforeUnit 81 = .ok (.ireturn, 1) := by decide +kernel
theorem dX2_beforeUnit_82 : decode cX2_beforeUnit 82 = .ok (.aload_n 0, 1) := by decide +kernel
theorem dX2_beforeUnit_83 : decode cX2_beforeUnit 83 = .ok (.getfield 19, 3) := by decide +kernel
theorem dX2_beforeUnit_86 : decode cX2_beforeUnit 86 = .ok (.iload_n 3, 1) := by decide +kernel
theorem dX2_beforeUnit_87 : decode cX2_beforeUnit 87 = .ok (.invokevirtual 95, 3) := by decide +kernel
theorem dX2_beforeUnit_90 : decode cX2_beforeUnit 90 = .ok (.iconst 2, 1) := by decide +kernel
theorem dX2_beforeUnit_91 : decode cX2_beforeUnit 91 = .ok (.ireturn, 1) := by decide +kernel
theorem dX2_codeOf_0 : decode cX2_codeOf 0 = .ok (.iload_n 1, 1) := by decide +kernel
theorem dX2_codeOf_1 : decode cX2_codeOf 1 = .ok (.iconst 2, 1) := by decide +kernel
theorem dX2_codeOf_2 : decode cX2_codeOf 2 = .ok (.if_icmp .ne 11, 3) := by decide +kernel
theorem dX2_codeOf_5 : decode cX2_codeOf 5 = .ok (.aload_n 0, 1) := by decide +kernel
theorem dX2_codeOf_6 : decode cX2_codeOf 6 = .ok (.getfield 15, 3) := by decide +kernel
theorem dX2_codeOf_9 : decode cX2_codeOf 9 = .ok (.getfield 98, 3) := by decide +kernel
theorem dX2_codeOf_12 : decode cX2_codeOf 12 = .ok (.ireturn, 1) := by decide +kernel
theorem dX2_codeOf_13 : decode cX2_codeOf 13 = .ok (.iload_n 1, 1) := by decide +kernel
theorem dX2_codeOf_14 : decode cX2_codeOf 14 = .ok (.invokestatic 101, 3) := by decide +kernel
theorem dX2_codeOf_17 : decode cX2_codeOf 17 = .ok (.istore_n 2, 1) := by decide +kernel
theorem dX2_codeOf_18 : decode cX2_codeOf 18 = .ok (.iload_n 2, 1) := by decide +kernel
theorem dX2_codeOf_19 : decode cX2_codeOf 19 = .ok (.iconst (-1), 1) := by decide +kernel
theorem dX2_codeOf_20 : decode cX2_codeOf 20 = .ok (.if_icmp .ne 7, 3) := by decide +kernel
theorem dX2_codeOf_23 : decode cX2_codeOf 23 = .ok (.iconst (-1), 1) := by decide +kernel
theorem dX2_codeOf_24 : decode cX2_codeOf 24 = .ok (.goto 8, 3) := by decide +kernel
theorem dX2_codeOf_27 : decode cX2_codeOf 27 = .ok (.sipush 10000, 3) := by decide +kernel
theorem dX2_codeOf_30 : decode cX2_codeOf 30 = .ok (.iload_n 2, 1) := by decide +kernel
theorem dX2_codeOf_31 : decode cX2_codeOf 31 = .ok (.iadd, 1) := by decide +kernel
theorem dX2_codeOf_32 : decode cX2_codeOf 32 = .ok (.ireturn, 1) := by decide +kernel
theorem dX2_afterUnit_0 : decode cX2_afterUnit 0 = .ok (.iload_n 1, 1) := by decide +kernel
theorem dX2_afterUnit_1 : decode cX2_afterUnit 1 = .ok (.bipush 59, 2) := by decide +kernel
theorem dX2_afterUnit_3 : decode cX2_afterUnit 3 = .ok (.if_icmp .ne 21, 3) := by decide +kernel
theorem dX2_afterUnit_6 : decode cX2_afterUnit 6 = .ok (.aload_n 0, 1) := by decide +kernel
theorem dX2_afterUnit_7 : decode cX2_afterUnit 7 = .ok (.iconst 1, 1) := by decide +kernel
theorem dX2_afterUnit_8 : decode cX2_afterUnit 8 = .ok (.invokevirtual 106, 3) := by decide +kernel
theorem dX2_afterUnit_11 : decode cX2_afterUnit 11 = .ok (.aload_n 0, 1) := by decide +kernel
theorem dX2_afterUnit_12 : decode cX2_afterUnit 12 = .ok (.getfield 74, 3) := by decide +kernel
theorem dX2_afterUnit_15 : decode cX2_afterUnit 15 = .ok (.ifCond .ne 7, 3) := by decide +kernel
theorem dX2_afterUnit_18 : decode cX2_afterUnit 18 = .ok (.iconst 3, 1) := by decide +kernel
theorem dX2_afterUnit_19 : decode cX2_afterUnit 19 = .ok (.goto 4, 3) := by decide +kernel
theorem dX2_afterUnit_22 : decode cX2_afterUnit 22 = .ok (.iconst 4, 1) := by decide +kernel
theorem dX2_afterUnit_23 : decode cX2_afterUnit 23 = .ok (.ireturn, 1) := by decide +kernel
theorem dX2_afterUnit_24 : decode cX2_afterUnit 24 = .ok (.iload_n 1, 1) := by decide +kernel
theorem dX2_afterUnit_25 : decode cX2_afterUnit 25 = .ok (.bipush 41, 2) := by decide +kernel
theorem dX2_afterUnit_27 : decode cX2_afterUnit 27 = .ok (.if_icmp .ne 21, 3) := by decide +kernel
theorem dX2_afterUnit_30 : decode cX2_afterUnit 30 = .ok (.aload_n 0, 1) := by decide +kernel
theorem dX2_afterUnit_31 : decode cX2_afterUnit 31 = .ok (.iconst 1, 1) := by decide +kernel
theorem dX2_afterUnit_32 : decode cX2_afterUnit 32 = .ok (.invokevirtual 106, 3) := by decide +kernel
theorem dX2_afterUnit_35 : decode cX2_afterUnit 35 = .ok (.aload_n 0, 1) := by decide +kernel
theorem dX2_afterUnit_36 : decode cX2_afterUnit 36 = .ok (.invokevirtual 109, 3) := by decide +kernel
theorem dX2_afterUnit_39 : decode cX2_afterUnit 39 = .ok (.ifCond .eq 7, 3) := by decide +kernel
theorem dX2_afterUnit_42 : decode cX2_afterUnit 42 = .ok (.iconst 2, 1) := by decide +kernel
theorem dX2_afterUnit_43 : decode cX2_afterUnit 43 = .ok (.goto 4, 3) := by decide +kernel
theorem dX2_afterUnit_46 : decode cX2_afterUnit 46 = .ok (.iconst 4, 1) := by decide +kernel
theorem dX2_afterUnit_47 : decode cX2_afterUnit 47 = .ok (.ireturn, 1) := by decide +kernel
theorem dX2_afterUnit_48 : decode cX2_afterUnit 48 = .ok (.iload_n 1, 1) := by decide +kernel
theorem dX2_afterUnit_49 : decode cX2_afterUnit 49 = .ok (.invokestatic 112, 3) := by decide +kernel
theorem dX2_afterUnit_52 : decode cX2_afterUnit 52 = .ok (.istore_n 2, 1) := by decide +kernel
theorem dX2_afterUnit_53 : decode cX2_afterUnit 53 = .ok (.iload_n 2, 1) := by decide +kernel
theorem dX2_afterUnit_54 : decode cX2_afterUnit 54 = .ok (.iconst (-1), 1) := by decide +kernel
theorem dX2_afterUnit_55 : decode cX2_afterUnit 55 = .ok (.if_icmp .eq 8, 3) := by decide +kernel
theorem dX2_afterUnit_58 : decode cX2_afterUnit 58 = .ok (.iload_n 2, 1) := by decide +kernel
theorem dX2_afterUnit_59 : decode cX2_afterUnit 59 = .ok (.iconst 3, 1) := by decide +kernel
theorem dX2_afterUnit_60 : decode cX2_afterUnit 60 = .ok (.if_icmp .ne 5, 3) := by decide +kernel
theorem dX2_afterUnit_63 : decode cX2_afterUnit 63 = .ok (.iconst 4, 1) := by decide +kernel
theorem dX2_afterUnit_64 : decode cX2_afterUnit 64 = .ok (.ireturn, 1) := by decide +kernel
theorem dX2_afterUnit_65 : decode cX2_afterUnit 65 = .ok (.aload_n 0, 1) := by decide +kernel
theorem dX2_afterUnit_66 : decode cX2_afterUnit 66 = .ok (.iload_n 2, 1) := by decide +kernel
theorem dX2_afterUnit_67 : decode cX2_afterUnit 67 = .ok (.iconst 4, 1) := by decide +kernel
theorem dX2_afterUnit_68 : decode cX2_afterUnit 68 = .ok (.if_icmp .ne 7, 3) := by decide +kernel
theorem dX2_afterUnit_71 : decode cX2_afterUnit 71 = .ok (.iconst 5, 1) := by decide +kernel
theorem dX2_afterUnit_72 : decode cX2_afterUnit 72 = .ok (.goto 4, 3) := by decide +kernel
theorem dX2_afterUnit_75 : decode cX2_afterUnit 75 = .ok (.iload_n 2, 1) := by decide +kernel
theorem dX2_afterUnit_76 : decode cX2_afterUnit 76 = .ok (.invokevirtual 106, 3) := by decide +kernel
theorem dX2_afterUnit_79 : decode cX2_afterUnit 79 = .ok (.iload_n 2, 1) := by decide +kernel
theorem dX2_afterUnit_80 : decode cX2_afterUnit 80 = .ok (.iconst 4, 1) := by decide +kernel
theorem dX2_afterUnit_81 : decode cX2_afterUnit 81 = .ok (.if_icmp .ne 30, 3) := by decide +kernel
theorem dX2_afterUnit_84 : decode cX2_afterUnit 84 = .ok (.aload_n 0, 1) := by decide +kernel
theorem dX2_afterUnit_85 : decode cX2_afterUnit 85 = .ok (.getfield 74, 3) := by decide +kernel
theorem dX2_afterUnit_88 : decode cX2_afterUnit 88 = .ok (.ifCond .le 23, 3) := by decide +kernel
theorem dX2_afterUnit_91 : decode cX2_afterUnit 91 = .ok (.aload_n 0, 1) := by decide +kernel
theorem dX2_afterUnit_92 : decode cX2_afterUnit 92 = .ok (.getfield 11, 3) := by decide +kernel
theorem dX2_afterUnit_95 : decode cX2_afterUnit 95 = .ok (.aload_n 0, 1) := by decide +kernel
theorem dX2_afterUnit_96 : decode cX2_afterUnit 96 = .ok (.getfield 74, 3) := by decide +kernel
theorem dX2_afterUnit_99 : decode cX2_afterUnit 99 = .ok (.iconst 1, 1) := by decide +kernel
theorem dX2_afterUnit_100 : decode cX2_afterUnit 100 = .ok (.isub, 1) := by decide +kernel
theorem dX2_afterUnit_101 : decode cX2_afterUnit 101 = .ok (.iaload, 1) := by decide +kernel
theorem dX2_afterUnit_102 : decode cX2_afterUnit 102 = .ok (.invokestatic 112, 3) := by decide +kernel
theorem dX2_afterUnit_105 : decode cX2_afterUnit 105 = .ok (.iconst 4, 1) := by decide +kernel
theorem dX2_afterUnit_106 : decode cX2_afterUnit 106 = .ok (.if_icmp .ne 5, 3) := by decide +kernel
theorem dX2_afterUnit_109 : decode cX2_afterUnit 109 = .ok (.iconst 4, 1) := by decide +kernel
theorem dX2_afterUnit_110 : decode cX2_afterUnit 110 = .ok (.ireturn, 1) := by decide +kernel
theorem dX2_afterUnit_111 : decode cX2_afterUnit 111 = .ok (.aload_n 0, 1) := by decide +kernel
theorem dX2_afterUnit_112 : decode cX2_afterUnit 112 = .ok (.iload_n 1, 1) := by decide +kernel
theorem dX2_afterUnit_113 : decode cX2_afterUnit 113 = .ok (.invokevirtual 115, 3) := by decide +kernel
theorem dX2_afterUnit_116 : decode cX2_afterUnit 116 = .ok (.ifCond .eq 16, 3) := by decide +kernel
theorem dX2_afterUnit_119 : decode cX2_afterUnit 119 = .ok (.iload_n 2, 1) := by decide +kernel
theorem dX2_afterUnit_120 : decode cX2_afterUnit 120 = .ok (.iconst 2, 1) := by decide +kernel
theorem dX2_afterUnit_121 : decode cX2_afterUnit 121 = .ok (.if_icmp .gt 7, 3) := by decide +kernel
theorem dX2_afterUnit_124 : decode cX2_afterUnit 124 = .ok (.iconst 0, 1) := by decide +kernel
theorem dX2_afterUnit_125 : decode cX2_afterUnit 125 = .ok (.goto 8, 3) := by decide +kernel
theorem dX2_afterUnit_128 : decode cX2_afterUnit 128 = .ok (.iconst 1, 1) := by decide +kernel
theorem dX2_afterUnit_129 : decode cX2_afterUnit 129 = .ok (.goto 4, 3) := by decide +kernel
theorem dX2_afterUnit_132 : decode cX2_afterUnit 132 = .ok (.iconst 4, 1) := by decide +kernel
theorem dX2_afterUnit_133 : decode cX2_afterUnit 133 = .ok (.ireturn, 1) := by decide +kernel
theorem dX2_enter_0 : decode cX2_enter 0 = .ok (.aload_n 0, 1) := by decide +kernel
theorem dX2_enter_1 : decode cX2_enter 1 = .ok (.getfield 77, 3) := by decide +kernel
theorem dX2_enter_4 : decode cX2_enter 4 = .ok (.bipush 7, 2) := by decide +kernel
theorem dX2_enter_6 : decode cX2_enter 6 = .ok (.if_icmp .ge 11, 3) := by decide +kernel
theorem dX2_enter_9 : decode cX2_enter 9 = .ok (.aload_n 0, 1) := by decide +kernel
theorem dX2_enter_10 : decode cX2_enter 10 = .ok (.iload_n 1, 1) := by decide +kernel
theorem dX2_enter_11 : decode cX2_enter 11 = .ok (.invokevirtual 115, 3) := by decide +kernel
theorem dX2_enter_14 : decode cX2_enter 14 = .ok (.ifCond .ne 5, 3) := by decide +kernel
theorem dX2_enter_17 : decode cX2_enter 17 = .ok (.iconst 0, 1) := by decide +kernel
theorem dX2_enter_18 : decode cX2_enter 18 = .ok (.ireturn, 1) := by decide +kernel
theorem dX2_enter_19 : decode cX2_enter 19 = .ok (.aload_n 0, 1) := by decide +kernel
theorem dX2_enter_20 : decode cX2_enter 20 = .ok (.dup, 1) := by decide +kernel
theorem dX2_enter_21 : decode cX2_enter 21 = .ok (.getfield 77, 3) := by decide +kernel
theorem dX2_enter_24 : decode cX2_enter 24 = .ok (.iconst 1, 1) := by decide +kernel
theorem dX2_enter_25 : decode cX2_enter 25 = .ok (.iadd, 1) := by decide +kernel
theorem dX2_enter_26 : decode cX2_enter 26 = .ok (.putfield 77, 3) := by decide +kernel
theorem dX2_enter_29 : decode cX2_enter 29 = .ok (.iconst 1, 1) := by decide +kernel
theorem dX2_enter_30 : decode cX2_enter 30 = .ok (.ireturn, 1) := by decide +kernel
theorem dX2_leaveBracket_0 : decode cX2_leaveBracket 0 = .ok (.aload_n 0, 1) := by decide +kernel
theorem dX2_leaveBracket_1 : decode cX2_leaveBracket 1 = .ok (.getfield 74, 3) := by decide +kernel
theorem dX2_leaveBracket_4 : decode cX2_leaveBracket 4 = .ok (.ifCond .ne 5, 3) := by decide +kernel
theorem dX2_leaveBracket_7 : decode cX2_leaveBracket 7 = .ok (.iconst 0, 1) := by decide +kernel
theorem dX2_leaveBracket_8 : decode cX2_leaveBracket 8 = .ok (.ireturn, 1) := by decide +kernel
theorem dX2_leaveBracket_9 : decode cX2_leaveBracket 9 = .ok (.aload_n 0, 1) := by decide +kernel
theorem dX2_leaveBracket_10 : decode cX2_leaveBracket 10 = .ok (.dup, 1) := by decide +kernel
theorem dX2_leaveBracket_11 : decode cX2_leaveBracket 11 = .ok (.getfield 74, 3) := by decide +kernel
theorem dX2_leaveBracket_14 : decode cX2_leaveBracket 14 = .ok (.iconst 1, 1) := by decide +kernel
theorem dX2_leaveBracket_15 : decode cX2_leaveBracket 15 = .ok (.isub, 1) := by decide +kernel
theorem dX2_leaveBracket_16 : decode cX2_leaveBracket 16 = .ok (.putfield 74, 3) := by decide +kernel
theorem dX2_leaveBracket_19 : decode cX2_leaveBracket 19 = .ok (.aload_n 0, 1) := by decide +kernel
theorem dX2_leaveBracket_20 : decode cX2_leaveBracket 20 = .ok (.dup, 1) := by decide +kernel
theorem dX2_leaveBracket_21 : decode cX2_leaveBracket 21 = .ok (.getfield 77, 3) := by decide +kernel
theorem dX2_leaveBracket_24 : decode cX2_leaveBracket 24 = .ok (.iconst 1, 1) := by decide +kernel
theorem dX2_leaveBracket_25 : decode cX2_leaveBracket 25 = .ok (.isub, 1) := by decide +kernel
theorem dX2_leaveBracket_26 : decode cX2_leaveBracket 26 = .ok (.putfield 77, 3) := by decide +kernel
theorem dX2_leaveBracket_29 : decode cX2_leaveBracket 29 = .ok (.iconst 1, 1) := by decide +kernel
theorem dX2_leaveBracket_30 : decode cX2_leaveBracket 30 = .ok (.ireturn, 1) := by decide +kernel
theorem dX2_push_0 : decode cX2_push 0 = .ok (.aload_n 0, 1) := by decide +kernel
theorem dX2_push_1 : decode cX2_push 1 = .ok (.getfield 74, 3) := by decide +kernel
theorem dX2_push_4 : decode cX2_push 4 = .ok (.aload_n 0, 1) := by decide +kernel
theorem dX2_push_5 : decode cX2_push 5 = .ok (.getfield 11, 3) := by decide +kernel
theorem dX2_push_8 : decode cX2_push 8 = .ok (.arraylength, 1) := by decide +kernel
theorem dX2_push_9 : decode cX2_push 9 = .ok (.if_icmp .lt 5, 3) := by decide +kernel
theorem dX2_push_12 : decode cX2_push 12 = .ok (.iconst 0, 1) := by decide +kernel
theorem dX2_push_13 : decode cX2_push 13 = .ok (.ireturn, 1) := by decide +kernel
theorem dX2_push_14 : decode cX2_push 14 = .ok (.aload_n 0, 1) := by decide +kernel
theorem dX2_push_15 : decode cX2_push 15 = .ok (.getfield 11, 3) := by decide +kernel
theorem dX2_push_18 : decode cX2_push 18 = .ok (.aload_n 0, 1) := by decide +kernel
theorem dX2_push_19 : decode cX2_push 19 = .ok (.getfield 74, 3) := by decide +kernel
theorem dX2_push_22 : decode cX2_push 22 = .ok (.iload_n 1, 1) := by decide +kernel
theorem dX2_push_23 : decode cX2_push 23 = .ok (.iastore, 1) := by decide +kernel
theorem dX2_push_24 : decode cX2_push 24 = .ok (.aload_n 0, 1) := by decide +kernel
theorem dX2_push_25 : decode cX2_push 25 = .ok (.dup, 1) := by decide +kernel
theorem dX2_push_26 : decode cX2_push 26 = .ok (.getfield 74, 3) := by decide +kernel
theorem dX2_push_29 : decode cX2_push 29 = .ok (.iconst 1, 1) := by decide +kernel
theorem dX2_push_30 : decode cX2_push 30 = .ok (.iadd, 1) := by decide +kernel
theorem dX2_push_31 : decode cX2_push 31 = .ok (.putfield 74, 3) := by decide +kernel
theorem dX2_push_34 : decode cX2_push 34 = .ok (.iconst 1, 1) := by decide +kernel
theorem dX2_push_35 : decode cX2_push 35 = .ok (.ireturn, 1) := by decide +kernel
theorem dX2_release_0 : decode cX2_release 0 = .ok (.aload_n 0, 1) := by decide +kernel
theorem dX2_release_1 : decode cX2_release 1 = .ok (.getfield 74, 3) := by decide +kernel
theorem dX2_release_4 : decode cX2_release 4 = .ok (.ifCond .le 78, 3) := by decide +kernel
theorem dX2_release_7 : decode cX2_release 7 = .ok (.aload_n 0, 1) := by decide +kernel
theorem dX2_release_8 : decode cX2_release 8 = .ok (.getfield 11, 3) := by decide +kernel
theorem dX2_release_11 : decode cX2_release 11 = .ok (.aload_n 0, 1) := by decide +kernel
theorem dX2_release_12 : decode cX2_release 12 = .ok (.getfield 74, 3) := by decide +kernel
theorem dX2_release_15 : decode cX2_release 15 = .ok (.iconst 1, 1) := by decide +kernel
theorem dX2_release_16 : decode cX2_release 16 = .ok (.isub, 1) := by decide +kernel
theorem dX2_release_17 : decode cX2_release 17 = .ok (.iaload, 1) := by decide +kernel
theorem dX2_release_18 : decode cX2_release 18 = .ok (.invokestatic 112, 3) := by decide +kernel
theorem dX2_release_21 : decode cX2_release 21 = .ok (.iload_n 1, 1) := by decide +kernel
theorem dX2_release_22 : decode cX2_release 22 = .ok (.if_icmp .lt 60, 3) := by decide +kernel
theorem dX2_release_25 : decode cX2_release 25 = .ok (.aload_n 0, 1) := by decide +kernel
theorem dX2_release_26 : decode cX2_release 26 = .ok (.dup, 1) := by decide +kernel
theorem dX2_release_27 : decode cX2_release 27 = .ok (.getfield 74, 3) := by decide +kernel
theorem dX2_release_30 : decode cX2_release 30 = .ok (.iconst 1, 1) := by decide +kernel
theorem dX2_release_31 : decode cX2_release 31 = .ok (.isub, 1) := by decide +kernel
theorem dX2_release_32 : decode cX2_release 32 = .ok (.putfield 74, 3) := by decide +kernel
theorem dX2_release_35 : decode cX2_release 35 = .ok (.aload_n 0, 1) := by decide +kernel
theorem dX2_release_36 : decode cX2_release 36 = .ok (.getfield 11, 3) := by decide +kernel
theorem dX2_release_39 : decode cX2_release 39 = .ok (.aload_n 0, 1) := by decide +kernel
theorem dX2_release_40 : decode cX2_release 40 = .ok (.getfield 74, 3) := by decide +kernel
theorem dX2_release_43 : decode cX2_release 43 = .ok (.iaload, 1) := by decide +kernel
theorem dX2_release_44 : decode cX2_release 44 = .ok (.bipush 16, 2) := by decide +kernel
theorem dX2_release_46 : decode cX2_release 46 = .ok (.if_icmp .ne 13, 3) := by decide +kernel
theorem dX2_release_49 : decode cX2_release 49 = .ok (.aload_n 0, 1) := by decide +kernel
theorem dX2_release_50 : decode cX2_release 50 = .ok (.dup, 1) := by decide +kernel
theorem dX2_release_51 : decode cX2_release 51 = .ok (.getfield 77, 3) := by decide +kernel
theorem dX2_release_54 : decode cX2_release 54 = .ok (.iconst 1, 1) := by decide +kernel
theorem dX2_release_55 : decode cX2_release 55 = .ok (.isub, 1) := by decide +kernel
theorem dX2_release_56 : decode cX2_release 56 = .ok (.putfield 77, 3) := by decide +kernel
theorem dX2_release_59 : decode cX2_release 59 = .ok (.aload_n 0, 1) := by decide +kernel
theorem dX2_release_60 : decode cX2_release 60 = .ok (.getfield 19, 3) := by decide +kernel
theorem dX2_release_63 : decode cX2_release 63 = .ok (.sipush 20000, 3) := by decide +kernel
theorem dX2_release_66 : decode cX2_release 66 = .ok (.aload_n 0, 1) := by decide +kernel
theorem dX2_release_67 : decode cX2_release 67 = .ok (.getfield 11, 3) := by decide +kernel
theorem dX2_release_70 : decode cX2_release 70 = .ok (.aload_n 0, 1) := by decide +kernel
theorem dX2_release_71 : decode cX2_release 71 = .ok (.getfield 74, 3) := by decide +kernel
theorem dX2_release_74 : decode cX2_release 74 = .ok (.iaload, 1) := by decide +kernel
theorem dX2_release_75 : decode cX2_release 75 = .ok (.iadd, 1) := by decide +kernel
theorem dX2_release_76 : decode cX2_release 76 = .ok (.invokevirtual 95, 3) := by decide +kernel
theorem dX2_release_79 : decode cX2_release 79 = .ok (.goto (-79), 3) := by decide +kernel
theorem dX2_release_82 : decode cX2_release 82 = .ok (.return_, 1) := by decide +kernel
theorem dX2_rankOf_0 : decode cX2_rankOf 0 = .ok (.iload_n 0, 1) := by decide +kernel
theorem dX2_rankOf_1 : decode cX2_rankOf 1 = .ok (.lookupswitch 96 #[(14, 85), (15, 83), (16, 87), (42, 93), (43, 91), (45, 91), (60, 89), (61, 89), (62, 89)], 83) := by decide +kernel
theorem dX2_rankOf_84 : decode cX2_rankOf 84 = .ok (.iconst 1, 1) := by decide +kernel
theorem dX2_rankOf_85 : decode cX2_rankOf 85 = .ok (.ireturn, 1) := by decide +kernel
theorem dX2_rankOf_86 : decode cX2_rankOf 86 = .ok (.iconst 2, 1) := by decide +kernel
theorem dX2_rankOf_87 : decode cX2_rankOf 87 = .ok (.ireturn, 1) := by decide +kernel
theorem dX2_rankOf_88 : decode cX2_rankOf 88 = .ok (.iconst 3, 1) := by decide +kernel
theorem dX2_rankOf_89 : decode cX2_rankOf 89 = .ok (.ireturn, 1) := by decide +kernel
theorem dX2_rankOf_90 : decode cX2_rankOf 90 = .ok (.iconst 4, 1) := by decide +kernel
theorem dX2_rankOf_91 : decode cX2_rankOf 91 = .ok (.ireturn, 1) := by decide +kernel
theorem dX2_rankOf_92 : decode cX2_rankOf 92 = .ok (.iconst 5, 1) := by decide +kernel
theorem dX2_rankOf_93 : decode cX2_rankOf 93 = .ok (.ireturn, 1) := by decide +kernel
theorem dX2_rankOf_94 : decode cX2_rankOf 94 = .ok (.bipush 6, 2) := by decide +kernel
theorem dX2_rankOf_96 : decode cX2_rankOf 96 = .ok (.ireturn, 1) := by decide +kernel
theorem dX2_rankOf_97 : decode cX2_rankOf 97 = .ok (.iconst (-1), 1) := by decide +kernel
theorem dX2_rankOf_98 : decode cX2_rankOf 98 = .ok (.ireturn, 1) := by decide +kernel
theorem dX2_refuse_0 : decode cX2_refuse 0 = .ok (.aload_n 0, 1) := by decide +kernel
theorem dX2_refuse_1 : decode cX2_refuse 1 = .ok (.aload_n 0, 1) := by decide +kernel
theorem dX2_refuse_2 : decode cX2_refuse 2 = .ok (.getfield 15, 3) := by decide +kernel
theorem dX2_refuse_5 : decode cX2_refuse 5 = .ok (.getfield 43, 3) := by decide +kernel
theorem dX2_refuse_8 : decode cX2_refuse 8 = .ok (.iconst 1, 1) := by decide +kernel
theorem dX2_refuse_9 : decode cX2_refuse 9 = .ok (.if_icmp .ne 7, 3) := by decide +kernel
theorem dX2_refuse_12 : decode cX2_refuse 12 = .ok (.iconst 1, 1) := by decide +kernel
theorem dX2_refuse_13 : decode cX2_refuse 13 = .ok (.goto 4, 3) := by decide +kernel
theorem dX2_refuse_16 : decode cX2_refuse 16 = .ok (.iconst 2, 1) := by decide +kernel
theorem dX2_refuse_17 : decode cX2_refuse 17 = .ok (.putfield 32, 3) := by decide +kernel
theorem dX2_refuse_20 : decode cX2_refuse 20 = .ok (.aload_n 0, 1) := by decide +kernel
theorem dX2_refuse_21 : decode cX2_refuse 21 = .ok (.aload_n 0, 1) := by decide +kernel
theorem dX2_refuse_22 : decode cX2_refuse 22 = .ok (.getfield 15, 3) := by decide +kernel
theorem dX2_refuse_25 : decode cX2_refuse 25 = .ok (.getfield 118, 3) := by decide +kernel
theorem dX2_refuse_28 : decode cX2_refuse 28 = .ok (.putfield 35, 3) := by decide +kernel
theorem dX2_refuse_31 : decode cX2_refuse 31 = .ok (.iconst 0, 1) := by decide +kernel
theorem dX2_refuse_32 : decode cX2_refuse 32 = .ok (.ireturn, 1) := by decide +kernel
theorem dX3_init_0 : decode cX3_init 0 = .ok (.aload_n 0, 1) := by decide +kernel
theorem dX3_init_1 : decode cX3_init 1 = .ok (.invokespecial 3, 3) := by decide +kernel
theorem dX3_init_4 : decode cX3_init 4 = .ok (.aload_n 0, 1) := by decide +kernel
theorem dX3_init_5 : decode cX3_init 5 = .ok (.sipush 320, 3) := by decide +kernel
theorem dX3_init_8 : decode cX3_init 8 = .ok (.newarray .int, 2) := by decide +kernel
theorem dX3_init_10 : decode cX3_init 10 = .ok (.putfield 11, 3) := by decide +kernel
theorem dX3_init_13 : decode cX3_init 13 = .ok (.aload_n 0, 1) := by decide +kernel
theorem dX3_init_14 : decode cX3_init 14 = .ok (.iconst 3, 1) := by decide +kernel
theorem dX3_init_15 : decode cX3_init 15 = .ok (.newarray .int, 2) := by decide +kernel
theorem dX3_init_17 : decode cX3_init 17 = .ok (.putfield 15, 3) := by decide +kernel
theorem dX3_init_20 : decode cX3_init 20 = .ok (.aload_n 0, 1) := by decide +kernel
theorem dX3_init_21 : decode cX3_init 21 = .ok (.iconst 3, 1) := by decide +kernel
theorem dX3_init_22 : decode cX3_init 22 = .ok (.newarray .int, 2) := by decide +kernel
theorem dX3_init_24 : decode cX3_init 24 = .ok (.putfield 18, 3) := by decide +kernel
theorem dX3_init_27 : decode cX3_init 27 = .ok (.return_, 1) := by decide +kernel
theorem dX3_clear_0 : decode cX3_clear 0 = .ok (.aload_n 0, 1) := by decide +kernel
theorem dX3_clear_1 : decode cX3_clear 1 = .ok (.iconst 0, 1) := by decide +kernel
theorem dX3_clear_2 : decode cX3_clear 2 = .ok (.putfield 21, 3) := by decide +kernel
theorem dX3_clear_5 : decode cX3_clear 5 = .ok (.aload_n 0, 1) := by decide +kernel
theorem dX3_clear_6 : decode cX3_clear 6 = .ok (.getfield 15, 3) := by decide +kernel
theorem dX3_clear_9 : decode cX3_clear 9 = .ok (.iconst (-1), 1) := by decide +kernel
theorem dX3_clear_10 : decode cX3_clear 10 = .ok (.invokestatic 25, 3) := by decide +kernel
theorem dX3_clear_13 : decode cX3_clear 13 = .ok (.aload_n 0, 1) := by decide +kernel
theorem dX3_clear_14 : decode cX3_clear 14 = .ok (.getfield 18, 3) := by decide +kernel
theorem dX3_clear_17 : decode cX3_clear 17 = .ok (.iconst (-1), 1) := by decide +kernel
theorem dX3_clear_18 : decode cX3_clear 18 = .ok (.invokestatic 25, 3) := by decide +kernel
theorem dX3_clear_21 : decode cX3_clear 21 = .ok (.return_, 1) := by decide +kernel
theorem dX3_tells_0 : decode cX3_tells 0 = .ok (.aload_n 0, 1) := by decide +kernel
theorem dX3_tells_1 : decode cX3_tells 1 = .ok (.getfield 15, 3) := by decide +kernel
theorem dX3_tells_4 : decode cX3_tells 4 = .ok (.iload_n 1, 1) := by decide +kernel
theorem dX3_tells_5 : decode cX3_tells 5 = .ok (.iaload, 1) := by decide +kernel
theorem dX3_tells_6 : decode cX3_tells 6 = .ok (.iconst (-1), 1) := by decide +kernel
theorem dX3_tells_7 : decode cX3_tells 7 = .ok (.if_icmp .eq 7, 3) := by decide +kernel
theorem dX3_tells_10 : decode cX3_tells 10 = .ok (.iconst 1, 1) := by decide +kernel
theorem dX3_tells_11 : decode cX3_tells 11 = .ok (.goto 4, 3) := by decide +kernel
theorem dX3_tells_14 : decode cX3_tells 14 = .ok (.iconst 0, 1) := by decide +kernel
theorem dX3_tells_15 : decode cX3_tells 15 = .ok (.ireturn, 1) := by decide +kernel
theorem dX3_open_0 : decode cX3_open 0 = .ok (.aload_n 0, 1) := by decide +kernel
theorem dX3_open_1 : decode cX3_open 1 = .ok (.getfield 15, 3) := by decide +kernel
theorem dX3_open_4 : decode cX3_open 4 = .ok (.iload_n 1, 1) := by decide +kernel
theorem dX3_open_5 : decode cX3_open 5 = .ok (.aload_n 0, 1) := by decide +kernel
theorem dX3_open_6 : decode cX3_open 6 = .ok (.getfield 21, 3) := by decide +kernel
theorem dX3_open_9 : decode cX3_open 9 = .ok (.iastore, 1) := by decide +kernel
theorem dX3_open_10 : decode cX3_open 10 = .ok (.return_, 1) := by decide +kernel
theorem dX3_close_0 : decode cX3_close 0 = .ok (.aload_n 0, 1) := by decide +kernel
theorem dX3_close_1 : decode cX3_close 1 = .ok (.getfield 18, 3) := by decide +kernel
theorem dX3_close_4 : decode cX3_close 4 = .ok (.iload_n 1, 1) := by decide +kernel
theorem dX3_close_5 : decode cX3_close 5 = .ok (.aload_n 0, 1) := by decide +kernel
theorem dX3_close_6 : decode cX3_close 6 = .ok (.getfield 21, 3) := by decide +kernel
theorem dX3_close_9 : decode cX3_close 9 = .ok (.iastore, 1) := by decide +kernel
theorem dX3_close_10 : decode cX3_close 10 = .ok (.return_, 1) := by decide +kernel
theorem dX3_add_0 : decode cX3_add 0 = .ok (.aload_n 0, 1) := by decide +kernel
theorem dX3_add_1 : decode cX3_add 1 = .ok (.getfield 21, 3) := by decide +kernel
theorem dX3_add_4 : decode cX3_add 4 = .ok (.aload_n 0, 1) := by decide +kernel
theorem dX3_add_5 : decode cX3_add 5 = .ok (.getfield 11, 3) := by decide +kernel
theorem dX3_add_8 : decode cX3_add 8 = .ok (.arraylength, 1) := by decide +kernel
theorem dX3_add_9 : decode cX3_add 9 = .ok (.if_icmp .ge 23, 3) := by decide +kernel
theorem dX3_add_12 : decode cX3_add 12 = .ok (.aload_n 0, 1) := by decide +kernel
theorem dX3_add_13 : decode cX3_add 13 = .ok (.getfield 11, 3) := by decide +kernel
theorem dX3_add_16 : decode cX3_add 16 = .ok (.aload_n 0, 1) := by decide +kernel
theorem dX3_add_17 : decode cX3_add 17 = .ok (.getfield 21, 3) := by decide +kernel
theorem dX3_add_20 : decode cX3_add 20 = .ok (.iload_n 1, 1) := by decide +kernel
theorem dX3_add_21 : decode cX3_add 21 = .ok (.iastore, 1) := by decide +kernel
theorem dX3_add_22 : decode cX3_add 22 = .ok (.aload_n 0, 1) := by decide +kernel
theorem dX3_add_23 : decode cX3_add 23 = .ok (.dup, 1) := by decide +kernel
theorem dX3_add_24 : decode cX3_add 24 = .ok (.getfield 21, 3) := by decide +kernel
theorem dX3_add_27 : decode cX3_add 27 = .ok (.iconst 1, 1) := by decide +kernel
theorem dX3_add_28 : decode cX3_add 28 = .ok (.iadd, 1) := by decide +kernel
theorem dX3_add_29 : decode cX3_add 29 = .ok (.putfield 21, 3) := by decide +kernel
theorem dX3_add_32 : decode cX3_add 32 = .ok (.return_, 1) := by decide +kernel
theorem dX3_value_0 : decode cX3_value 0 = .ok (.iconst 0, 1) := by decide +kernel
theorem dX3_value_1 : decode cX3_value 1 = .ok (.istore 4, 2) := by decide +kernel
theorem dX3_value_3 : decode cX3_value 3 = .ok (.aload_n 0, 1) := by decide +kernel
theorem dX3_value_4 : decode cX3_value 4 = .ok (.getfield 15, 3) := by decide +kernel
theorem dX3_value_7 : decode cX3_value 7 = .ok (.iload_n 1, 1) := by decide +kernel
theorem dX3_value_8 : decode cX3_value 8 = .ok (.iaload, 1) := by decide +kernel
theorem dX3_value_9 : decode cX3_value 9 = .ok (.istore 5, 2) := by decide +kernel
theorem dX3_value_11 : decode cX3_value 11 = .ok (.iload 5, 2) := by decide +kernel
theorem dX3_value_13 : decode cX3_value 13 = .ok (.ifCond .lt 148, 3) := by decide +kernel
theorem dX3_value_16 : decode cX3_value 16 = .ok (.iload 5, 2) := by decide +kernel
theorem dX3_value_18 : decode cX3_value 18 = .ok (.aload_n 0, 1) := by decide +kernel
theorem dX3_value_19 : decode cX3_value 19 = .ok (.getfield 18, 3) := by decide +kernel
theorem dX3_value_22 : decode cX3_value 22 = .ok (.iload_n 1, 1) := by decide +kernel
theorem dX3_value_23 : decode cX3_value 23 = .ok (.iaload, 1) := by decide +kernel
theorem dX3_value_24 : decode cX3_value 24 = .ok (.if_icmp .ge 137, 3) := by decide +kernel
theorem dX3_value_27 : decode cX3_value 27 = .ok (.aload_n 0, 1) := by decide +kernel
theorem dX3_value_28 : decode cX3_value 28 = .ok (.getfield 11, 3) := by decide +kernel
theorem dX3_value_31 : decode cX3_value 31 = .ok (.iload 5, 2) := by decide +kernel
theorem dX3_value_33 : decode cX3_value 33 = .ok (.iaload, 1) := by decide +kernel
theorem dX3_value_34 : decode cX3_value 34 = .ok (.istore 6, 2) := by decide +kernel
theorem dX3_value_36 : decode cX3_value 36 = .ok (.iload 6, 2) := by decide +kernel
theorem dX3_value_38 : decode cX3_value 38 = .ok (.sipush 20000, 3) := by decide +kernel
theorem dX3_value_41 : decode cX3_value 41 = .ok (.if_icmp .ge 41, 3) := by decide +kernel
theorem dX3_value_44 : decode cX3_value 44 = .ok (.iload 4, 2) := by decide +kernel
theorem dX3_value_46 : decode cX3_value 46 = .ok (.aload_n 3, 1) := by decide +kernel
theorem dX3_value_47 : decode cX3_value 47 = .ok (.arraylength, 1) := by decide +kernel
theorem dX3_value_48 : decode cX3_value 48 = .ok (.if_icmp .ge 107, 3) := by decide +kernel
theorem dX3_value_51 : decode cX3_value 51 = .ok (.aload_n 3, 1) := by decide +kernel
theorem dX3_value_52 : decode cX3_value 52 = .ok (.iload 4, 2) := by decide +kernel
theorem dX3_value_54 : decode cX3_value 54 = .ok (.iload 6, 2) := by decide +kernel
theorem dX3_value_56 : decode cX3_value 56 = .ok (.sipush 10000, 3) := by decide +kernel
theorem dX3_value_59 : decode cX3_value 59 = .ok (.if_icmp .ge 8, 3) := by decide +kernel
theorem dX3_value_62 : decode cX3_value 62 = .ok (.iload 6, 2) := by decide +kernel
theorem dX3_value_64 : decode cX3_value 64 = .ok (.goto 11, 3) := by decide +kernel
theorem dX3_value_67 : decode cX3_value 67 = .ok (.aload_n 2, 1) := by decide +kernel
theorem dX3_value_68 : decode cX3_value 68 = .ok (.iload 6, 2) := by decide +kernel
theorem dX3_value_70 : decode cX3_value 70 = .ok (.sipush 10000, 3) := by decide +kernel
theorem dX3_value_73 : decode cX3_value 73 = .ok (.isub, 1) := by decide +kernel
theorem dX3_value_74 : decode cX3_value 74 = .ok (.iaload, 1) := by decide +kernel
theorem dX3_value_75 : decode cX3_value 75 = .ok (.iastore, 1) := by decide +kernel
theorem dX3_value_76 : decode cX3_value 76 = .ok (.iinc 4 1, 3) := by decide +kernel
theorem dX3_value_79 : decode cX3_value 79 = .ok (.goto 76, 3) := by decide +kernel
theorem dX3_value_82 : decode cX3_value 82 = .ok (.iload 6, 2) := by decide +kernel
theorem dX3_value_84 : decode cX3_value 84 = .ok (.sipush 20016, 3) := by decide +kernel
theorem dX3_value_87 : decode cX3_value 87 = .ok (.if_icmp .ne 32, 3) := by decide +kernel
theorem dX3_value_90 : decode cX3_value 90 = .ok (.iload 4, 2) := by decide +kernel
theorem dX3_value_92 : decode cX3_value 92 = .ok (.iconst 1, 1) := by decide +kernel
theorem dX3_value_93 : decode cX3_value 93 = .ok (.if_icmp .lt 62, 3) := by decide +kernel
theorem dX3_value_96 : decode cX3_value 96 = .ok (.aload_n 3, 1) := by decide +kernel
theorem dX3_value_97 : decode cX3_value 97 = .ok (.iload 4, 2) := by decide +kernel
theorem dX3_value_99 : decode cX3_value 99 = .ok (.iconst 1, 1) := by decide +kernel
theorem dX3_value_100 : decode cX3_value 100 = .ok (.isub, 1) := by decide +kernel
theorem dX3_value_101 : decode cX3_value 101 = .ok (.aload_n 3, 1) := by decide +kernel
theorem dX3_value_102 : decode cX3_value 102 = .ok (.iload 4, 2) := by decide +kernel
theorem dX3_value_104 : decode cX3_value 104 = .ok (.iconst 1, 1) := by decide +kernel
theorem dX3_value_105 : decode cX3_value 105 = .ok (.isub, 1) := by decide +kernel
theorem dX3_value_106 : decode cX3_value 106 = .ok (.iaload, 1) := by decide +kernel
theorem dX3_value_107 : decode cX3_value 107 = .ok (.ifCond .ne 7, 3) := by decide +kernel
theorem dX3_value_110 : decode cX3_value 110 = .ok (.iconst 1, 1) := by decide +kernel
theorem dX3_value_111 : decode cX3_value 111 = .ok (.goto 4, 3) := by decide +kernel
theorem dX3_value_114 : decode cX3_value 114 = .ok (.iconst 0, 1) := by decide +kernel
theorem dX3_value_115 : decode cX3_value 115 = .ok (.iastore, 1) := by decide +kernel
theorem dX3_value_116 : decode cX3_value 116 = .ok (.goto 39, 3) := by decide +kernel
theorem dX3_value_119 : decode cX3_value 119 = .ok (.iload 4, 2) := by decide +kernel
theorem dX3_value_121 : decode cX3_value 121 = .ok (.iconst 2, 1) := by decide +kernel
theorem dX3_value_122 : decode cX3_value 122 = .ok (.if_icmp .lt 33, 3) := by decide +kernel
theorem dX3_value_125 : decode cX3_value 125 = .ok (.aload_n 3, 1) := by decide +kernel
theorem dX3_value_126 : decode cX3_value 126 = .ok (.iload 4, 2) := by decide +kernel
theorem dX3_value_128 : decode cX3_value 128 = .ok (.iconst 2, 1) := by decide +kernel
theorem dX3_value_129 : decode cX3_value 129 = .ok (.isub, 1) := by decide +kernel
theorem dX3_value_130 : decode cX3_value 130 = .ok (.iload 6, 2) := by decide +kernel
theorem dX3_value_132 : decode cX3_value 132 = .ok (.sipush 20000, 3) := by decide +kernel
theorem dX3_value_135 : decode cX3_value 135 = .ok (.isub, 1) := by decide +kernel
theorem dX3_value_136 : decode cX3_value 136 = .ok (.aload_n 3, 1) := by decide +kernel
theorem dX3_value_137 : decode cX3_value 137 = .ok (.iload 4, 2) := by decide +kernel
theorem dX3_value_139 : decode cX3_value 139 = .ok (.iconst 2, 1) := by decide +kernel
theorem dX3_value_140 : decode cX3_value 140 = .ok (.isub, 1) := by decide +kernel
theorem dX3_value_141 : decode cX3_value 141 = .ok (.iaload, 1) := by decide +kernel
theorem dX3_value_142 : decode cX3_value 142 = .ok (.aload_n 3, 1) := by decide +kernel
theorem dX3_value_143 : decode cX3_value 143 = .ok (.iload 4, 2) := by decide +kernel
theorem dX3_value_145 : decode cX3_value 145 = .ok (.iconst 1, 1) := by decide +kernel
theorem dX3_value_146 : decode cX3_value 146 = .ok (.isub, 1) := by decide +kernel
theorem dX3_value_147 : decode cX3_value 147 = .ok (.iaload, 1) := by decide +kernel
theorem dX3_value_148 : decode cX3_value 148 = .ok (.invokestatic 33, 3) := by decide +kernel
theorem dX3_value_151 : decode cX3_value 151 = .ok (.iastore, 1) := by decide +kernel
theorem dX3_value_152 : decode cX3_value 152 = .ok (.iinc 4 (-1), 3) := by decide +kernel
theorem dX3_value_155 : decode cX3_value 155 = .ok (.iinc 5 1, 3) := by decide +kernel
theorem dX3_value_158 : decode cX3_value 158 = .ok (.goto (-147), 3) := by decide +kernel
theorem dX3_value_161 : decode cX3_value 161 = .ok (.iload 4, 2) := by decide +kernel
theorem dX3_value_163 : decode cX3_value 163 = .ok (.ifCond .le 12, 3) := by decide +kernel
theorem dX3_value_166 : decode cX3_value 166 = .ok (.aload_n 3, 1) := by decide +kernel
theorem dX3_value_167 : decode cX3_value 167 = .ok (.iload 4, 2) := by decide +kernel
theorem dX3_value_169 : decode cX3_value 169 = .ok (.iconst 1, 1) := by decide +kernel
theorem dX3_value_170 : decode cX3_value 170 = .ok (.isub, 1) := by decide +kernel
theorem dX3_value_171 : decode cX3_value 171 = .ok (.iaload, 1) := by decide +kernel
theorem dX3_value_172 : decode cX3_value 172 = .ok (.goto 4, 3) := by decide +kernel
theorem dX3_value_175 : decode cX3_value 175 = .ok (.iconst 0, 1) := by decide +kernel
theorem dX3_value_176 : decode cX3_value 176 = .ok (.ireturn, 1) := by decide +kernel
theorem dX3_joined_0 : decode cX3_joined 0 = .ok (.iload_n 0, 1) := by decide +kernel
theorem dX3_joined_1 : decode cX3_joined 1 = .ok (.lookupswitch 148 #[(14, 120), (15, 134), (42, 75), (43, 79), (45, 83), (60, 87), (61, 109), (62, 98)], 75) := by decide +kernel
theorem dX3_joined_76 : decode cX3_joined 76 = .ok (.iload_n 1, 1) := by decide +kernel
theorem dX3_joined_77 : decode cX3_joined 77 = .ok (.iload_n 2, 1) := by decide +kernel
theorem dX3_joined_78 : decode cX3_joined 78 = .ok (.imul, 1) := by decide +kernel
theorem dX3_joined_79 : decode cX3_joined 79 = .ok (.ireturn, 1) := by decide +kernel
theorem dX3_joined_80 : decode cX3_joined 80 = .ok (.iload_n 1, 1) := by decide +kernel
theorem dX3_joined_81 : decode cX3_joined 81 = .ok (.iload_n 2, 1) := by decide +kernel
theorem dX3_joined_82 : decode cX3_joined 82 = .ok (.iadd, 1) := by decide +kernel
theorem dX3_joined_83 : decode cX3_joined 83 = .ok (.ireturn, 1) := by decide +kernel
theorem dX3_joined_84 : decode cX3_joined 84 = .ok (.iload_n 1, 1) := by decide +kernel
theorem dX3_joined_85 : decode cX3_joined 85 = .ok (.iload_n 2, 1) := by decide +kernel
theorem dX3_joined_86 : decode cX3_joined 86 = .ok (.isub, 1) := by decide +kernel
theorem dX3_joined_87 : decode cX3_joined 87 = .ok (.ireturn, 1) := by decide +kernel
theorem dX3_joined_88 : decode cX3_joined 88 = .ok (.iload_n 1, 1) := by decide +kernel
theorem dX3_joined_89 : decode cX3_joined 89 = .ok (.iload_n 2, 1) := by decide +kernel
theorem dX3_joined_90 : decode cX3_joined 90 = .ok (.if_icmp .ge 7, 3) := by decide +kernel
theorem dX3_joined_93 : decode cX3_joined 93 = .ok (.iconst 1, 1) := by decide +kernel
theorem dX3_joined_94 : decode cX3_joined 94 = .ok (.goto 4, 3) := by decide +kernel
theorem dX3_joined_97 : decode cX3_joined 97 = .ok (.iconst 0, 1) := by decide +kernel
theorem dX3_joined_98 : decode cX3_joined 98 = .ok (.ireturn, 1) := by decide +kernel
theorem dX3_joined_99 : decode cX3_joined 99 = .ok (.iload_n 1, 1) := by decide +kernel
theorem dX3_joined_100 : decode cX3_joined 100 = .ok (.iload_n 2, 1) := by decide +kernel
theorem dX3_joined_101 : decode cX3_joined 101 = .ok (.if_icmp .le 7, 3) := by decide +kernel
theorem dX3_joined_104 : decode cX3_joined 104 = .ok (.iconst 1, 1) := by decide +kernel
theorem dX3_joined_105 : decode cX3_joined 105 = .ok (.goto 4, 3) := by decide +kernel
theorem dX3_joined_108 : decode cX3_joined 108 = .ok (.iconst 0, 1) := by decide +kernel
theorem dX3_joined_109 : decode cX3_joined 109 = .ok (.ireturn, 1) := by decide +kernel
theorem dX3_joined_110 : decode cX3_joined 110 = .ok (.iload_n 1, 1) := by decide +kernel
theorem dX3_joined_111 : decode cX3_joined 111 = .ok (.iload_n 2, 1) := by decide +kernel
theorem dX3_joined_112 : decode cX3_joined 112 = .ok (.if_icmp .ne 7, 3) := by decide +kernel
theorem dX3_joined_115 : decode cX3_joined 115 = .ok (.iconst 1, 1) := by decide +kernel
theorem dX3_joined_116 : decode cX3_joined 116 = .ok (.goto 4, 3) := by decide +kernel
theorem dX3_joined_119 : decode cX3_joined 119 = .ok (.iconst 0, 1) := by decide +kernel
theorem dX3_joined_120 : decode cX3_joined 120 = .ok (.ireturn, 1) := by decide +kernel
theorem dX3_joined_121 : decode cX3_joined 121 = .ok (.iload_n 1, 1) := by decide +kernel
theorem dX3_joined_122 : decode cX3_joined 122 = .ok (.ifCond .eq 11, 3) := by decide +kernel
theorem dX3_joined_125 : decode cX3_joined 125 = .ok (.iload_n 2, 1) := by decide +kernel
theorem dX3_joined_126 : decode cX3_joined 126 = .ok (.ifCond .eq 7, 3) := by decide +kernel
theorem dX3_joined_129 : decode cX3_joined 129 = .ok (.iconst 1, 1) := by decide +kernel
theorem dX3_joined_130 : decode cX3_joined 130 = .ok (.goto 4, 3) := by decide +kernel
theorem dX3_joined_133 : decode cX3_joined 133 = .ok (.iconst 0, 1) := by decide +kernel
theorem dX3_joined_134 : decode cX3_joined 134 = .ok (.ireturn, 1) := by decide +kernel
theorem dX3_joined_135 : decode cX3_joined 135 = .ok (.iload_n 1, 1) := by decide +kernel
theorem dX3_joined_136 : decode cX3_joined 136 = .ok (.ifCond .ne 7, 3) := by decide +kernel
theorem dX3_joined_139 : decode cX3_joined 139 = .ok (.iload_n 2, 1) := by decide +kernel
theorem dX3_joined_140 : decode cX3_joined 140 = .ok (.ifCond .eq 7, 3) := by decide +kernel
theorem dX3_joined_143 : decode cX3_joined 143 = .ok (.iconst 1, 1) := by decide +kernel
theorem dX3_joined_144 : decode cX3_joined 144 = .ok (.goto 4, 3) := by decide +kernel
theorem dX3_joined_147 : decode cX3_joined 147 = .ok (.iconst 0, 1) := by decide +kernel
theorem dX3_joined_148 : decode cX3_joined 148 = .ok (.ireturn, 1) := by decide +kernel
theorem dX3_joined_149 : decode cX3_joined 149 = .ok (.iconst 0, 1) := by decide +kernel
theorem dX3_joined_150 : decode cX3_joined 150 = .ok (.ireturn, 1) := by decide +kernel
theorem dX4_init_0 : decode cX4_init 0 = .ok (.aload_n 0, 1) := by decide +kernel
theorem dX4_init_1 : decode cX4_init 1 = .ok (.invokespecial 3, 3) := by decide +kernel
theorem dX4_init_4 : decode cX4_init 4 = .ok (.aload_n 0, 1) := by decide +kernel
theorem dX4_init_5 : decode cX4_init 5 = .ok (.bipush 8, 2) := by decide +kernel
theorem dX4_init_7 : decode cX4_init 7 = .ok (.newarray .int, 2) := by decide +kernel
theorem dX4_init_9 : decode cX4_init 9 = .ok (.putfield 11, 3) := by decide +kernel
theorem dX4_init_12 : decode cX4_init 12 = .ok (.aload_n 0, 1) := by decide +kernel
theorem dX4_init_13 : decode cX4_init 13 = .ok (.bipush 8, 2) := by decide +kernel
theorem dX4_init_15 : decode cX4_init 15 = .ok (.newarray .int, 2) := by decide +kernel
theorem dX4_init_17 : decode cX4_init 17 = .ok (.putfield 15, 3) := by decide +kernel
theorem dX4_init_20 : decode cX4_init 20 = .ok (.aload_n 0, 1) := by decide +kernel
theorem dX4_init_21 : decode cX4_init 21 = .ok (.bipush 12, 2) := by decide +kernel
theorem dX4_init_23 : decode cX4_init 23 = .ok (.bipush 32, 2) := by decide +kernel
theorem dX4_init_25 : decode cX4_init 25 = .ok (.multianewarray 18 2, 4) := by decide +kernel
theorem dX4_init_29 : decode cX4_init 29 = .ok (.putfield 20, 3) := by decide +kernel
theorem dX4_init_32 : decode cX4_init 32 = .ok (.aload_n 0, 1) := by decide +kernel
theorem dX4_init_33 : decode cX4_init 33 = .ok (.bipush 12, 2) := by decide +kernel
theorem dX4_init_35 : decode cX4_init 35 = .ok (.newarray .int, 2) := by decide +kernel
theorem dX4_init_37 : decode cX4_init 37 = .ok (.putfield 23, 3) := by decide +kernel
theorem dX4_init_40 : decode cX4_init 40 = .ok (.aload_n 0, 1) := by decide +kernel
theorem dX4_init_41 : decode cX4_init 41 = .ok (.bipush 12, 2) := by decide +kernel
theorem dX4_init_43 : decode cX4_init 43 = .ok (.newarray .int, 2) := by decide +kernel
theorem dX4_init_45 : decode cX4_init 45 = .ok (.putfield 26, 3) := by decide +kernel
theorem dX4_init_48 : decode cX4_init 48 = .ok (.aload_n 0, 1) := by decide +kernel
theorem dX4_init_49 : decode cX4_init 49 = .ok (.bipush 12, 2) := by decide +kernel
theorem dX4_init_51 : decode cX4_init 51 = .ok (.newarray .int, 2) := by decide +kernel
theorem dX4_init_53 : decode cX4_init 53 = .ok (.putfield 29, 3) := by decide +kernel
theorem dX4_init_56 : decode cX4_init 56 = .ok (.aload_n 0, 1) := by decide +kernel
theorem dX4_init_57 : decode cX4_init 57 = .ok (.bipush 12, 2) := by decide +kernel
theorem dX4_init_59 : decode cX4_init 59 = .ok (.newarray .int, 2) := by decide +kernel
theorem dX4_init_61 : decode cX4_init 61 = .ok (.putfield 32, 3) := by decide +kernel
theorem dX4_init_64 : decode cX4_init 64 = .ok (.aload_n 0, 1) := by decide +kernel
theorem dX4_init_65 : decode cX4_init 65 = .ok (.bipush 12, 2) := by decide +kernel
theorem dX4_init_67 : decode cX4_init 67 = .ok (.newarray .boolean, 2) := by decide +kernel
theorem dX4_init_69 : decode cX4_init 69 = .ok (.putfield 35, 3) := by decide +kernel
theorem dX4_init_72 : decode cX4_init 72 = .ok (.aload_n 0, 1) := by decide +kernel
theorem dX4_init_73 : decode cX4_init 73 = .ok (.iconst 4, 1) := by decide +kernel
theorem dX4_init_74 : decode cX4_init 74 = .ok (.newarray .int, 2) := by decide +kernel
theorem dX4_init_76 : decode cX4_init 76 = .ok (.putfield 39, 3) := by decide +kernel
theorem dX4_init_79 : decode cX4_init 79 = .ok (.aload_n 0, 1) := by decide +kernel
theorem dX4_init_80 : decode cX4_init 80 = .ok (.iconst 4, 1) := by decide +kernel
theorem dX4_init_81 : decode cX4_init 81 = .ok (.newarray .int, 2) := by decide +kernel
theorem dX4_init_83 : decode cX4_init 83 = .ok (.putfield 42, 3) := by decide +kernel
theorem dX4_init_86 : decode cX4_init 86 = .ok (.aload_n 0, 1) := by decide +kernel
theorem dX4_init_87 : decode cX4_init 87 = .ok (.aload_n 1, 1) := by decide +kernel
theorem dX4_init_88 : decode cX4_init 88 = .ok (.putfield 45, 3) := by decide +kernel
theorem dX4_init_91 : decode cX4_init 91 = .ok (.aload_n 0, 1) := by decide +kernel
theorem dX4_init_92 : decode cX4_init 92 = .ok (.bipush 10, 2) := by decide +kernel
theorem dX4_init_94 : decode cX4_init 94 = .ok (.putfield 48, 3) := by decide +kernel
theorem dX4_init_97 : decode cX4_init 97 = .ok (.aload_n 0, 1) := by decide +kernel
theorem dX4_init_98 : decode cX4_init 98 = .ok (.bipush 10, 2) := by decide +kernel
theorem dX4_init_100 : decode cX4_init 100 = .ok (.putfield 52, 3) := by decide +kernel
theorem dX4_init_103 : decode cX4_init 103 = .ok (.return_, 1) := by decide +kernel
theorem dX4_clear_0 : decode cX4_clear 0 = .ok (.aload_n 0, 1) := by decide +kernel
theorem dX4_clear_1 : decode cX4_clear 1 = .ok (.iconst 0, 1) := by decide +kernel
theorem dX4_clear_2 : decode cX4_clear 2 = .ok (.putfield 55, 3) := by decide +kernel
theorem dX4_clear_5 : decode cX4_clear 5 = .ok (.aload_n 0, 1) := by decide +kernel
theorem dX4_clear_6 : decode cX4_clear 6 = .ok (.iconst 0, 1) := by decide +kernel
theorem dX4_clear_7 : decode cX4_clear 7 = .ok (.putfield 58, 3) := by decide +kernel
theorem dX4_clear_10 : decode cX4_clear 10 = .ok (.aload_n 0, 1) := by decide +kernel
theorem dX4_clear_11 : decode cX4_clear 11 = .ok (.iconst 0, 1) := by decide +kernel
theorem dX4_clear_12 : decode cX4_clear 12 = .ok (.putfield 61, 3) := by decide +kernel
theorem dX4_clear_15 : decode cX4_clear 15 = .ok (.aload_n 0, 1) := by decide +kernel
theorem dX4_clear_16 : decode cX4_clear 16 = .ok (.bipush 10, 2) := by decide +kernel
theorem dX4_clear_18 : decode cX4_clear 18 = .ok (.putfield 48, 3) := by decide +kernel
theorem dX4_clear_21 : decode cX4_clear 21 = .ok (.aload_n 0, 1) := by decide +kernel
theorem dX4_clear_22 : decode cX4_clear 22 = .ok (.bipush 10, 2) := by decide +kernel
theorem dX4_clear_24 : decode cX4_clear 24 = .ok (.putfield 52, 3) := by decide +kernel
theorem dX4_clear_27 : decode cX4_clear 27 = .ok (.aload_n 0, 1) := by decide +kernel
theorem dX4_clear_28 : decode cX4_clear 28 = .ok (.iconst 0, 1) := by decide +kernel
theorem dX4_clear_29 : decode cX4_clear 29 = .ok (.putfield 64, 3) := by decide +kernel
theorem dX4_clear_32 : decode cX4_clear 32 = .ok (.return_, 1) := by decide +kernel
theorem dX4_isWork_0 : decode cX4_isWork 0 = .ok (.iload_n 1, 1) := by decide +kernel
theorem dX4_isWork_1 : decode cX4_isWork 1 = .ok (.ifCond .lt 15, 3) := by decide +kernel
theorem dX4_isWork_4 : decode cX4_isWork 4 = .ok (.iload_n 1, 1) := by decide +kernel
theorem dX4_isWork_5 : decode cX4_isWork 5 = .ok (.aload_n 0, 1) := by decide +kernel
theorem dX4_isWork_6 : decode cX4_isWork 6 = .ok (.getfield 55, 3) := by decide +kernel
theorem dX4_isWork_9 : decode cX4_isWork 9 = .ok (.if_icmp .ge 7, 3) := by decide +kernel
theorem dX4_isWork_12 : decode cX4_isWork 12 = .ok (.iconst 1, 1) := by decide +kernel
theorem dX4_isWork_13 : decode cX4_isWork 13 = .ok (.goto 4, 3) := by decide +kernel
theorem dX4_isWork_16 : decode cX4_isWork 16 = .ok (.iconst 0, 1) := by decide +kernel
theorem dX4_isWork_17 : decode cX4_isWork 17 = .ok (.ireturn, 1) := by decide +kernel
theorem dX4_isPart_0 : decode cX4_isPart 0 = .ok (.iload_n 1, 1) := by decide +kernel
theorem dX4_isPart_1 : decode cX4_isPart 1 = .ok (.ifCond .lt 15, 3) := by decide +kernel
theorem dX4_isPart_4 : decode cX4_isPart 4 = .ok (.iload_n 1, 1) := by decide +kernel
theorem dX4_isPart_5 : decode cX4_isPart 5 = .ok (.aload_n 0, 1) := by decide +kernel
theorem dX4_isPart_6 : decode cX4_isPart 6 = .ok (.getfield 58, 3) := by decide +kernel
theorem dX4_isPart_9 : decode cX4_isPart 9 = .ok (.if_icmp .ge 7, 3) := by decide +kernel
theorem dX4_isPart_12 : decode cX4_isPart 12 = .ok (.iconst 1, 1) := by decide +kernel
theorem dX4_isPart_13 : decode cX4_isPart 13 = .ok (.goto 4, 3) := by decide +kernel
theorem dX4_isPart_16 : decode cX4_isPart 16 = .ok (.iconst 0, 1) := by decide +kernel
theorem dX4_isPart_17 : decode cX4_isPart 17 = .ok (.ireturn, 1) := by decide +kernel
theorem dX4_isNote_0 : decode cX4_isNote 0 = .ok (.aload_n 0, 1) := by decide +kernel
theorem dX4_isNote_1 : decode cX4_isNote 1 = .ok (.iload_n 1, 1) := by decide +kernel
theorem dX4_isNote_2 : decode cX4_isNote 2 = .ok (.invokevirtual 67, 3) := by decide +kernel
theorem dX4_isNote_5 : decode cX4_isNote 5 = .ok (.ifCond .eq 16, 3) := by decide +kernel
theorem dX4_isNote_8 : decode cX4_isNote 8 = .ok (.aload_n 0, 1) := by decide +kernel
theorem dX4_isNote_9 : decode cX4_isNote 9 = .ok (.getfield 35, 3) := by decide +kernel
theorem dX4_isNote_12 : decode cX4_isNote 12 = .ok (.iload_n 1, 1) := by decide +kernel
theorem dX4_isNote_13 : decode cX4_isNote 13 = .ok (.baload, 1) := by decide +kernel
theorem dX4_isNote_14 : decode cX4_isNote 14 = .ok (.ifCond .eq 7, 3) := by decide +kernel
theorem dX4_isNote_17 : decode cX4_isNote 17 = .ok (.iconst 1, 1) := by decide +kernel
theorem dX4_isNote_18 : decode cX4_isNote 18 = .ok (.goto 4, 3) := by decide +kernel
theorem dX4_isNote_21 : decode cX4_isNote 21 = .ok (.iconst 0, 1) := by decide +kernel
theorem dX4_isNote_22 : decode cX4_isNote 22 = .ok (.ireturn, 1) := by decide +kernel
theorem dX4_seatOf_0 : decode cX4_seatOf 0 = .ok (.iload_n 1, 1) := by decide +kernel
theorem dX4_seatOf_1 : decode cX4_seatOf 1 = .ok (.aload_n 0, 1) := by decide +kernel
theorem dX4_seatOf_2 : decode cX4_seatOf 2 = .ok (.getfield 39, 3) := by decide +kernel
theorem dX4_seatOf_5 : decode cX4_seatOf 5 = .ok (.aload_n 0, 1) := by decide +kernel
theorem dX4_seatOf_6 : decode cX4_seatOf 6 = .ok (.getfield 23, 3) := by decide +kernel
theorem dX4_seatOf_9 : decode cX4_seatOf 9 = .ok (.iload_n 1, 1) := by decide +kernel
theorem dX4_seatOf_10 : decode cX4_seatOf 10 = .ok (.iaload, 1) := by decide +kernel
theorem dX4_seatOf_11 : decode cX4_seatOf 11 = .ok (.iaload, 1) := by decide +kernel
theorem dX4_seatOf_12 : decode cX4_seatOf 12 = .ok (.isub, 1) := by decide +kernel
theorem dX4_seatOf_13 : decode cX4_seatOf 13 = .ok (.ireturn, 1) := by decide +kernel
theorem dX4_stepAt_0 : decode cX4_stepAt 0 = .ok (.iload_n 2, 1) := by decide +kernel
theorem dX4_stepAt_1 : decode cX4_stepAt 1 = .ok (.iconst 1, 1) := by decide +kernel
theorem dX4_stepAt_2 : decode cX4_stepAt 2 = .ok (.if_icmp .lt 13, 3) := by decide +kernel
theorem dX4_stepAt_5 : decode cX4_stepAt 5 = .ok (.iload_n 2, 1) := by decide +kernel
theorem dX4_stepAt_6 : decode cX4_stepAt 6 = .ok (.aload_n 0, 1) := by decide +kernel
theorem dX4_stepAt_7 : decode cX4_stepAt 7 = .ok (.getfield 26, 3) := by decide +kernel
theorem dX4_stepAt_10 : decode cX4_stepAt 10 = .ok (.iload_n 1, 1) := by decide +kernel
theorem dX4_stepAt_11 : decode cX4_stepAt 11 = .ok (.iaload, 1) := by decide +kernel
theorem dX4_stepAt_12 : decode cX4_stepAt 12 = .ok (.if_icmp .le 5, 3) := by decide +kernel
theorem dX4_stepAt_15 : decode cX4_stepAt 15 = .ok (.iconst (-1), 1) := by decide +kernel
theorem dX4_stepAt_16 : decode cX4_stepAt 16 = .ok (.ireturn, 1) := by decide +kernel
theorem dX4_stepAt_17 : decode cX4_stepAt 17 = .ok (.aload_n 0, 1) := by decide +kernel
theorem dX4_stepAt_18 : decode cX4_stepAt 18 = .ok (.getfield 20, 3) := by decide +kernel
theorem dX4_stepAt_21 : decode cX4_stepAt 21 = .ok (.iload_n 1, 1) := by decide +kernel
theorem dX4_stepAt_22 : decode cX4_stepAt 22 = .ok (.aaload, 1) := by decide +kernel
theorem dX4_stepAt_23 : decode cX4_stepAt 23 = .ok (.iload_n 2, 1) := by decide +kernel
theorem dX4_stepAt_24 : decode cX4_stepAt 24 = .ok (.iconst 1, 1) := by decide +kernel
theorem dX4_stepAt_25 : decode cX4_stepAt 25 = .ok (.isub, 1) := by decide +kernel
theorem dX4_stepAt_26 : decode cX4_stepAt 26 = .ok (.iaload, 1) := by decide +kernel
theorem dX4_stepAt_27 : decode cX4_stepAt 27 = .ok (.istore 4, 2) := by decide +kernel
theorem dX4_stepAt_29 : decode cX4_stepAt 29 = .ok (.aload_n 0, 1) := by decide +kernel
theorem dX4_stepAt_30 : decode cX4_stepAt 30 = .ok (.getfield 35, 3) := by decide +kernel
theorem dX4_stepAt_33 : decode cX4_stepAt 33 = .ok (.iload_n 1, 1) := by decide +kernel
theorem dX4_stepAt_34 : decode cX4_stepAt 34 = .ok (.baload, 1) := by decide +kernel
theorem dX4_stepAt_35 : decode cX4_stepAt 35 = .ok (.ifCond .eq 15, 3) := by decide +kernel
theorem dX4_stepAt_38 : decode cX4_stepAt 38 = .ok (.aload_n 0, 1) := by decide +kernel
theorem dX4_stepAt_39 : decode cX4_stepAt 39 = .ok (.getfield 45, 3) := by decide +kernel
theorem dX4_stepAt_42 : decode cX4_stepAt 42 = .ok (.iload_n 3, 1) := by decide +kernel
theorem dX4_stepAt_43 : decode cX4_stepAt 43 = .ok (.aaload, 1) := by decide +kernel
theorem dX4_stepAt_44 : decode cX4_stepAt 44 = .ok (.iload 4, 2) := by decide +kernel
theorem dX4_stepAt_46 : decode cX4_stepAt 46 = .ok (.iaload, 1) := by decide +kernel
theorem dX4_stepAt_47 : decode cX4_stepAt 47 = .ok (.goto 5, 3) := by decide +kernel
theorem dX4_stepAt_50 : decode cX4_stepAt 50 = .ok (.iload 4, 2) := by decide +kernel
theorem dX4_stepAt_52 : decode cX4_stepAt 52 = .ok (.ireturn, 1) := by decide +kernel
theorem dX4_placeBehind_0 : decode cX4_placeBehind 0 = .ok (.aload_n 0, 1) := by decide +kernel
theorem dX4_placeBehind_1 : decode cX4_placeBehind 1 = .ok (.getfield 29, 3) := by decide +kernel
theorem dX4_placeBehind_4 : decode cX4_placeBehind 4 = .ok (.iload_n 1, 1) := by decide +kernel
theorem dX4_placeBehind_5 : decode cX4_placeBehind 5 = .ok (.iaload, 1) := by decide +kernel
theorem dX4_placeBehind_6 : decode cX4_placeBehind 6 = .ok (.istore 4, 2) := by decide +kernel
theorem dX4_placeBehind_8 : decode cX4_placeBehind 8 = .ok (.aload_n 0, 1) := by decide +kernel
theorem dX4_placeBehind_9 : decode cX4_placeBehind 9 = .ok (.getfield 32, 3) := by decide +kernel
theorem dX4_placeBehind_12 : decode cX4_placeBehind 12 = .ok (.iload_n 1, 1) := by decide +kernel
theorem dX4_placeBehind_13 : decode cX4_placeBehind 13 = .ok (.iaload, 1) := by decide +kernel
theorem dX4_placeBehind_14 : decode cX4_placeBehind 14 = .ok (.istore 5, 2) := by decide +kernel
theorem dX4_placeBehind_16 : decode cX4_placeBehind 16 = .ok (.iconst 1, 1) := by decide +kernel
theorem dX4_placeBehind_17 : decode cX4_placeBehind 17 = .ok (.istore 6, 2) := by decide +kernel
theorem dX4_placeBehind_19 : decode cX4_placeBehind 19 = .ok (.iload 6, 2) := by decide +kernel
theorem dX4_placeBehind_21 : decode cX4_placeBehind 21 = .ok (.iload_n 2, 1) := by decide +kernel
theorem dX4_placeBehind_22 : decode cX4_placeBehind 22 = .ok (.if_icmp .gt 52, 3) := by decide +kernel
theorem dX4_placeBehind_25 : decode cX4_placeBehind 25 = .ok (.iload 6, 2) := by decide +kernel
theorem dX4_placeBehind_27 : decode cX4_placeBehind 27 = .ok (.aload_n 0, 1) := by decide +kernel
theorem dX4_placeBehind_28 : decode cX4_placeBehind 28 = .ok (.getfield 26, 3) := by decide +kernel
theorem dX4_placeBehind_31 : decode cX4_placeBehind 31 = .ok (.iload_n 1, 1) := by decide +kernel
theorem dX4_placeBehind_32 : decode cX4_placeBehind 32 = .ok (.iaload, 1) := by decide +kernel
theorem dX4_placeBehind_33 : decode cX4_placeBehind 33 = .ok (.if_icmp .gt 41, 3) := by decide +kernel
theorem dX4_placeBehind_36 : decode cX4_placeBehind 36 = .ok (.aload_n 0, 1) := by decide +kernel
theorem dX4_placeBehind_37 : decode cX4_placeBehind 37 = .ok (.iload_n 1, 1) := by decide +kernel
theorem dX4_placeBehind_38 : decode cX4_placeBehind 38 = .ok (.iload 6, 2) := by decide +kernel
theorem dX4_placeBehind_40 : decode cX4_placeBehind 40 = .ok (.iload_n 3, 1) := by decide +kernel
theorem dX4_placeBehind_41 : decode cX4_placeBehind 41 = .ok (.invokevirtual 71, 3) := by decide +kernel
theorem dX4_placeBehind_44 : decode cX4_placeBehind 44 = .ok (.istore 7, 2) := by decide +kernel
theorem dX4_placeBehind_46 : decode cX4_placeBehind 46 = .ok (.iload 4, 2) := by decide +kernel
theorem dX4_placeBehind_48 : decode cX4_placeBehind 48 = .ok (.getstatic 75, 3) := by decide +kernel
theorem dX4_placeBehind_51 : decode cX4_placeBehind 51 = .ok (.iload 7, 2) := by decide +kernel
theorem dX4_placeBehind_53 : decode cX4_placeBehind 53 = .ok (.iaload, 1) := by decide +kernel
theorem dX4_placeBehind_54 : decode cX4_placeBehind 54 = .ok (.iadd, 1) := by decide +kernel
theorem dX4_placeBehind_55 : decode cX4_placeBehind 55 = .ok (.istore 4, 2) := by decide +kernel
theorem dX4_placeBehind_57 : decode cX4_placeBehind 57 = .ok (.iload 5, 2) := by decide +kernel
theorem dX4_placeBehind_59 : decode cX4_placeBehind 59 = .ok (.getstatic 78, 3) := by decide +kernel
theorem dX4_placeBehind_62 : decode cX4_placeBehind 62 = .ok (.iload 7, 2) := by decide +kernel
theorem dX4_placeBehind_64 : decode cX4_placeBehind 64 = .ok (.iaload, 1) := by decide +kernel
theorem dX4_placeBehind_65 : decode cX4_placeBehind 65 = .ok (.iadd, 1) := by decide +kernel
theorem dX4_placeBehind_66 : decode cX4_placeBehind 66 = .ok (.istore 5, 2) := by decide +kernel
theorem dX4_placeBehind_68 : decode cX4_placeBehind 68 = .ok (.iinc 6 1, 3) := by decide +kernel
theorem dX4_placeBehind_71 : decode cX4_placeBehind 71 = .ok (.goto (-52), 3) := by decide +kernel
theorem dX4_placeBehind_74 : decode cX4_placeBehind 74 = .ok (.sipush 1000, 3) := by decide +kernel
theorem dX4_placeBehind_77 : decode cX4_placeBehind 77 = .ok (.iload 4, 2) := by decide +kernel
theorem dX4_placeBehind_79 : decode cX4_placeBehind 79 = .ok (.bipush 100, 2) := by decide +kernel
theorem dX4_placeBehind_81 : decode cX4_placeBehind 81 = .ok (.iadd, 1) := by decide +kernel
theorem dX4_placeBehind_82 : decode cX4_placeBehind 82 = .ok (.imul, 1) := by decide +kernel
theorem dX4_placeBehind_83 : decode cX4_placeBehind 83 = .ok (.iload 5, 2) := by decide +kernel
theorem dX4_placeBehind_85 : decode cX4_placeBehind 85 = .ok (.iadd, 1) := by decide +kernel
theorem dX4_placeBehind_86 : decode cX4_placeBehind 86 = .ok (.bipush 100, 2) := by decide +kernel
theorem dX4_placeBehind_88 : decode cX4_placeBehind 88 = .ok (.iadd, 1) := by decide +kernel
theorem dX4_placeBehind_89 : decode cX4_placeBehind 89 = .ok (.ireturn, 1) := by decide +kernel
theorem dX4_loadOf_0 : decode cX4_loadOf 0 = .ok (.aload_n 0, 1) := by decide +kernel
theorem dX4_loadOf_1 : decode cX4_loadOf 1 = .ok (.getfield 26, 3) := by decide +kernel
theorem dX4_loadOf_4 : decode cX4_loadOf 4 = .ok (.iload_n 1, 1) := by decide +kernel
theorem dX4_loadOf_5 : decode cX4_loadOf 5 = .ok (.iaload, 1) := by decide +kernel
theorem dX4_loadOf_6 : decode cX4_loadOf 6 = .ok (.aload_n 0, 1) := by decide +kernel
theorem dX4_loadOf_7 : decode cX4_loadOf 7 = .ok (.getfield 64, 3) := by decide +kernel
theorem dX4_loadOf_10 : decode cX4_loadOf 10 = .ok (.imul, 1) := by decide +kernel
theorem dX4_loadOf_11 : decode cX4_loadOf 11 = .ok (.iconst 4, 1) := by decide +kernel
theorem dX4_loadOf_12 : decode cX4_loadOf 12 = .ok (.idiv, 1) := by decide +kernel
theorem dX4_loadOf_13 : decode cX4_loadOf 13 = .ok (.istore_n 3, 1) := by decide +kernel
theorem dX4_loadOf_14 : decode cX4_loadOf 14 = .ok (.iconst 1, 1) := by decide +kernel
theorem dX4_loadOf_15 : decode cX4_loadOf 15 = .ok (.istore 4, 2) := by decide +kernel
theorem dX4_loadOf_17 : decode cX4_loadOf 17 = .ok (.iload 4, 2) := by decide +kernel
theorem dX4_loadOf_19 : decode cX4_loadOf 19 = .ok (.aload_n 0, 1) := by decide +kernel
theorem dX4_loadOf_20 : decode cX4_loadOf 20 = .ok (.getfield 26, 3) := by decide +kernel
theorem dX4_loadOf_23 : decode cX4_loadOf 23 = .ok (.iload_n 1, 1) := by decide +kernel
theorem dX4_loadOf_24 : decode cX4_loadOf 24 = .ok (.iaload, 1) := by decide +kernel
theorem dX4_loadOf_25 : decode cX4_loadOf 25 = .ok (.if_icmp .gt 40, 3) := by decide +kernel
theorem dX4_loadOf_28 : decode cX4_loadOf 28 = .ok (.aload_n 0, 1) := by decide +kernel
theorem dX4_loadOf_29 : decode cX4_loadOf 29 = .ok (.iload_n 1, 1) := by decide +kernel
theorem dX4_loadOf_30 : decode cX4_loadOf 30 = .ok (.iload 4, 2) := by decide +kernel
theorem dX4_loadOf_32 : decode cX4_loadOf 32 = .ok (.iload_n 2, 1) := by decide +kernel
theorem dX4_loadOf_33 : decode cX4_loadOf 33 = .ok (.invokevirtual 71, 3) := by decide +kernel
theorem dX4_loadOf_36 : decode cX4_loadOf 36 = .ok (.istore 5, 2) := by decide +kernel
theorem dX4_loadOf_38 : decode cX4_loadOf 38 = .ok (.iload 5, 2) := by decide +kernel
theorem dX4_loadOf_40 : decode cX4_loadOf 40 = .ok (.iconst 5, 1) := by decide +kernel
theorem dX4_loadOf_41 : decode cX4_loadOf 41 = .ok (.if_icmp .ne 9, 3) := by decide +kernel
theorem dX4_loadOf_44 : decode cX4_loadOf 44 = .ok (.iinc 3 3, 3) := by decide +kernel
theorem dX4_loadOf_47 : decode cX4_loadOf 47 = .ok (.goto 12, 3) := by decide +kernel
theorem dX4_loadOf_50 : decode cX4_loadOf 50 = .ok (.iload 5, 2) := by decide +kernel
theorem dX4_loadOf_52 : decode cX4_loadOf 52 = .ok (.iconst 4, 1) := by decide +kernel
theorem dX4_loadOf_53 : decode cX4_loadOf 53 = .ok (.if_icmp .eq 6, 3) := by decide +kernel
theorem dX4_loadOf_56 : decode cX4_loadOf 56 = .ok (.iinc 3 1, 3) := by decide +kernel
theorem dX4_loadOf_59 : decode cX4_loadOf 59 = .ok (.iinc 4 1, 3) := by decide +kernel
theorem dX4_loadOf_62 : decode cX4_loadOf 62 = .ok (.goto (-45), 3) := by decide +kernel
theorem dX4_loadOf_65 : decode cX4_loadOf 65 = .ok (.iload_n 3, 1) := by decide +kernel
theorem dX4_loadOf_66 : decode cX4_loadOf 66 = .ok (.ireturn, 1) := by decide +kernel
theorem dX4_likeness_0 : decode cX4_likeness 0 = .ok (.iconst 0, 1) := by decide +kernel
theorem dX4_likeness_1 : decode cX4_likeness 1 = .ok (.istore 4, 2) := by decide +kernel
theorem dX4_likeness_3 : decode cX4_likeness 3 = .ok (.iconst 1, 1) := by decide +kernel
theorem dX4_likeness_4 : decode cX4_likeness 4 = .ok (.istore 5, 2) := by decide +kernel
theorem dX4_likeness_6 : decode cX4_likeness 6 = .ok (.iload 5, 2) := by decide +kernel
theorem dX4_likeness_8 : decode cX4_likeness 8 = .ok (.aload_n 0, 1) := by decide +kernel
theorem dX4_likeness_9 : decode cX4_likeness 9 = .ok (.getfield 26, 3) := by decide +kernel
theorem dX4_likeness_12 : decode cX4_likeness 12 = .ok (.iload_n 1, 1) := by decide +kernel
theorem dX4_likeness_13 : decode cX4_likeness 13 = .ok (.iaload, 1) := by decide +kernel
theorem dX4_likeness_14 : decode cX4_likeness 14 = .ok (.if_icmp .gt 42, 3) := by decide +kernel
theorem dX4_likeness_17 : decode cX4_likeness 17 = .ok (.iload 5, 2) := by decide +kernel
theorem dX4_likeness_19 : decode cX4_likeness 19 = .ok (.aload_n 0, 1) := by decide +kernel
theorem dX4_likeness_20 : decode cX4_likeness 20 = .ok (.getfield 26, 3) := by decide +kernel
theorem dX4_likeness_23 : decode cX4_likeness 23 = .ok (.iload_n 2, 1) := by decide +kernel
theorem dX4_likeness_24 : decode cX4_likeness 24 = .ok (.iaload, 1) := by decide +kernel
theorem dX4_likeness_25 : decode cX4_likeness 25 = .ok (.if_icmp .gt 31, 3) := by decide +kernel
theorem dX4_likeness_28 : decode cX4_likeness 28 = .ok (.aload_n 0, 1) := by decide +kernel
theorem dX4_likeness_29 : decode cX4_likeness 29 = .ok (.iload_n 1, 1) := by decide +kernel
theorem dX4_likeness_30 : decode cX4_likeness 30 = .ok (.iload 5, 2) := by decide +kernel
theorem dX4_likeness_32 : decode cX4_likeness 32 = .ok (.iload_n 3, 1) := by decide +kernel
theorem dX4_likeness_33 : decode cX4_likeness 33 = .ok (.invokevirtual 71, 3) := by decide +kernel
theorem dX4_likeness_36 : decode cX4_likeness 36 = .ok (.aload_n 0, 1) := by decide +kernel
theorem dX4_likeness_37 : decode cX4_likeness 37 = .ok (.iload_n 2, 1) := by decide +kernel
theorem dX4_likeness_38 : decode cX4_likeness 38 = .ok (.iload 5, 2) := by decide +kernel
theorem dX4_likeness_40 : decode cX4_likeness 40 = .ok (.iload_n 3, 1) := by decide +kernel
theorem dX4_likeness_41 : decode cX4_likeness 41 = .ok (.invokevirtual 71, 3) := by decide +kernel
theorem dX4_likeness_44 : decode cX4_likeness 44 = .ok (.if_icmp .ne 6, 3) := by decide +kernel
theorem dX4_likeness_47 : decode cX4_likeness 47 = .ok (.iinc 4 1, 3) := by decide +kernel
theorem dX4_likeness_50 : decode cX4_likeness 50 = .ok (.iinc 5 1, 3) := by decide +kernel
theorem dX4_likeness_53 : decode cX4_likeness 53 = .ok (.goto (-47), 3) := by decide +kernel
theorem dX4_likeness_56 : decode cX4_likeness 56 = .ok (.iload 4, 2) := by decide +kernel
theorem dX4_likeness_58 : decode cX4_likeness 58 = .ok (.ireturn, 1) := by decide +kernel
theorem dX4_firstMeeting_0 : decode cX4_firstMeeting 0 = .ok (.iconst 0, 1) := by decide +kernel
theorem dX4_firstMeeting_1 : decode cX4_firstMeeting 1 = .ok (.istore_n 3, 1) := by decide +kernel
theorem dX4_firstMeeting_2 : decode cX4_firstMeeting 2 = .ok (.iload_n 3, 1) := by decide +kernel
theorem dX4_firstMeeting_3 : decode cX4_firstMeeting 3 = .ok (.bipush 32, 2) := by decide +kernel
theorem dX4_firstMeeting_5 : decode cX4_firstMeeting 5 = .ok (.if_icmp .gt 31, 3) := by decide +kernel
theorem dX4_firstMeeting_8 : decode cX4_firstMeeting 8 = .ok (.aload_n 0, 1) := by decide +kernel
theorem dX4_firstMeeting_9 : decode cX4_firstMeeting 9 = .ok (.iload_n 1, 1) := by decide +kernel
theorem dX4_firstMeeting_10 : decode cX4_firstMeeting 10 = .ok (.iload_n 3, 1) := by decide +kernel
theorem dX4_firstMeeting_11 : decode cX4_firstMeeting 11 = .ok (.iload_n 2, 1) := by decide +kernel
theorem dX4_firstMeeting_12 : decode cX4_firstMeeting 12 = .ok (.invokevirtual 81, 3) := by decide +kernel
theorem dX4_firstMeeting_15 : decode cX4_firstMeeting 15 = .ok (.aload_n 0, 1) := by decide +kernel
theorem dX4_firstMeeting_16 : decode cX4_firstMeeting 16 = .ok (.aload_n 0, 1) := by decide +kernel
theorem dX4_firstMeeting_17 : decode cX4_firstMeeting 17 = .ok (.getfield 42, 3) := by decide +kernel
theorem dX4_firstMeeting_20 : decode cX4_firstMeeting 20 = .ok (.iload_n 1, 1) := by decide +kernel
theorem dX4_firstMeeting_21 : decode cX4_firstMeeting 21 = .ok (.iaload, 1) := by decide +kernel
theorem dX4_firstMeeting_22 : decode cX4_firstMeeting 22 = .ok (.invokevirtual 85, 3) := by decide +kernel
theorem dX4_firstMeeting_25 : decode cX4_firstMeeting 25 = .ok (.ifCond .eq 5, 3) := by decide +kernel
theorem dX4_firstMeeting_28 : decode cX4_firstMeeting 28 = .ok (.iload_n 3, 1) := by decide +kernel
theorem dX4_firstMeeting_29 : decode cX4_firstMeeting 29 = .ok (.ireturn, 1) := by decide +kernel
theorem dX4_firstMeeting_30 : decode cX4_firstMeeting 30 = .ok (.iinc 3 1, 3) := by decide +kernel
theorem dX4_firstMeeting_33 : decode cX4_firstMeeting 33 = .ok (.goto (-31), 3) := by decide +kernel
theorem dX4_firstMeeting_36 : decode cX4_firstMeeting 36 = .ok (.iconst (-1), 1) := by decide +kernel
theorem dX4_firstMeeting_37 : decode cX4_firstMeeting 37 = .ok (.ireturn, 1) := by decide +kernel
theorem dX4_firstBreak_0 : decode cX4_firstBreak 0 = .ok (.iconst 0, 1) := by decide +kernel
theorem dX4_firstBreak_1 : decode cX4_firstBreak 1 = .ok (.istore 5, 2) := by decide +kernel
theorem dX4_firstBreak_3 : decode cX4_firstBreak 3 = .ok (.iload 5, 2) := by decide +kernel
theorem dX4_firstBreak_5 : decode cX4_firstBreak 5 = .ok (.bipush 32, 2) := by decide +kernel
theorem dX4_firstBreak_7 : decode cX4_firstBreak 7 = .ok (.if_icmp .gt 36, 3) := by decide +kernel
theorem dX4_firstBreak_10 : decode cX4_firstBreak 10 = .ok (.aload_n 0, 1) := by decide +kernel
theorem dX4_firstBreak_11 : decode cX4_firstBreak 11 = .ok (.iload_n 1, 1) := by decide +kernel
theorem dX4_firstBreak_12 : decode cX4_firstBreak 12 = .ok (.iload 5, 2) := by decide +kernel
theorem dX4_firstBreak_14 : decode cX4_firstBreak 14 = .ok (.iload_n 2, 1) := by decide +kernel
theorem dX4_firstBreak_15 : decode cX4_firstBreak 15 = .ok (.invokevirtual 81, 3) := by decide +kernel
theorem dX4_firstBreak_18 : decode cX4_firstBreak 18 = .ok (.aload_n 0, 1) := by decide +kernel
theorem dX4_firstBreak_19 : decode cX4_firstBreak 19 = .ok (.aload_n 0, 1) := by decide +kernel
theorem dX4_firstBreak_20 : decode cX4_firstBreak 20 = .ok (.getfield 42, 3) := by decide +kernel
theorem dX4_firstBreak_23 : decode cX4_firstBreak 23 = .ok (.iload_n 1, 1) := by decide +kernel
theorem dX4_firstBreak_24 : decode cX4_firstBreak 24 = .ok (.iaload, 1) := by decide +kernel
theorem dX4_firstBreak_25 : decode cX4_firstBreak 25 = .ok (.iload_n 3, 1) := by decide +kernel
theorem dX4_firstBreak_26 : decode cX4_firstBreak 26 = .ok (.iload 4, 2) := by decide +kernel
theorem dX4_firstBreak_28 : decode cX4_firstBreak 28 = .ok (.invokevirtual 88, 3) := by decide +kernel
theorem dX4_firstBreak_31 : decode cX4_firstBreak 31 = .ok (.ifCond .eq 6, 3) := by decide +kernel
theorem dX4_firstBreak_34 : decode cX4_firstBreak 34 = .ok (.iload 5, 2) := by decide +kernel
theorem dX4_firstBreak_36 : decode cX4_firstBreak 36 = .ok (.ireturn, 1) := by decide +kernel
theorem dX4_firstBreak_37 : decode cX4_firstBreak 37 = .ok (.iinc 5 1, 3) := by decide +kernel
theorem dX4_firstBreak_40 : decode cX4_firstBreak 40 = .ok (.goto (-37), 3) := by decide +kernel
theorem dX4_firstBreak_43 : decode cX4_firstBreak 43 = .ok (.iconst (-1), 1) := by decide +kernel
theorem dX4_firstBreak_44 : decode cX4_firstBreak 44 = .ok (.ireturn, 1) := by decide +kernel
theorem dX4_walk_0 : decode cX4_walk 0 = .ok (.iconst 0, 1) := by decide +kernel
theorem dX4_walk_1 : decode cX4_walk 1 = .ok (.istore 4, 2) := by decide +kernel
theorem dX4_walk_3 : decode cX4_walk 3 = .ok (.iload 4, 2) := by decide +kernel
theorem dX4_walk_5 : decode cX4_walk 5 = .ok (.aload_n 0, 1) := by decide +kernel
theorem dX4_walk_6 : decode cX4_walk 6 = .ok (.getfield 42, 3) := by decide +kernel
theorem dX4_walk_9 : decode cX4_walk 9 = .ok (.iload_n 1, 1) := by decide +kernel
theorem dX4_walk_10 : decode cX4_walk 10 = .ok (.iaload, 1) := by decide +kernel
theorem dX4_walk_11 : decode cX4_walk 11 = .ok (.if_icmp .ge 108, 3) := by decide +kernel
theorem dX4_walk_14 : decode cX4_walk 14 = .ok (.aload_n 0, 1) := by decide +kernel
theorem dX4_walk_15 : decode cX4_walk 15 = .ok (.getfield 39, 3) := by decide +kernel
theorem dX4_walk_18 : decode cX4_walk 18 = .ok (.iload_n 1, 1) := by decide +kernel
theorem dX4_walk_19 : decode cX4_walk 19 = .ok (.iaload, 1) := by decide +kernel
theorem dX4_walk_20 : decode cX4_walk 20 = .ok (.iload 4, 2) := by decide +kernel
theorem dX4_walk_22 : decode cX4_walk 22 = .ok (.iadd, 1) := by decide +kernel
theorem dX4_walk_23 : decode cX4_walk 23 = .ok (.istore 5, 2) := by decide +kernel
theorem dX4_walk_25 : decode cX4_walk 25 = .ok (.iload_n 2, 1) := by decide +kernel
theorem dX4_walk_26 : decode cX4_walk 26 = .ok (.ifCond .ne 34, 3) := by decide +kernel
theorem dX4_walk_29 : decode cX4_walk 29 = .ok (.aload_n 0, 1) := by decide +kernel
theorem dX4_walk_30 : decode cX4_walk 30 = .ok (.getfield 11, 3) := by decide +kernel
theorem dX4_walk_33 : decode cX4_walk 33 = .ok (.iload 4, 2) := by decide +kernel
theorem dX4_walk_35 : decode cX4_walk 35 = .ok (.aload_n 0, 1) := by decide +kernel
theorem dX4_walk_36 : decode cX4_walk 36 = .ok (.getfield 29, 3) := by decide +kernel
theorem dX4_walk_39 : decode cX4_walk 39 = .ok (.iload 5, 2) := by decide +kernel
theorem dX4_walk_41 : decode cX4_walk 41 = .ok (.iaload, 1) := by decide +kernel
theorem dX4_walk_42 : decode cX4_walk 42 = .ok (.iastore, 1) := by decide +kernel
theorem dX4_walk_43 : decode cX4_walk 43 = .ok (.aload_n 0, 1) := by decide +kernel
theorem dX4_walk_44 : decode cX4_walk 44 = .ok (.getfield 15, 3) := by decide +kernel
theorem dX4_walk_47 : decode cX4_walk 47 = .ok (.iload 4, 2) := by decide +kernel
theorem dX4_walk_49 : decode cX4_walk 49 = .ok (.aload_n 0, 1) := by decide +kernel
theorem dX4_walk_50 : decode cX4_walk 50 = .ok (.getfield 32, 3) := by decide +kernel
theorem dX4_walk_53 : decode cX4_walk 53 = .ok (.iload 5, 2) := by decide +kernel
theorem dX4_walk_55 : decode cX4_walk 55 = .ok (.iaload, 1) := by decide +kernel
theorem dX4_walk_56 : decode cX4_walk 56 = .ok (.iastore, 1) := by decide +kernel
theorem dX4_walk_57 : decode cX4_walk 57 = .ok (.goto 56, 3) := by decide +kernel
theorem dX4_walk_60 : decode cX4_walk 60 = .ok (.iload_n 2, 1) := by decide +kernel
theorem dX4_walk_61 : decode cX4_walk 61 = .ok (.aload_n 0, 1) := by decide +kernel
theorem dX4_walk_62 : decode cX4_walk 62 = .ok (.getfield 26, 3) := by decide +kernel
theorem dX4_walk_65 : decode cX4_walk 65 = .ok (.iload 5, 2) := by decide +kernel
theorem dX4_walk_67 : decode cX4_walk 67 = .ok (.iaload, 1) := by decide +kernel
theorem dX4_walk_68 : decode cX4_walk 68 = .ok (.if_icmp .gt 45, 3) := by decide +kernel
theorem dX4_walk_71 : decode cX4_walk 71 = .ok (.aload_n 0, 1) := by decide +kernel
theorem dX4_walk_72 : decode cX4_walk 72 = .ok (.iload 5, 2) := by decide +kernel
theorem dX4_walk_74 : decode cX4_walk 74 = .ok (.iload_n 2, 1) := by decide +kernel
theorem dX4_walk_75 : decode cX4_walk 75 = .ok (.iload_n 3, 1) := by decide +kernel
theorem dX4_walk_76 : decode cX4_walk 76 = .ok (.invokevirtual 71, 3) := by decide +kernel
theorem dX4_walk_79 : decode cX4_walk 79 = .ok (.istore 6, 2) := by decide +kernel
theorem dX4_walk_81 : decode cX4_walk 81 = .ok (.aload_n 0, 1) := by decide +kernel
theorem dX4_walk_82 : decode cX4_walk 82 = .ok (.getfield 11, 3) := by decide +kernel
theorem dX4_walk_85 : decode cX4_walk 85 = .ok (.iload 4, 2) := by decide +kernel
theorem dX4_walk_87 : decode cX4_walk 87 = .ok (.dup2, 1) := by decide +kernel
theorem dX4_walk_88 : decode cX4_walk 88 = .ok (.iaload, 1) := by decide +kernel
theorem dX4_walk_89 : decode cX4_walk 89 = .ok (.getstatic 75, 3) := by decide +kernel
theorem dX4_walk_92 : decode cX4_walk 92 = .ok (.iload 6, 2) := by decide +kernel
theorem dX4_walk_94 : decode cX4_walk 94 = .ok (.iaload, 1) := by decide +kernel
theorem dX4_walk_95 : decode cX4_walk 95 = .ok (.iadd, 1) := by decide +kernel
theorem dX4_walk_96 : decode cX4_walk 96 = .ok (.iastore, 1) := by decide +kernel
theorem dX4_walk_97 : decode cX4_walk 97 = .ok (.aload_n 0, 1) := by decide +kernel
theorem dX4_walk_98 : decode cX4_walk 98 = .ok (.getfield 15, 3) := by decide +kernel
theorem dX4_walk_101 : decode cX4_walk 101 = .ok (.iload 4, 2) := by decide +kernel
theorem dX4_walk_103 : decode cX4_walk 103 = .ok (.dup2, 1) := by decide +kernel
theorem dX4_walk_104 : decode cX4_walk 104 = .ok (.iaload, 1) := by decide +kernel
theorem dX4_walk_105 : decode cX4_walk 105 = .ok (.getstatic 78, 3) := by decide +kernel
theorem dX4_walk_108 : decode cX4_walk 108 = .ok (.iload 6, 2) := by decide +kernel
theorem dX4_walk_110 : decode cX4_walk 110 = .ok (.iaload, 1) := by decide +kernel
theorem dX4_walk_111 : decode cX4_walk 111 = .ok (.iadd, 1) := by decide +kernel
theorem dX4_walk_112 : decode cX4_walk 112 = .ok (.iastore, 1) := by decide +kernel
theorem dX4_walk_113 : decode cX4_walk 113 = .ok (.iinc 4 1, 3) := by decide +kernel
theorem dX4_walk_116 : decode cX4_walk 116 = .ok (.goto (-113), 3) := by decide +kernel
theorem dX4_walk_119 : decode cX4_walk 119 = .ok (.return_, 1) := by decide +kernel
theorem dX4_twoTogether_0 : decode cX4_twoTogether 0 = .ok (.iconst 0, 1) := by decide +kernel
theorem dX4_twoTogether_1 : decode cX4_twoTogether 1 = .ok (.istore_n 2, 1) := by decide +kernel
theorem dX4_twoTogether_2 : decode cX4_twoTogether 2 = .ok (.iload_n 2, 1) := by decide +kernel
theorem dX4_twoTogether_3 : decode cX4_twoTogether 3 = .ok (.iload_n 1, 1) := by decide +kernel
theorem dX4_twoTogether_4 : decode cX4_twoTogether 4 = .ok (.if_icmp .ge 56, 3) := by decide +kernel
theorem dX4_twoTogether_7 : decode cX4_twoTogether 7 = .ok (.iload_n 2, 1) := by decide +kernel
theorem dX4_twoTogether_8 : decode cX4_twoTogether 8 = .ok (.iconst 1, 1) := by decide +kernel
theorem dX4_twoTogether_9 : decode cX4_twoTogether 9 = .ok (.iadd, 1) := by decide +kernel
theorem dX4_twoTogether_10 : decode cX4_twoTogether 10 = .ok (.istore_n 3, 1) := by decide +kernel
theorem dX4_twoTogether_11 : decode cX4_twoTogether 11 = .ok (.iload_n 3, 1) := by decide +kernel
theorem dX4_twoTogether_12 : decode cX4_twoTogether 12 = .ok (.iload_n 1, 1) := by decide +kernel
theorem dX4_twoTogether_13 : decode cX4_twoTogether 13 = .ok (.if_icmp .ge 41, 3) := by decide +kernel
theorem dX4_twoTogether_16 : decode cX4_twoTogether 16 = .ok (.aload_n 0, 1) := by decide +kernel
theorem dX4_twoTogether_17 : decode cX4_twoTogether 17 = .ok (.getfield 11, 3) := by decide +kernel
theorem dX4_twoTogether_20 : decode cX4_twoTogether 20 = .ok (.iload_n 2, 1) := by decide +kernel
theorem dX4_twoTogether_21 : decode cX4_twoTogether 21 = .ok (.iaload, 1) := by decide +kernel
theorem dX4_twoTogether_22 : decode cX4_twoTogether 22 = .ok (.aload_n 0, 1) := by decide +kernel
theorem dX4_twoTogether_23 : decode cX4_twoTogether 23 = .ok (.getfield 11, 3) := by decide +kernel
theorem dX4_twoTogether_26 : decode cX4_twoTogether 26 = .ok (.iload_n 3, 1) := by decide +kernel
theorem dX4_twoTogether_27 : decode cX4_twoTogether 27 = .ok (.iaload, 1) := by decide +kernel
theorem dX4_twoTogether_28 : decode cX4_twoTogether 28 = .ok (.if_icmp .ne 20, 3) := by decide +kernel
theorem dX4_twoTogether_31 : decode cX4_twoTogether 31 = .ok (.aload_n 0, 1) := by decide +kernel
theorem dX4_twoTogether_32 : decode cX4_twoTogether 32 = .ok (.getfield 15, 3) := by decide +kernel
theorem dX4_twoTogether_35 : decode cX4_twoTogether 35 = .ok (.iload_n 2, 1) := by decide +kernel
theorem dX4_twoTogether_36 : decode cX4_twoTogether 36 = .ok (.iaload, 1) := by decide +kernel
theorem dX4_twoTogether_37 : decode cX4_twoTogether 37 = .ok (.aload_n 0, 1) := by decide +kernel
theorem dX4_twoTogether_38 : decode cX4_twoTogether 38 = .ok (.getfield 15, 3) := by decide +kernel
theorem dX4_twoTogether_41 : decode cX4_twoTogether 41 = .ok (.iload_n 3, 1) := by decide +kernel
theorem dX4_twoTogether_42 : decode cX4_twoTogether 42 = .ok (.iaload, 1) := by decide +kernel
theorem dX4_twoTogether_43 : decode cX4_twoTogether 43 = .ok (.if_icmp .ne 5, 3) := by decide +kernel
theorem dX4_twoTogether_46 : decode cX4_twoTogether 46 = .ok (.iconst 1, 1) := by decide +kernel
theorem dX4_twoTogether_47 : decode cX4_twoTogether 47 = .ok (.ireturn, 1) := by decide +kernel
theorem dX4_twoTogether_48 : decode cX4_twoTogether 48 = .ok (.iinc 3 1, 3) := by decide +kernel
theorem dX4_twoTogether_51 : decode cX4_twoTogether 51 = .ok (.goto (-40), 3) := by decide +kernel
theorem dX4_twoTogether_54 : decode cX4_twoTogether 54 = .ok (.iinc 2 1, 3) := by decide +kernel
theorem dX4_twoTogether_57 : decode cX4_twoTogether 57 = .ok (.goto (-55), 3) := by decide +kernel
theorem dX4_twoTogether_60 : decode cX4_twoTogether 60 = .ok (.iconst 0, 1) := by decide +kernel
theorem dX4_twoTogether_61 : decode cX4_twoTogether 61 = .ok (.ireturn, 1) := by decide +kernel
theorem dX4_oneOutside_0 : decode cX4_oneOutside 0 = .ok (.iconst 0, 1) := by decide +kernel
theorem dX4_oneOutside_1 : decode cX4_oneOutside 1 = .ok (.istore 4, 2) := by decide +kernel
theorem dX4_oneOutside_3 : decode cX4_oneOutside 3 = .ok (.iload 4, 2) := by decide +kernel
theorem dX4_oneOutside_5 : decode cX4_oneOutside 5 = .ok (.iload_n 1, 1) := by decide +kernel
theorem dX4_oneOutside_6 : decode cX4_oneOutside 6 = .ok (.if_icmp .ge 53, 3) := by decide +kernel
theorem dX4_oneOutside_9 : decode cX4_oneOutside 9 = .ok (.aload_n 0, 1) := by decide +kernel
theorem dX4_oneOutside_10 : decode cX4_oneOutside 10 = .ok (.getfield 11, 3) := by decide +kernel
theorem dX4_oneOutside_13 : decode cX4_oneOutside 13 = .ok (.iload 4, 2) := by decide +kernel
theorem dX4_oneOutside_15 : decode cX4_oneOutside 15 = .ok (.iaload, 1) := by decide +kernel
theorem dX4_oneOutside_16 : decode cX4_oneOutside 16 = .ok (.ifCond .lt 35, 3) := by decide +kernel
theorem dX4_oneOutside_19 : decode cX4_oneOutside 19 = .ok (.aload_n 0, 1) := by decide +kernel
theorem dX4_oneOutside_20 : decode cX4_oneOutside 20 = .ok (.getfield 11, 3) := by decide +kernel
theorem dX4_oneOutside_23 : decode cX4_oneOutside 23 = .ok (.iload 4, 2) := by decide +kernel
theorem dX4_oneOutside_25 : decode cX4_oneOutside 25 = .ok (.iaload, 1) := by decide +kernel
theorem dX4_oneOutside_26 : decode cX4_oneOutside 26 = .ok (.iload_n 2, 1) := by decide +kernel
theorem dX4_oneOutside_27 : decode cX4_oneOutside 27 = .ok (.if_icmp .ge 24, 3) := by decide +kernel
theorem dX4_oneOutside_30 : decode cX4_oneOutside 30 = .ok (.aload_n 0, 1) := by decide +kernel
theorem dX4_oneOutside_31 : decode cX4_oneOutside 31 = .ok (.getfield 15, 3) := by decide +kernel
theorem dX4_oneOutside_34 : decode cX4_oneOutside 34 = .ok (.iload 4, 2) := by decide +kernel
theorem dX4_oneOutside_36 : decode cX4_oneOutside 36 = .ok (.iaload, 1) := by decide +kernel
theorem dX4_oneOutside_37 : decode cX4_oneOutside 37 = .ok (.ifCond .lt 14, 3) := by decide +kernel
theorem dX4_oneOutside_40 : decode cX4_oneOutside 40 = .ok (.aload_n 0, 1) := by decide +kernel
theorem dX4_oneOutside_41 : decode cX4_oneOutside 41 = .ok (.getfield 15, 3) := by decide +kernel
theorem dX4_oneOutside_44 : decode cX4_oneOutside 44 = .ok (.iload 4, 2) := by decide +kernel
theorem dX4_oneOutside_46 : decode cX4_oneOutside 46 = .ok (.iaload, 1) := by decide +kernel
theorem dX4_oneOutside_47 : decode cX4_oneOutside 47 = .ok (.iload_n 3, 1) := by decide +kernel
theorem dX4_oneOutside_48 : decode cX4_oneOutside 48 = .ok (.if_icmp .lt 5, 3) := by decide +kernel
theorem dX4_oneOutside_51 : decode cX4_oneOutside 51 = .ok (.iconst 1, 1) := by decide +kernel
theorem dX4_oneOutside_52 : decode cX4_oneOutside 52 = .ok (.ireturn, 1) := by decide +kernel
theorem dX4_oneOutside_53 : decode cX4_oneOutside 53 = .ok (.iinc 4 1, 3) := by decide +kernel
theorem dX4_oneOutside_56 : decode cX4_oneOutside 56 = .ok (.goto (-53), 3) := by decide +kernel
theorem dX4_oneOutside_59 : decode cX4_oneOutside 59 = .ok (.iconst 0, 1) := by decide +kernel
theorem dX4_oneOutside_60 : decode cX4_oneOutside 60 = .ok (.ireturn, 1) := by decide +kernel
theorem dX5_init_0 : decode cX5_init 0 = .ok (.aload_n 0, 1) := by decide +kernel
theorem dX5_init_1 : decode cX5_init 1 = .ok (.invokespecial 3, 3) := by decide +kernel
theorem dX5_init_4 : decode cX5_init 4 = .ok (.aload_n 0, 1) := by decide +kernel
theorem dX5_init_5 : decode cX5_init 5 = .ok (.bipush 16, 2) := by decide +kernel
theorem dX5_init_7 : decode cX5_init 7 = .ok (.newarray .long, 2) := by decide +kernel
theorem dX5_init_9 : decode cX5_init 9 = .ok (.putfield 11, 3) := by decide +kernel
theorem dX5_init_12 : decode cX5_init 12 = .ok (.aload_n 0, 1) := by decide +kernel
theorem dX5_init_13 : decode cX5_init 13 = .ok (.aload_n 1, 1) := by decide +kernel
theorem dX5_init_14 : decode cX5_init 14 = .ok (.putfield 17, 3) := by decide +kernel
theorem dX5_init_17 : decode cX5_init 17 = .ok (.return_, 1) := by decide +kernel
theorem dX5_readInto_0 : decode cX5_readInto 0 = .ok (.aload_n 0, 1) := by decide +kernel
theorem dX5_readInto_1 : decode cX5_readInto 1 = .ok (.aload_n 1, 1) := by decide +kernel
theorem dX5_readInto_2 : decode cX5_readInto 2 = .ok (.putfield 21, 3) := by decide +kernel
theorem dX5_readInto_5 : decode cX5_readInto 5 = .ok (.aload_n 0, 1) := by decide +kernel
theorem dX5_readInto_6 : decode cX5_readInto 6 = .ok (.getfield 21, 3) := by decide +kernel
theorem dX5_readInto_9 : decode cX5_readInto 9 = .ok (.invokevirtual 25, 3) := by decide +kernel
theorem dX5_readInto_12 : decode cX5_readInto 12 = .ok (.aload_n 0, 1) := by decide +kernel
theorem dX5_readInto_13 : decode cX5_readInto 13 = .ok (.iconst 0, 1) := by decide +kernel
theorem dX5_readInto_14 : decode cX5_readInto 14 = .ok (.putfield 28, 3) := by decide +kernel
theorem dX5_readInto_17 : decode cX5_readInto 17 = .ok (.aload_n 0, 1) := by decide +kernel
theorem dX5_readInto_18 : decode cX5_readInto 18 = .ok (.iconst 0, 1) := by decide +kernel
theorem dX5_readInto_19 : decode cX5_readInto 19 = .ok (.putfield 32, 3) := by decide +kernel
theorem dX5_readInto_22 : decode cX5_readInto 22 = .ok (.aload_n 0, 1) := by decide +kernel
theorem dX5_readInto_23 : decode cX5_readInto 23 = .ok (.iconst 0, 1) := by decide +kernel
theorem dX5_readInto_24 : decode cX5_readInto 24 = .ok (.putfield 36, 3) := by decide +kernel
theorem dX5_readInto_27 : decode cX5_readInto 27 = .ok (.aload_n 0, 1) := by decide +kernel
theorem dX5_readInto_28 : decode cX5_readInto 28 = .ok (.iconst (-1), 1) := by decide +kernel
theorem dX5_readInto_29 : decode cX5_readInto 29 = .ok (.putfield 39, 3) := by decide +kernel
theorem dX5_readInto_32 : decode cX5_readInto 32 = .ok (.aload_n 0, 1) := by decide +kernel
theorem dX5_readInto_33 : decode cX5_readInto 33 = .ok (.getfield 17, 3) := by decide +kernel
theorem dX5_readInto_36 : decode cX5_readInto 36 = .ok (.invokevirtual 42, 3) := by decide +kernel
theorem dX5_readInto_39 : decode cX5_readInto 39 = .ok (.iconst 0, 1) := by decide +kernel
theorem dX5_readInto_40 : decode cX5_readInto 40 = .ok (.istore_n 2, 1) := by decide +kernel
theorem dX5_readInto_41 : decode cX5_readInto 41 = .ok (.iload_n 2, 1) := by decide +kernel
theorem dX5_readInto_42 : decode cX5_readInto 42 = .ok (.sipush 1400, 3) := by decide +kernel
theorem dX5_readInto_45 : decode cX5_readInto 45 = .ok (.if_icmp .gt 41, 3) := by decide +kernel
theorem dX5_readInto_48 : decode cX5_readInto 48 = .ok (.aload_n 0, 1) := by decide +kernel
theorem dX5_readInto_49 : decode cX5_readInto 49 = .ok (.getfield 17, 3) := by decide +kernel
theorem dX5_readInto_52 : decode cX5_readInto 52 = .ok (.getfield 49, 3) := by decide +kernel
theorem dX5_readInto_55 : decode cX5_readInto 55 = .ok (.ifCond .eq 31, 3) := by decide +kernel
theorem dX5_readInto_58 : decode cX5_readInto 58 = .ok (.aload_n 0, 1) := by decide +kernel
theorem dX5_readInto_59 : decode cX5_readInto 59 = .ok (.invokevirtual 52, 3) := by decide +kernel
theorem dX5_readInto_62 : decode cX5_readInto 62 = .ok (.ifCond .ne 5, 3) := by decide +kernel
theorem dX5_readInto_65 : decode cX5_readInto 65 = .ok (.iconst 0, 1) := by decide +kernel
theorem dX5_readInto_66 : decode cX5_readInto 66 = .ok (.ireturn, 1) := by decide +kernel
theorem dX5_readInto_67 : decode cX5_readInto 67 = .ok (.aload_n 0, 1) := by decide +kernel
theorem dX5_readInto_68 : decode cX5_readInto 68 = .ok (.getfield 21, 3) := by decide +kernel
theorem dX5_readInto_71 : decode cX5_readInto 71 = .ok (.dup, 1) := by decide +kernel
theorem dX5_readInto_72 : decode cX5_readInto 72 = .ok (.getfield 56, 3) := by decide +kernel
theorem dX5_readInto_75 : decode cX5_readInto 75 = .ok (.iconst 1, 1) := by decide +kernel
theorem dX5_readInto_76 : decode cX5_readInto 76 = .ok (.iadd, 1) := by decide +kernel
theorem dX5_readInto_77 : decode cX5_readInto 77 = .ok (.putfield 56, 3) := by decide +kernel
theorem dX5_readInto_80 : decode cX5_readInto 80 = .ok (.iinc 2 1, 3) := by decide +kernel
theorem dX5_readInto_83 : decode cX5_readInto 83 = .ok (.goto (-42), 3) := by decide +kernel
theorem dX5_readInto_86 : decode cX5_readInto 86 = .ok (.iconst 1, 1) := by decide +kernel
theorem dX5_readInto_87 : decode cX5_readInto 87 = .ok (.ireturn, 1) := by decide +kernel
theorem dX5_takeLine_0 : decode cX5_takeLine 0 = .ok (.aload_n 0, 1) := by decide +kernel
theorem dX5_takeLine_1 : decode cX5_takeLine 1 = .ok (.getfield 17, 3) := by decide +kernel
theorem dX5_takeLine_4 : decode cX5_takeLine 4 = .ok (.getfield 49, 3) := by decide +kernel
theorem dX5_takeLine_7 : decode cX5_takeLine 7 = .ok (.tableswitch 55 4 8 #[33, 55, 38, 43, 49], 33) := by decide +kernel
theorem dX5_takeLine_40 : decode cX5_takeLine 40 = .ok (.aload_n 0, 1) := by decide +kernel
theorem dX5_takeLine_41 : decode cX5_takeLine 41 = .ok (.invokevirtual 59, 3) := by decide +kernel
theorem dX5_takeLine_44 : decode cX5_takeLine 44 = .ok (.ireturn, 1) := by decide +kernel
theorem dX5_takeLine_45 : decode cX5_takeLine 45 = .ok (.aload_n 0, 1) := by decide +kernel
theorem dX5_takeLine_46 : decode cX5_takeLine 46 = .ok (.invokevirtual 62, 3) := by decide +kernel
theorem dX5_takeLine_49 : decode cX5_takeLine 49 = .ok (.ireturn, 1) := by decide +kernel
theorem dX5_takeLine_50 : decode cX5_takeLine 50 = .ok (.aload_n 0, 1) := by decide +kernel
theorem dX5_takeLine_51 : decode cX5_takeLine 51 = .ok (.iconst 0, 1) := by decide +kernel
theorem dX5_takeLine_52 : decode cX5_takeLine 52 = .ok (.invokevirtual 65, 3) := by decide +kernel
theorem dX5_takeLine_55 : decode cX5_takeLine 55 = .ok (.ireturn, 1) := by decide +kernel
theorem dX5_takeLine_56 : decode cX5_takeLine 56 = .ok (.aload_n 0, 1) := by decide +kernel
theorem dX5_takeLine_57 : decode cX5_takeLine 57 = .ok (.iconst 1, 1) := by decide +kernel
theorem dX5_takeLine_58 : decode cX5_takeLine 58 = .ok (.invokevirtual 65, 3) := by decide +kernel
theorem dX5_takeLine_61 : decode cX5_takeLine 61 = .ok (.ireturn, 1) := by decide +kernel
theorem dX5_takeLine_62 : decode cX5_takeLine 62 = .ok (.aload_n 0, 1) := by decide +kernel
theorem dX5_takeLine_63 : decode cX5_takeLine 63 = .ok (.iconst 2, 1) := by decide +kernel
theorem dX5_takeLine_64 : decode cX5_takeLine 64 = .ok (.invokevirtual 69, 3) := by decide +kernel
theorem dX5_takeLine_67 : decode cX5_takeLine 67 = .ok (.ireturn, 1) := by decide +kernel
theorem dX5_takeFloor_0 : decode cX5_takeFloor 0 = .ok (.aload_n 0, 1) := by decide +kernel
theorem dX5_takeFloor_1 : decode cX5_takeFloor 1 = .ok (.getfield 32, 3) := by decide +kernel
theorem dX5_takeFloor_4 : decode cX5_takeFloor 4 = .ok (.ifCond .eq 9, 3) := by decide +kernel
theorem dX5_takeFloor_7 : decode cX5_takeFloor 7 = .ok (.aload_n 0, 1) := by decide +kernel
theorem dX5_takeFloor_8 : decode cX5_takeFloor 8 = .ok (.iconst 2, 1) := by decide +kernel
theorem dX5_takeFloor_9 : decode cX5_takeFloor 9 = .ok (.invokevirtual 69, 3) := by decide +kernel
theorem dX5_takeFloor_12 : decode cX5_takeFloor 12 = .ok (.ireturn, 1) := by decide +kernel
theorem dX5_takeFloor_13 : decode cX5_takeFloor 13 = .ok (.aload_n 0, 1) := by decide +kernel
theorem dX5_takeFloor_14 : decode cX5_takeFloor 14 = .ok (.iconst 1, 1) := by decide +kernel
theorem dX5_takeFloor_15 : decode cX5_takeFloor 15 = .ok (.putfield 32, 3) := by decide +kernel
theorem dX5_takeFloor_18 : decode cX5_takeFloor 18 = .ok (.aload_n 0, 1) := by decide +kernel
theorem dX5_takeFloor_19 : decode cX5_takeFloor 19 = .ok (.getfield 17, 3) := by decide +kernel
theorem dX5_takeFloor_22 : decode cX5_takeFloor 22 = .ok (.invokevirtual 73, 3) := by decide +kernel
theorem dX5_takeFloor_25 : decode cX5_takeFloor 25 = .ok (.aload_n 0, 1) := by decide +kernel
theorem dX5_takeFloor_26 : decode cX5_takeFloor 26 = .ok (.iconst 1, 1) := by decide +kernel
theorem dX5_takeFloor_27 : decode cX5_takeFloor 27 = .ok (.bipush 20, 2) := by decide +kernel
theorem dX5_takeFloor_29 : decode cX5_takeFloor 29 = .ok (.invokevirtual 76, 3) := by decide +kernel
theorem dX5_takeFloor_32 : decode cX5_takeFloor 32 = .ok (.ifCond .ne 5, 3) := by decide +kernel
theorem dX5_takeFloor_35 : decode cX5_takeFloor 35 = .ok (.iconst 0, 1) := by decide +kernel
theorem dX5_takeFloor_36 : decode cX5_takeFloor 36 = .ok (.ireturn, 1) := by decide +kernel
theorem dX5_takeFloor_37 : decode cX5_takeFloor 37 = .ok (.aload_n 0, 1) := by decide +kernel
theorem dX5_takeFloor_38 : decode cX5_takeFloor 38 = .ok (.getfield 21, 3) := by decide +kernel
theorem dX5_takeFloor_41 : decode cX5_takeFloor 41 = .ok (.aload_n 0, 1) := by decide +kernel
theorem dX5_takeFloor_42 : decode cX5_takeFloor 42 = .ok (.invokevirtual 80, 3) := by decide +kernel
theorem dX5_takeFloor_45 : decode cX5_takeFloor 45 = .ok (.putfield 84, 3) := by decide +kernel
theorem dX5_takeFloor_48 : decode cX5_takeFloor 48 = .ok (.aload_n 0, 1) := by decide +kernel
theorem dX5_takeFloor_49 : decode cX5_takeFloor 49 = .ok (.iconst 1, 1) := by decide +kernel
theorem dX5_takeFloor_50 : decode cX5_takeFloor 50 = .ok (.bipush 20, 2) := by decide +kernel
theorem dX5_takeFloor_52 : decode cX5_takeFloor 52 = .ok (.invokevirtual 76, 3) := by decide +kernel
theorem dX5_takeFloor_55 : decode cX5_takeFloor 55 = .ok (.ifCond .ne 5, 3) := by decide +kernel
theorem dX5_takeFloor_58 : decode cX5_takeFloor 58 = .ok (.iconst 0, 1) := by decide +kernel
theorem dX5_takeFloor_59 : decode cX5_takeFloor 59 = .ok (.ireturn, 1) := by decide +kernel
theorem dX5_takeFloor_60 : decode cX5_takeFloor 60 = .ok (.aload_n 0, 1) := by decide +kernel
theorem dX5_takeFloor_61 : decode cX5_takeFloor 61 = .ok (.getfield 21, 3) := by decide +kernel
theorem dX5_takeFloor_64 : decode cX5_takeFloor 64 = .ok (.aload_n 0, 1) := by decide +kernel
theorem dX5_takeFloor_65 : decode cX5_takeFloor 65 = .ok (.invokevirtual 80, 3) := by decide +kernel
theorem dX5_takeFloor_68 : decode cX5_takeFloor 68 = .ok (.putfield 87, 3) := by decide +kernel
theorem dX5_takeFloor_71 : decode cX5_takeFloor 71 = .ok (.aload_n 0, 1) := by decide +kernel
theorem dX5_takeFloor_72 : decode cX5_takeFloor 72 = .ok (.iconst 5, 1) := by decide +kernel
theorem dX5_takeFloor_73 : decode cX5_takeFloor 73 = .ok (.invokevirtual 90, 3) := by decide +kernel
theorem dX5_takeFloor_76 : decode cX5_takeFloor 76 = .ok (.ifCond .eq 13, 3) := by decide +kernel
theorem dX5_takeFloor_79 : decode cX5_takeFloor 79 = .ok (.aload_n 0, 1) := by decide +kernel
theorem dX5_takeFloor_80 : decode cX5_takeFloor 80 = .ok (.iconst 0, 1) := by decide +kernel
theorem dX5_takeFloor_81 : decode cX5_takeFloor 81 = .ok (.bipush 9, 2) := by decide +kernel
theorem dX5_takeFloor_83 : decode cX5_takeFloor 83 = .ok (.invokevirtual 76, 3) := by decide +kernel
theorem dX5_takeFloor_86 : decode cX5_takeFloor 86 = .ok (.ifCond .ne 5, 3) := by decide +kernel
theorem dX5_takeFloor_89 : decode cX5_takeFloor 89 = .ok (.iconst 0, 1) := by decide +kernel
theorem dX5_takeFloor_90 : decode cX5_takeFloor 90 = .ok (.ireturn, 1) := by decide +kernel
theorem dX5_takeFloor_91 : decode cX5_takeFloor 91 = .ok (.aload_n 0, 1) := by decide +kernel
theorem dX5_takeFloor_92 : decode cX5_takeFloor 92 = .ok (.getfield 21, 3) := by decide +kernel
theorem dX5_takeFloor_95 : decode cX5_takeFloor 95 = .ok (.aload_n 0, 1) := by decide +kernel
theorem dX5_takeFloor_96 : decode cX5_takeFloor 96 = .ok (.invokevirtual 80, 3) := by decide +kernel
theorem dX5_takeFloor_99 : decode cX5_takeFloor 99 = .ok (.putfield 93, 3) := by decide +kernel
theorem dX5_takeFloor_102 : decode cX5_takeFloor 102 = .ok (.aload_n 0, 1) := by decide +kernel
theorem dX5_takeFloor_103 : decode cX5_takeFloor 103 = .ok (.bipush 59, 2) := by decide +kernel
theorem dX5_takeFloor_105 : decode cX5_takeFloor 105 = .ok (.invokevirtual 90, 3) := by decide +kernel
theorem dX5_takeFloor_108 : decode cX5_takeFloor 108 = .ok (.ireturn, 1) := by decide +kernel
theorem dX5_takeWork_0 : decode cX5_takeWork 0 = .ok (.aload_n 0, 1) := by decide +kernel
theorem dX5_takeWork_1 : decode cX5_takeWork 1 = .ok (.getfield 21, 3) := by decide +kernel
theorem dX5_takeWork_4 : decode cX5_takeWork 4 = .ok (.getfield 96, 3) := by decide +kernel
theorem dX5_takeWork_7 : decode cX5_takeWork 7 = .ok (.iconst 4, 1) := by decide +kernel
theorem dX5_takeWork_8 : decode cX5_takeWork 8 = .ok (.if_icmp .lt 9, 3) := by decide +kernel
theorem dX5_takeWork_11 : decode cX5_takeWork 11 = .ok (.aload_n 0, 1) := by decide +kernel
theorem dX5_takeWork_12 : decode cX5_takeWork 12 = .ok (.iconst 2, 1) := by decide +kernel
theorem dX5_takeWork_13 : decode cX5_takeWork 13 = .ok (.invokevirtual 69, 3) := by decide +kernel
theorem dX5_takeWork_16 : decode cX5_takeWork 16 = .ok (.ireturn, 1) := by decide +kernel
theorem dX5_takeWork_17 : decode cX5_takeWork 17 = .ok (.aload_n 0, 1) := by decide +kernel
theorem dX5_takeWork_18 : decode cX5_takeWork 18 = .ok (.getfield 17, 3) := by decide +kernel
theorem dX5_takeWork_21 : decode cX5_takeWork 21 = .ok (.invokevirtual 73, 3) := by decide +kernel
theorem dX5_takeWork_24 : decode cX5_takeWork 24 = .ok (.aload_n 0, 1) := by decide +kernel
theorem dX5_takeWork_25 : decode cX5_takeWork 25 = .ok (.invokevirtual 99, 3) := by decide +kernel
theorem dX5_takeWork_28 : decode cX5_takeWork 28 = .ok (.ifCond .ne 5, 3) := by decide +kernel
theorem dX5_takeWork_31 : decode cX5_takeWork 31 = .ok (.iconst 0, 1) := by decide +kernel
theorem dX5_takeWork_32 : decode cX5_takeWork 32 = .ok (.ireturn, 1) := by decide +kernel
theorem dX5_takeWork_33 : decode cX5_takeWork 33 = .ok (.aload_n 0, 1) := by decide +kernel
theorem dX5_takeWork_34 : decode cX5_takeWork 34 = .ok (.getfield 21, 3) := by decide +kernel
theorem dX5_takeWork_37 : decode cX5_takeWork 37 = .ok (.getfield 102, 3) := by decide +kernel
theorem dX5_takeWork_40 : decode cX5_takeWork 40 = .ok (.aload_n 0, 1) := by decide +kernel
theorem dX5_takeWork_41 : decode cX5_takeWork 41 = .ok (.getfield 21, 3) := by decide +kernel
theorem dX5_takeWork_44 : decode cX5_takeWork 44 = .ok (.getfield 96, 3) := by decide +kernel
theorem dX5_takeWork_47 : decode cX5_takeWork 47 = .ok (.aload_n 0, 1) := by decide +kernel
theorem dX5_takeWork_48 : decode cX5_takeWork 48 = .ok (.getfield 21, 3) := by decide +kernel
theorem dX5_takeWork_51 : decode cX5_takeWork 51 = .ok (.getfield 106, 3) := by decide +kernel
theorem dX5_takeWork_54 : decode cX5_takeWork 54 = .ok (.iastore, 1) := by decide +kernel
theorem dX5_takeWork_55 : decode cX5_takeWork 55 = .ok (.aload_n 0, 1) := by decide +kernel
theorem dX5_takeWork_56 : decode cX5_takeWork 56 = .ok (.getfield 21, 3) := by decide +kernel
theorem dX5_takeWork_59 : decode cX5_takeWork 59 = .ok (.getfield 109, 3) := by decide +kernel
theorem dX5_takeWork_62 : decode cX5_takeWork 62 = .ok (.aload_n 0, 1) := by decide +kernel
theorem dX5_takeWork_63 : decode cX5_takeWork 63 = .ok (.getfield 21, 3) := by decide +kernel
theorem dX5_takeWork_66 : decode cX5_takeWork 66 = .ok (.getfield 96, 3) := by decide +kernel
theorem dX5_takeWork_69 : decode cX5_takeWork 69 = .ok (.iconst 0, 1) := by decide +kernel
theorem dX5_takeWork_70 : decode cX5_takeWork 70 = .ok (.iastore, 1) := by decide +kernel
theorem dX5_takeWork_71 : decode cX5_takeWork 71 = .ok (.aload_n 0, 1) := by decide +kernel
theorem dX5_takeWork_72 : decode cX5_takeWork 72 = .ok (.getfield 21, 3) := by decide +kernel
theorem dX5_takeWork_75 : decode cX5_takeWork 75 = .ok (.dup, 1) := by decide +kernel
theorem dX5_takeWork_76 : decode cX5_takeWork 76 = .ok (.getfield 96, 3) := by decide +kernel
theorem dX5_takeWork_79 : decode cX5_takeWork 79 = .ok (.iconst 1, 1) := by decide +kernel
theorem dX5_takeWork_80 : decode cX5_takeWork 80 = .ok (.iadd, 1) := by decide +kernel
theorem dX5_takeWork_81 : decode cX5_takeWork 81 = .ok (.putfield 96, 3) := by decide +kernel
theorem dX5_takeWork_84 : decode cX5_takeWork 84 = .ok (.aload_n 0, 1) := by decide +kernel
theorem dX5_takeWork_85 : decode cX5_takeWork 85 = .ok (.bipush 59, 2) := by decide +kernel
theorem dX5_takeWork_87 : decode cX5_takeWork 87 = .ok (.invokevirtual 90, 3) := by decide +kernel
theorem dX5_takeWork_90 : decode cX5_takeWork 90 = .ok (.ireturn, 1) := by decide +kernel
theorem dX5_takePart_0 : decode cX5_takePart 0 = .ok (.aload_n 0, 1) := by decide +kernel
theorem dX5_takePart_1 : decode cX5_takePart 1 = .ok (.getfield 21, 3) := by decide +kernel
theorem dX5_takePart_4 : decode cX5_takePart 4 = .ok (.getfield 96, 3) := by decide +kernel
theorem dX5_takePart_7 : decode cX5_takePart 7 = .ok (.iconst 1, 1) := by decide +kernel
theorem dX5_takePart_8 : decode cX5_takePart 8 = .ok (.isub, 1) := by decide +kernel
theorem dX5_takePart_9 : decode cX5_takePart 9 = .ok (.istore_n 2, 1) := by decide +kernel
theorem dX5_takePart_10 : decode cX5_takePart 10 = .ok (.iload_n 2, 1) := by decide +kernel
theorem dX5_takePart_11 : decode cX5_takePart 11 = .ok (.ifCond .lt 29, 3) := by decide +kernel
theorem dX5_takePart_14 : decode cX5_takePart 14 = .ok (.aload_n 0, 1) := by decide +kernel
theorem dX5_takePart_15 : decode cX5_takePart 15 = .ok (.getfield 21, 3) := by decide +kernel
theorem dX5_takePart_18 : decode cX5_takePart 18 = .ok (.getfield 106, 3) := by decide +kernel
theorem dX5_takePart_21 : decode cX5_takePart 21 = .ok (.bipush 12, 2) := by decide +kernel
theorem dX5_takePart_23 : decode cX5_takePart 23 = .ok (.if_icmp .ge 17, 3) := by decide +kernel
theorem dX5_takePart_26 : decode cX5_takePart 26 = .ok (.aload_n 0, 1) := by decide +kernel
theorem dX5_takePart_27 : decode cX5_takePart 27 = .ok (.getfield 21, 3) := by decide +kernel
theorem dX5_takePart_30 : decode cX5_takePart 30 = .ok (.getfield 109, 3) := by decide +kernel
theorem dX5_takePart_33 : decode cX5_takePart 33 = .ok (.iload_n 2, 1) := by decide +kernel
theorem dX5_takePart_34 : decode cX5_takePart 34 = .ok (.iaload, 1) := by decide +kernel
theorem dX5_takePart_35 : decode cX5_takePart 35 = .ok (.bipush 8, 2) := by decide +kernel
theorem dX5_takePart_37 : decode cX5_takePart 37 = .ok (.if_icmp .lt 9, 3) := by decide +kernel
theorem dX5_takePart_40 : decode cX5_takePart 40 = .ok (.aload_n 0, 1) := by decide +kernel
theorem dX5_takePart_41 : decode cX5_takePart 41 = .ok (.iconst 2, 1) := by decide +kernel
theorem dX5_takePart_42 : decode cX5_takePart 42 = .ok (.invokevirtual 69, 3) := by decide +kernel
theorem dX5_takePart_45 : decode cX5_takePart 45 = .ok (.ireturn, 1) := by decide +kernel
theorem dX5_takePart_46 : decode cX5_takePart 46 = .ok (.aload_n 0, 1) := by decide +kernel
theorem dX5_takePart_47 : decode cX5_takePart 47 = .ok (.getfield 17, 3) := by decide +kernel
theorem dX5_takePart_50 : decode cX5_takePart 50 = .ok (.invokevirtual 73, 3) := by decide +kernel
theorem dX5_takePart_53 : decode cX5_takePart 53 = .ok (.aload_n 0, 1) := by decide +kernel
theorem dX5_takePart_54 : decode cX5_takePart 54 = .ok (.invokevirtual 99, 3) := by decide +kernel
theorem dX5_takePart_57 : decode cX5_takePart 57 = .ok (.ifCond .eq 12, 3) := by decide +kernel
theorem dX5_takePart_60 : decode cX5_takePart 60 = .ok (.aload_n 0, 1) := by decide +kernel
theorem dX5_takePart_61 : decode cX5_takePart 61 = .ok (.bipush 9, 2) := by decide +kernel
theorem dX5_takePart_63 : decode cX5_takePart 63 = .ok (.invokevirtual 90, 3) := by decide +kernel
theorem dX5_takePart_66 : decode cX5_takePart 66 = .ok (.ifCond .ne 5, 3) := by decide +kernel
theorem dX5_takePart_69 : decode cX5_takePart 69 = .ok (.iconst 0, 1) := by decide +kernel
theorem dX5_takePart_70 : decode cX5_takePart 70 = .ok (.ireturn, 1) := by decide +kernel
theorem dX5_takePart_71 : decode cX5_takePart 71 = .ok (.aload_n 0, 1) := by decide +kernel
theorem dX5_takePart_72 : decode cX5_takePart 72 = .ok (.getfield 21, 3) := by decide +kernel
theorem dX5_takePart_75 : decode cX5_takePart 75 = .ok (.getfield 106, 3) := by decide +kernel
theorem dX5_takePart_78 : decode cX5_takePart 78 = .ok (.istore_n 3, 1) := by decide +kernel
theorem dX5_takePart_79 : decode cX5_takePart 79 = .ok (.aload_n 0, 1) := by decide +kernel
theorem dX5_takePart_80 : decode cX5_takePart 80 = .ok (.getfield 21, 3) := by decide +kernel
theorem dX5_takePart_83 : decode cX5_takePart 83 = .ok (.getfield 112, 3) := by decide +kernel
theorem dX5_takePart_86 : decode cX5_takePart 86 = .ok (.iload_n 3, 1) := by decide +kernel
theorem dX5_takePart_87 : decode cX5_takePart 87 = .ok (.iload_n 2, 1) := by decide +kernel
theorem dX5_takePart_88 : decode cX5_takePart 88 = .ok (.iastore, 1) := by decide +kernel
theorem dX5_takePart_89 : decode cX5_takePart 89 = .ok (.aload_n 0, 1) := by decide +kernel
theorem dX5_takePart_90 : decode cX5_takePart 90 = .ok (.getfield 21, 3) := by decide +kernel
theorem dX5_takePart_93 : decode cX5_takePart 93 = .ok (.getfield 115, 3) := by decide +kernel
theorem dX5_takePart_96 : decode cX5_takePart 96 = .ok (.iload_n 3, 1) := by decide +kernel
theorem dX5_takePart_97 : decode cX5_takePart 97 = .ok (.iload_n 1, 1) := by decide +kernel
theorem dX5_takePart_98 : decode cX5_takePart 98 = .ok (.bastore, 1) := by decide +kernel
theorem dX5_takePart_99 : decode cX5_takePart 99 = .ok (.aload_n 0, 1) := by decide +kernel
theorem dX5_takePart_100 : decode cX5_takePart 100 = .ok (.getfield 21, 3) := by decide +kernel
theorem dX5_takePart_103 : decode cX5_takePart 103 = .ok (.getfield 119, 3) := by decide +kernel
theorem dX5_takePart_106 : decode cX5_takePart 106 = .ok (.iload_n 3, 1) := by decide +kernel
theorem dX5_takePart_107 : decode cX5_takePart 107 = .ok (.iconst 0, 1) := by decide +kernel
theorem dX5_takePart_108 : decode cX5_takePart 108 = .ok (.iastore, 1) := by decide +kernel
theorem dX5_takePart_109 : decode cX5_takePart 109 = .ok (.aload_n 0, 1) := by decide +kernel
theorem dX5_takePart_110 : decode cX5_takePart 110 = .ok (.iconst 0, 1) := by decide +kernel
theorem dX5_takePart_111 : decode cX5_takePart 111 = .ok (.bipush 19, 2) := by decide +kernel
theorem dX5_takePart_113 : decode cX5_takePart 113 = .ok (.invokevirtual 76, 3) := by decide +kernel
theorem dX5_takePart_116 : decode cX5_takePart 116 = .ok (.ifCond .ne 5, 3) := by decide +kernel
theorem dX5_takePart_119 : decode cX5_takePart 119 = .ok (.iconst 0, 1) := by decide +kernel
theorem dX5_takePart_120 : decode cX5_takePart 120 = .ok (.ireturn, 1) := by decide +kernel
theorem dX5_takePart_121 : decode cX5_takePart 121 = .ok (.aload_n 0, 1) := by decide +kernel
theorem dX5_takePart_122 : decode cX5_takePart 122 = .ok (.getfield 21, 3) := by decide +kernel
theorem dX5_takePart_125 : decode cX5_takePart 125 = .ok (.getfield 122, 3) := by decide +kernel
theorem dX5_takePart_128 : decode cX5_takePart 128 = .ok (.iload_n 3, 1) := by decide +kernel
theorem dX5_takePart_129 : decode cX5_takePart 129 = .ok (.aload_n 0, 1) := by decide +kernel
theorem dX5_takePart_130 : decode cX5_takePart 130 = .ok (.invokevirtual 80, 3) := by decide +kernel
theorem dX5_takePart_133 : decode cX5_takePart 133 = .ok (.iastore, 1) := by decide +kernel
theorem dX5_takePart_134 : decode cX5_takePart 134 = .ok (.aload_n 0, 1) := by decide +kernel
theorem dX5_takePart_135 : decode cX5_takePart 135 = .ok (.iconst 0, 1) := by decide +kernel
theorem dX5_takePart_136 : decode cX5_takePart 136 = .ok (.bipush 19, 2) := by decide +kernel
theorem dX5_takePart_138 : decode cX5_takePart 138 = .ok (.invokevirtual 76, 3) := by decide +kernel
theorem dX5_takePart_141 : decode cX5_takePart 141 = .ok (.ifCond .ne 5, 3) := by decide +kernel
theorem dX5_takePart_144 : decode cX5_takePart 144 = .ok (.iconst 0, 1) := by decide +kernel
theorem dX5_takePart_145 : decode cX5_takePart 145 = .ok (.ireturn, 1) := by decide +kernel
theorem dX5_takePart_146 : decode cX5_takePart 146 = .ok (.aload_n 0, 1) := by decide +kernel
theorem dX5_takePart_147 : decode cX5_takePart 147 = .ok (.getfield 21, 3) := by decide +kernel
theorem dX5_takePart_150 : decode cX5_takePart 150 = .ok (.getfield 125, 3) := by decide +kernel
theorem dX5_takePart_153 : decode cX5_takePart 153 = .ok (.iload_n 3, 1) := by decide +kernel
theorem dX5_takePart_154 : decode cX5_takePart 154 = .ok (.aload_n 0, 1) := by decide +kernel
theorem dX5_takePart_155 : decode cX5_takePart 155 = .ok (.invokevirtual 80, 3) := by decide +kernel
theorem dX5_takePart_158 : decode cX5_takePart 158 = .ok (.iastore, 1) := by decide +kernel
theorem dX5_takePart_159 : decode cX5_takePart 159 = .ok (.aload_n 0, 1) := by decide +kernel
theorem dX5_takePart_160 : decode cX5_takePart 160 = .ok (.iload_n 3, 1) := by decide +kernel
theorem dX5_takePart_161 : decode cX5_takePart 161 = .ok (.invokevirtual 128, 3) := by decide +kernel
theorem dX5_takePart_164 : decode cX5_takePart 164 = .ok (.ifCond .ne 5, 3) := by decide +kernel
theorem dX5_takePart_167 : decode cX5_takePart 167 = .ok (.iconst 0, 1) := by decide +kernel
theorem dX5_takePart_168 : decode cX5_takePart 168 = .ok (.ireturn, 1) := by decide +kernel
theorem dX5_takePart_169 : decode cX5_takePart 169 = .ok (.aload_n 0, 1) := by decide +kernel
theorem dX5_takePart_170 : decode cX5_takePart 170 = .ok (.getfield 21, 3) := by decide +kernel
theorem dX5_takePart_173 : decode cX5_takePart 173 = .ok (.dup, 1) := by decide +kernel
theorem dX5_takePart_174 : decode cX5_takePart 174 = .ok (.getfield 106, 3) := by decide +kernel
theorem dX5_takePart_177 : decode cX5_takePart 177 = .ok (.iconst 1, 1) := by decide +kernel
theorem dX5_takePart_178 : decode cX5_takePart 178 = .ok (.iadd, 1) := by decide +kernel
theorem dX5_takePart_179 : decode cX5_takePart 179 = .ok (.putfield 106, 3) := by decide +kernel
theorem dX5_takePart_182 : decode cX5_takePart 182 = .ok (.aload_n 0, 1) := by decide +kernel
theorem dX5_takePart_183 : decode cX5_takePart 183 = .ok (.getfield 21, 3) := by decide +kernel
theorem dX5_takePart_186 : decode cX5_takePart 186 = .ok (.getfield 109, 3) := by decide +kernel
theorem dX5_takePart_189 : decode cX5_takePart 189 = .ok (.iload_n 2, 1) := by decide +kernel
theorem dX5_takePart_190 : decode cX5_takePart 190 = .ok (.dup2, 1) := by decide +kernel
theorem dX5_takePart_191 : decode cX5_takePart 191 = .ok (.iaload, 1) := by decide +kernel
theorem dX5_takePart_192 : decode cX5_takePart 192 = .ok (.iconst 1, 1) := by decide +kernel
theorem dX5_takePart_193 : decode cX5_takePart 193 = .ok (.iadd, 1) := by decide +kernel
theorem dX5_takePart_194 : decode cX5_takePart 194 = .ok (.iastore, 1) := by decide +kernel
theorem dX5_takePart_195 : decode cX5_takePart 195 = .ok (.aload_n 0, 1) := by decide +kernel
theorem dX5_takePart_196 : decode cX5_takePart 196 = .ok (.bipush 59, 2) := by decide +kernel
theorem dX5_takePart_198 : decode cX5_takePart 198 = .ok (.invokevirtual 90, 3) := by decide +kernel
theorem dX5_takePart_201 : decode cX5_takePart 201 = .ok (.ireturn, 1) := by decide +kernel
theorem dX5_takeWords_0 : decode cX5_takeWords 0 = .ok (.aload_n 0, 1) := by decide +kernel
theorem dX5_takeWords_1 : decode cX5_takeWords 1 = .ok (.getfield 17, 3) := by decide +kernel
theorem dX5_takeWords_4 : decode cX5_takeWords 4 = .ok (.getfield 49, 3) := by decide +kernel
theorem dX5_takeWords_7 : decode cX5_takeWords 7 = .ok (.iconst 3, 1) := by decide +kernel
theorem dX5_takeWords_8 : decode cX5_takeWords 8 = .ok (.if_icmp .eq 9, 3) := by decide +kernel
theorem dX5_takeWords_11 : decode cX5_takeWords 11 = .ok (.aload_n 0, 1) := by decide +kernel
theorem dX5_takeWords_12 : decode cX5_takeWords 12 = .ok (.iconst 2, 1) := by decide +kernel
theorem dX5_takeWords_13 : decode cX5_takeWords 13 = .ok (.invokevirtual 69, 3) := by decide +kernel
theorem dX5_takeWords_16 : decode cX5_takeWords 16 = .ok (.ireturn, 1) := by decide +kernel
theorem dX5_takeWords_17 : decode cX5_takeWords 17 = .ok (.iconst 0, 1) := by decide +kernel
theorem dX5_takeWords_18 : decode cX5_takeWords 18 = .ok (.istore_n 2, 1) := by decide +kernel
theorem dX5_takeWords_19 : decode cX5_takeWords 19 = .ok (.iload_n 2, 1) := by decide +kernel
theorem dX5_takeWords_20 : decode cX5_takeWords 20 = .ok (.bipush 32, 2) := by decide +kernel
theorem dX5_takeWords_22 : decode cX5_takeWords 22 = .ok (.if_icmp .gt 41, 3) := by decide +kernel
theorem dX5_takeWords_25 : decode cX5_takeWords 25 = .ok (.aload_n 0, 1) := by decide +kernel
theorem dX5_takeWords_26 : decode cX5_takeWords 26 = .ok (.getfield 17, 3) := by decide +kernel
theorem dX5_takeWords_29 : decode cX5_takeWords 29 = .ok (.getfield 49, 3) := by decide +kernel
theorem dX5_takeWords_32 : decode cX5_takeWords 32 = .ok (.iconst 3, 1) := by decide +kernel
theorem dX5_takeWords_33 : decode cX5_takeWords 33 = .ok (.if_icmp .ne 30, 3) := by decide +kernel
theorem dX5_takeWords_36 : decode cX5_takeWords 36 = .ok (.aload_n 0, 1) := by decide +kernel
theorem dX5_takeWords_37 : decode cX5_takeWords 37 = .ok (.iload_n 1, 1) := by decide +kernel
theorem dX5_takeWords_38 : decode cX5_takeWords 38 = .ok (.invokevirtual 131, 3) := by decide +kernel
theorem dX5_takeWords_41 : decode cX5_takeWords 41 = .ok (.ifCond .ne 9, 3) := by decide +kernel
theorem dX5_takeWords_44 : decode cX5_takeWords 44 = .ok (.aload_n 0, 1) := by decide +kernel
theorem dX5_takeWords_45 : decode cX5_takeWords 45 = .ok (.iconst 5, 1) := by decide +kernel
theorem dX5_takeWords_46 : decode cX5_takeWords 46 = .ok (.invokevirtual 69, 3) := by decide +kernel
theorem dX5_takeWords_49 : decode cX5_takeWords 49 = .ok (.ireturn, 1) := by decide +kernel
theorem dX5_takeWords_50 : decode cX5_takeWords 50 = .ok (.aload_n 0, 1) := by decide +kernel
theorem dX5_takeWords_51 : decode cX5_takeWords 51 = .ok (.getfield 17, 3) := by decide +kernel
theorem dX5_takeWords_54 : decode cX5_takeWords 54 = .ok (.invokevirtual 73, 3) := by decide +kernel
theorem dX5_takeWords_57 : decode cX5_takeWords 57 = .ok (.iinc 2 1, 3) := by decide +kernel
theorem dX5_takeWords_60 : decode cX5_takeWords 60 = .ok (.goto (-41), 3) := by decide +kernel
theorem dX5_takeWords_63 : decode cX5_takeWords 63 = .ok (.iconst 1, 1) := by decide +kernel
theorem dX5_takeWords_64 : decode cX5_takeWords 64 = .ok (.ireturn, 1) := by decide +kernel
theorem dX5_takeSteps_0 : decode cX5_takeSteps 0 = .ok (.aload_n 0, 1) := by decide +kernel
theorem dX5_takeSteps_1 : decode cX5_takeSteps 1 = .ok (.getfield 21, 3) := by decide +kernel
theorem dX5_takeSteps_4 : decode cX5_takeSteps 4 = .ok (.getfield 115, 3) := by decide +kernel
theorem dX5_takeSteps_7 : decode cX5_takeSteps 7 = .ok (.iload_n 1, 1) := by decide +kernel
theorem dX5_takeSteps_8 : decode cX5_takeSteps 8 = .ok (.baload, 1) := by decide +kernel
theorem dX5_takeSteps_9 : decode cX5_takeSteps 9 = .ok (.ifCond .eq 8, 3) := by decide +kernel
theorem dX5_takeSteps_12 : decode cX5_takeSteps 12 = .ok (.ldc 134, 2) := by decide +kernel
theorem dX5_takeSteps_14 : decode cX5_takeSteps 14 = .ok (.goto 5, 3) := by decide +kernel
theorem dX5_takeSteps_17 : decode cX5_takeSteps 17 = .ok (.ldc 136, 2) := by decide +kernel
theorem dX5_takeSteps_19 : decode cX5_takeSteps 19 = .ok (.astore_n 2, 1) := by decide +kernel
theorem dX5_takeSteps_20 : decode cX5_takeSteps 20 = .ok (.iconst 0, 1) := by decide +kernel
theorem dX5_takeSteps_21 : decode cX5_takeSteps 21 = .ok (.istore_n 3, 1) := by decide +kernel
theorem dX5_takeSteps_22 : decode cX5_takeSteps 22 = .ok (.iload_n 3, 1) := by decide +kernel
theorem dX5_takeSteps_23 : decode cX5_takeSteps 23 = .ok (.aload_n 0, 1) := by decide +kernel
theorem dX5_takeSteps_24 : decode cX5_takeSteps 24 = .ok (.getfield 17, 3) := by decide +kernel
theorem dX5_takeSteps_27 : decode cX5_takeSteps 27 = .ok (.getfield 138, 3) := by decide +kernel
theorem dX5_takeSteps_30 : decode cX5_takeSteps 30 = .ok (.if_icmp .ge 76, 3) := by decide +kernel
theorem dX5_takeSteps_33 : decode cX5_takeSteps 33 = .ok (.aload_n 2, 1) := by decide +kernel
theorem dX5_takeSteps_34 : decode cX5_takeSteps 34 = .ok (.aload_n 0, 1) := by decide +kernel
theorem dX5_takeSteps_35 : decode cX5_takeSteps 35 = .ok (.getfield 17, 3) := by decide +kernel
theorem dX5_takeSteps_38 : decode cX5_takeSteps 38 = .ok (.iload_n 3, 1) := by decide +kernel
theorem dX5_takeSteps_39 : decode cX5_takeSteps 39 = .ok (.invokevirtual 141, 3) := by decide +kernel
theorem dX5_takeSteps_42 : decode cX5_takeSteps 42 = .ok (.i2c, 1) := by decide +kernel
theorem dX5_takeSteps_43 : decode cX5_takeSteps 43 = .ok (.invokevirtual 145, 3) := by decide +kernel
theorem dX5_takeSteps_46 : decode cX5_takeSteps 46 = .ok (.istore 4, 2) := by decide +kernel
theorem dX5_takeSteps_48 : decode cX5_takeSteps 48 = .ok (.aload_n 0, 1) := by decide +kernel
theorem dX5_takeSteps_49 : decode cX5_takeSteps 49 = .ok (.getfield 21, 3) := by decide +kernel
theorem dX5_takeSteps_52 : decode cX5_takeSteps 52 = .ok (.getfield 119, 3) := by decide +kernel
theorem dX5_takeSteps_55 : decode cX5_takeSteps 55 = .ok (.iload_n 1, 1) := by decide +kernel
theorem dX5_takeSteps_56 : decode cX5_takeSteps 56 = .ok (.iaload, 1) := by decide +kernel
theorem dX5_takeSteps_57 : decode cX5_takeSteps 57 = .ok (.istore 5, 2) := by decide +kernel
theorem dX5_takeSteps_59 : decode cX5_takeSteps 59 = .ok (.iload 4, 2) := by decide +kernel
theorem dX5_takeSteps_61 : decode cX5_takeSteps 61 = .ok (.ifCond .lt 10, 3) := by decide +kernel
theorem dX5_takeSteps_64 : decode cX5_takeSteps 64 = .ok (.iload 5, 2) := by decide +kernel
theorem dX5_takeSteps_66 : decode cX5_takeSteps 66 = .ok (.bipush 32, 2) := by decide +kernel
theorem dX5_takeSteps_68 : decode cX5_takeSteps 68 = .ok (.if_icmp .lt 5, 3) := by decide +kernel
theorem dX5_takeSteps_71 : decode cX5_takeSteps 71 = .ok (.iconst 0, 1) := by decide +kernel
theorem dX5_takeSteps_72 : decode cX5_takeSteps 72 = .ok (.ireturn, 1) := by decide +kernel
theorem dX5_takeSteps_73 : decode cX5_takeSteps 73 = .ok (.aload_n 0, 1) := by decide +kernel
theorem dX5_takeSteps_74 : decode cX5_takeSteps 74 = .ok (.getfield 21, 3) := by decide +kernel
theorem dX5_takeSteps_77 : decode cX5_takeSteps 77 = .ok (.getfield 150, 3) := by decide +kernel
theorem dX5_takeSteps_80 : decode cX5_takeSteps 80 = .ok (.iload_n 1, 1) := by decide +kernel
theorem dX5_takeSteps_81 : decode cX5_takeSteps 81 = .ok (.aaload, 1) := by decide +kernel
theorem dX5_takeSteps_82 : decode cX5_takeSteps 82 = .ok (.iload 5, 2) := by decide +kernel
theorem dX5_takeSteps_84 : decode cX5_takeSteps 84 = .ok (.iload 4, 2) := by decide +kernel
theorem dX5_takeSteps_86 : decode cX5_takeSteps 86 = .ok (.iastore, 1) := by decide +kernel
theorem dX5_takeSteps_87 : decode cX5_takeSteps 87 = .ok (.aload_n 0, 1) := by decide +kernel
theorem dX5_takeSteps_88 : decode cX5_takeSteps 88 = .ok (.getfield 21, 3) := by decide +kernel
theorem dX5_takeSteps_91 : decode cX5_takeSteps 91 = .ok (.getfield 119, 3) := by decide +kernel
theorem dX5_takeSteps_94 : decode cX5_takeSteps 94 = .ok (.iload_n 1, 1) := by decide +kernel
theorem dX5_takeSteps_95 : decode cX5_takeSteps 95 = .ok (.dup2, 1) := by decide +kernel
theorem dX5_takeSteps_96 : decode cX5_takeSteps 96 = .ok (.iaload, 1) := by decide +kernel
theorem dX5_takeSteps_97 : decode cX5_takeSteps 97 = .ok (.iconst 1, 1) := by decide +kernel
theorem dX5_takeSteps_98 : decode cX5_takeSteps 98 = .ok (.iadd, 1) := by decide +kernel
theorem dX5_takeSteps_99 : decode cX5_takeSteps 99 = .ok (.iastore, 1) := by decide +kernel
theorem dX5_takeSteps_100 : decode cX5_takeSteps 100 = .ok (.iinc 3 1, 3) := by decide +kernel
theorem dX5_takeSteps_103 : decode cX5_takeSteps 103 = .ok (.goto (-81), 3) := by decide +kernel
theorem dX5_takeSteps_106 : decode cX5_takeSteps 106 = .ok (.iconst 1, 1) := by decide +kernel
theorem dX5_takeSteps_107 : decode cX5_takeSteps 107 = .ok (.ireturn, 1) := by decide +kernel
theorem dX5_takeName_0 : decode cX5_takeName 0 = .ok (.aload_n 0, 1) := by decide +kernel
theorem dX5_takeName_1 : decode cX5_takeName 1 = .ok (.getfield 17, 3) := by decide +kernel
theorem dX5_takeName_4 : decode cX5_takeName 4 = .ok (.getfield 49, 3) := by decide +kernel
theorem dX5_takeName_7 : decode cX5_takeName 7 = .ok (.iconst 3, 1) := by decide +kernel
theorem dX5_takeName_8 : decode cX5_takeName 8 = .ok (.if_icmp .ne 15, 3) := by decide +kernel
theorem dX5_takeName_11 : decode cX5_takeName 11 = .ok (.aload_n 0, 1) := by decide +kernel
theorem dX5_takeName_12 : decode cX5_takeName 12 = .ok (.getfield 28, 3) := by decide +kernel
theorem dX5_takeName_15 : decode cX5_takeName 15 = .ok (.aload_n 0, 1) := by decide +kernel
theorem dX5_takeName_16 : decode cX5_takeName 16 = .ok (.getfield 11, 3) := by decide +kernel
theorem dX5_takeName_19 : decode cX5_takeName 19 = .ok (.arraylength, 1) := by decide +kernel
theorem dX5_takeName_20 : decode cX5_takeName 20 = .ok (.if_icmp .lt 9, 3) := by decide +kernel
theorem dX5_takeName_23 : decode cX5_takeName 23 = .ok (.aload_n 0, 1) := by decide +kernel
theorem dX5_takeName_24 : decode cX5_takeName 24 = .ok (.iconst 2, 1) := by decide +kernel
theorem dX5_takeName_25 : decode cX5_takeName 25 = .ok (.invokevirtual 69, 3) := by decide +kernel
theorem dX5_takeName_28 : decode cX5_takeName 28 = .ok (.ireturn, 1) := by decide +kernel
theorem dX5_takeName_29 : decode cX5_takeName 29 = .ok (.iconst 0, 1) := by decide +kernel
theorem dX5_takeName_30 : decode cX5_takeName 30 = .ok (.istore_n 1, 1) := by decide +kernel
theorem dX5_takeName_31 : decode cX5_takeName 31 = .ok (.iload_n 1, 1) := by decide +kernel
theorem dX5_takeName_32 : decode cX5_takeName 32 = .ok (.aload_n 0, 1) := by decide +kernel
theorem dX5_takeName_33 : decode cX5_takeName 33 = .ok (.getfield 28, 3) := by decide +kernel
theorem dX5_takeName_36 : decode cX5_takeName 36 = .ok (.if_icmp .ge 32, 3) := by decide +kernel
theorem dX5_takeName_39 : decode cX5_takeName 39 = .ok (.aload_n 0, 1) := by decide +kernel
theorem dX5_takeName_40 : decode cX5_takeName 40 = .ok (.getfield 11, 3) := by decide +kernel
theorem dX5_takeName_43 : decode cX5_takeName 43 = .ok (.iload_n 1, 1) := by decide +kernel
theorem dX5_takeName_44 : decode cX5_takeName 44 = .ok (.laload, 1) := by decide +kernel
theorem dX5_takeName_45 : decode cX5_takeName 45 = .ok (.aload_n 0, 1) := by decide +kernel
theorem dX5_takeName_46 : decode cX5_takeName 46 = .ok (.getfield 17, 3) := by decide +kernel
theorem dX5_takeName_49 : decode cX5_takeName 49 = .ok (.getfield 154, 3) := by decide +kernel
theorem dX5_takeName_52 : decode cX5_takeName 52 = .ok (.lcmp, 1) := by decide +kernel
theorem dX5_takeName_53 : decode cX5_takeName 53 = .ok (.ifCond .ne 9, 3) := by decide +kernel
theorem dX5_takeName_56 : decode cX5_takeName 56 = .ok (.aload_n 0, 1) := by decide +kernel
theorem dX5_takeName_57 : decode cX5_takeName 57 = .ok (.iconst 3, 1) := by decide +kernel
theorem dX5_takeName_58 : decode cX5_takeName 58 = .ok (.invokevirtual 69, 3) := by decide +kernel
theorem dX5_takeName_61 : decode cX5_takeName 61 = .ok (.ireturn, 1) := by decide +kernel
theorem dX5_takeName_62 : decode cX5_takeName 62 = .ok (.iinc 1 1, 3) := by decide +kernel
theorem dX5_takeName_65 : decode cX5_takeName 65 = .ok (.goto (-34), 3) := by decide +kernel
theorem dX5_takeName_68 : decode cX5_takeName 68 = .ok (.aload_n 0, 1) := by decide +kernel
theorem dX5_takeName_69 : decode cX5_takeName 69 = .ok (.getfield 11, 3) := by decide +kernel
theorem dX5_takeName_72 : decode cX5_takeName 72 = .ok (.aload_n 0, 1) := by decide +kernel
theorem dX5_takeName_73 : decode cX5_takeName 73 = .ok (.getfield 28, 3) := by decide +kernel
theorem dX5_takeName_76 : decode cX5_takeName 76 = .ok (.aload_n 0, 1) := by decide +kernel
theorem dX5_takeName_77 : decode cX5_takeName 77 = .ok (.getfield 17, 3) := by decide +kernel
theorem dX5_takeName_80 : decode cX5_takeName 80 = .ok (.getfield 154, 3) := by decide +kernel
theorem dX5_takeName_83 : decode cX5_takeName 83 = .ok (.lastore, 1) := by decide +kernel
theorem dX5_takeName_84 : decode cX5_takeName 84 = .ok (.aload_n 0, 1) := by decide +kernel
theorem dX5_takeName_85 : decode cX5_takeName 85 = .ok (.dup, 1) := by decide +kernel
theorem dX5_takeName_86 : decode cX5_takeName 86 = .ok (.getfield 28, 3) := by decide +kernel
theorem dX5_takeName_89 : decode cX5_takeName 89 = .ok (.iconst 1, 1) := by decide +kernel
theorem dX5_takeName_90 : decode cX5_takeName 90 = .ok (.iadd, 1) := by decide +kernel
theorem dX5_takeName_91 : decode cX5_takeName 91 = .ok (.putfield 28, 3) := by decide +kernel
theorem dX5_takeName_94 : decode cX5_takeName 94 = .ok (.aload_n 0, 1) := by decide +kernel
theorem dX5_takeName_95 : decode cX5_takeName 95 = .ok (.getfield 17, 3) := by decide +kernel
theorem dX5_takeName_98 : decode cX5_takeName 98 = .ok (.invokevirtual 73, 3) := by decide +kernel
theorem dX5_takeName_101 : decode cX5_takeName 101 = .ok (.iconst 1, 1) := by decide +kernel
theorem dX5_takeName_102 : decode cX5_takeName 102 = .ok (.ireturn, 1) := by decide +kernel
theorem dX5_isNumber_0 : decode cX5_isNumber 0 = .ok (.aload_n 0, 1) := by decide +kernel
theorem dX5_isNumber_1 : decode cX5_isNumber 1 = .ok (.getfield 17, 3) := by decide +kernel
theorem dX5_isNumber_4 : decode cX5_isNumber 4 = .ok (.getfield 49, 3) := by decide +kernel
theorem dX5_isNumber_7 : decode cX5_isNumber 7 = .ok (.iconst 2, 1) := by decide +kernel
theorem dX5_isNumber_8 : decode cX5_isNumber 8 = .ok (.if_icmp .eq 9, 3) := by decide +kernel
theorem dX5_isNumber_11 : decode cX5_isNumber 11 = .ok (.aload_n 0, 1) := by decide +kernel
theorem dX5_isNumber_12 : decode cX5_isNumber 12 = .ok (.iconst 2, 1) := by decide +kernel
theorem dX5_isNumber_13 : decode cX5_isNumber 13 = .ok (.invokevirtual 69, 3) := by decide +kernel
theorem dX5_isNumber_16 : decode cX5_isNumber 16 = .ok (.ireturn, 1) := by decide +kernel
theorem dX5_isNumber_17 : decode cX5_isNumber 17 = .ok (.aload_n 0, 1) := by decide +kernel
theorem dX5_isNumber_18 : decode cX5_isNumber 18 = .ok (.getfield 17, 3) := by decide +kernel
theorem dX5_isNumber_21 : decode cX5_isNumber 21 = .ok (.getfield 158, 3) := by decide +kernel
theorem dX5_isNumber_24 : decode cX5_isNumber 24 = .ok (.iload_n 1, 1) := by decide +kernel
theorem dX5_isNumber_25 : decode cX5_isNumber 25 = .ok (.if_icmp .lt 14, 3) := by decide +kernel
theorem dX5_isNumber_28 : decode cX5_isNumber 28 = .ok (.aload_n 0, 1) := by decide +kernel
theorem dX5_isNumber_29 : decode cX5_isNumber 29 = .ok (.getfield 17, 3) := by decide +kernel
theorem dX5_isNumber_32 : decode cX5_isNumber 32 = .ok (.getfield 158, 3) := by decide +kernel
theorem dX5_isNumber_35 : decode cX5_isNumber 35 = .ok (.iload_n 2, 1) := by decide +kernel
theorem dX5_isNumber_36 : decode cX5_isNumber 36 = .ok (.if_icmp .le 9, 3) := by decide +kernel
theorem dX5_isNumber_39 : decode cX5_isNumber 39 = .ok (.aload_n 0, 1) := by decide +kernel
theorem dX5_isNumber_40 : decode cX5_isNumber 40 = .ok (.iconst 4, 1) := by decide +kernel
theorem dX5_isNumber_41 : decode cX5_isNumber 41 = .ok (.invokevirtual 69, 3) := by decide +kernel
theorem dX5_isNumber_44 : decode cX5_isNumber 44 = .ok (.ireturn, 1) := by decide +kernel
theorem dX5_isNumber_45 : decode cX5_isNumber 45 = .ok (.iconst 1, 1) := by decide +kernel
theorem dX5_isNumber_46 : decode cX5_isNumber 46 = .ok (.ireturn, 1) := by decide +kernel
theorem dX5_takeNumber_0 : decode cX5_takeNumber 0 = .ok (.aload_n 0, 1) := by decide +kernel
theorem dX5_takeNumber_1 : decode cX5_takeNumber 1 = .ok (.getfield 17, 3) := by decide +kernel
theorem dX5_takeNumber_4 : decode cX5_takeNumber 4 = .ok (.getfield 158, 3) := by decide +kernel
theorem dX5_takeNumber_7 : decode cX5_takeNumber 7 = .ok (.istore_n 1, 1) := by decide +kernel
theorem dX5_takeNumber_8 : decode cX5_takeNumber 8 = .ok (.aload_n 0, 1) := by decide +kernel
theorem dX5_takeNumber_9 : decode cX5_takeNumber 9 = .ok (.getfield 17, 3) := by decide +kernel
theorem dX5_takeNumber_12 : decode cX5_takeNumber 12 = .ok (.invokevirtual 73, 3) := by decide +kernel
theorem dX5_takeNumber_15 : decode cX5_takeNumber 15 = .ok (.iload_n 1, 1) := by decide +kernel
theorem dX5_takeNumber_16 : decode cX5_takeNumber 16 = .ok (.ireturn, 1) := by decide +kernel
theorem dX5_take_0 : decode cX5_take 0 = .ok (.aload_n 0, 1) := by decide +kernel
theorem dX5_take_1 : decode cX5_take 1 = .ok (.getfield 17, 3) := by decide +kernel
theorem dX5_take_4 : decode cX5_take 4 = .ok (.getfield 49, 3) := by decide +kernel
theorem dX5_take_7 : decode cX5_take 7 = .ok (.iload_n 1, 1) := by decide +kernel
theorem dX5_take_8 : decode cX5_take 8 = .ok (.if_icmp .eq 9, 3) := by decide +kernel
theorem dX5_take_11 : decode cX5_take 11 = .ok (.aload_n 0, 1) := by decide +kernel
theorem dX5_take_12 : decode cX5_take 12 = .ok (.iconst 2, 1) := by decide +kernel
theorem dX5_take_13 : decode cX5_take 13 = .ok (.invokevirtual 69, 3) := by decide +kernel
theorem dX5_take_16 : decode cX5_take 16 = .ok (.ireturn, 1) := by decide +kernel
theorem dX5_take_17 : decode cX5_take 17 = .ok (.aload_n 0, 1) := by decide +kernel
theorem dX5_take_18 : decode cX5_take 18 = .ok (.getfield 17, 3) := by decide +kernel
theorem dX5_take_21 : decode cX5_take 21 = .ok (.invokevirtual 73, 3) := by decide +kernel
theorem dX5_take_24 : decode cX5_take 24 = .ok (.iconst 1, 1) := by decide +kernel
theorem dX5_take_25 : decode cX5_take 25 = .ok (.ireturn, 1) := by decide +kernel
theorem dX5_refuse_0 : decode cX5_refuse 0 = .ok (.aload_n 0, 1) := by decide +kernel
theorem dX5_refuse_1 : decode cX5_refuse 1 = .ok (.aload_n 0, 1) := by decide +kernel
theorem dX5_refuse_2 : decode cX5_refuse 2 = .ok (.getfield 17, 3) := by decide +kernel
theorem dX5_refuse_5 : decode cX5_refuse 5 = .ok (.getfield 49, 3) := by decide +kernel
theorem dX5_refuse_8 : decode cX5_refuse 8 = .ok (.iconst 1, 1) := by decide +kernel
theorem dX5_refuse_9 : decode cX5_refuse 9 = .ok (.if_icmp .ne 7, 3) := by decide +kernel
theorem dX5_refuse_12 : decode cX5_refuse 12 = .ok (.iconst 1, 1) := by decide +kernel
theorem dX5_refuse_13 : decode cX5_refuse 13 = .ok (.goto 4, 3) := by decide +kernel
theorem dX5_refuse_16 : decode cX5_refuse 16 = .ok (.iload_n 1, 1) := by decide +kernel
theorem dX5_refuse_17 : decode cX5_refuse 17 = .ok (.putfield 36, 3) := by decide +kernel
theorem dX5_refuse_20 : decode cX5_refuse 20 = .ok (.aload_n 0, 1) := by decide +kernel
theorem dX5_refuse_21 : decode cX5_refuse 21 = .ok (.aload_n 0, 1) := by decide +kernel
theorem dX5_refuse_22 : decode cX5_refuse 22 = .ok (.getfield 17, 3) := by decide +kernel
theorem dX5_refuse_25 : decode cX5_refuse 25 = .ok (.getfield 161, 3) := by decide +kernel
theorem dX5_refuse_28 : decode cX5_refuse 28 = .ok (.putfield 39, 3) := by decide +kernel
theorem dX5_refuse_31 : decode cX5_refuse 31 = .ok (.iconst 0, 1) := by decide +kernel
theorem dX5_refuse_32 : decode cX5_refuse 32 = .ok (.ireturn, 1) := by decide +kernel
theorem dX6_init_0 : decode cX6_init 0 = .ok (.aload_n 0, 1) := by decide +kernel
theorem dX6_init_1 : decode cX6_init 1 = .ok (.invokespecial 3, 3) := by decide +kernel
theorem dX6_init_4 : decode cX6_init 4 = .ok (.aload_n 0, 1) := by decide +kernel
theorem dX6_init_5 : decode cX6_init 5 = .ok (.bipush 10, 2) := by decide +kernel
theorem dX6_init_7 : decode cX6_init 7 = .ok (.bipush 12, 2) := by decide +kernel
theorem dX6_init_9 : decode cX6_init 9 = .ok (.multianewarray 11 2, 4) := by decide +kernel
theorem dX6_init_13 : decode cX6_init 13 = .ok (.putfield 13, 3) := by decide +kernel
theorem dX6_init_16 : decode cX6_init 16 = .ok (.aload_n 0, 1) := by decide +kernel
theorem dX6_init_17 : decode cX6_init 17 = .ok (.bipush 10, 2) := by decide +kernel
theorem dX6_init_19 : decode cX6_init 19 = .ok (.bipush 12, 2) := by decide +kernel
theorem dX6_init_21 : decode cX6_init 21 = .ok (.multianewarray 11 2, 4) := by decide +kernel
theorem dX6_init_25 : decode cX6_init 25 = .ok (.putfield 18, 3) := by decide +kernel
theorem dX6_init_28 : decode cX6_init 28 = .ok (.aload_n 0, 1) := by decide +kernel
theorem dX6_init_29 : decode cX6_init 29 = .ok (.bipush 10, 2) := by decide +kernel
theorem dX6_init_31 : decode cX6_init 31 = .ok (.newarray .int, 2) := by decide +kernel
theorem dX6_init_33 : decode cX6_init 33 = .ok (.putfield 21, 3) := by decide +kernel
theorem dX6_init_36 : decode cX6_init 36 = .ok (.aload_n 0, 1) := by decide +kernel
theorem dX6_init_37 : decode cX6_init 37 = .ok (.bipush 10, 2) := by decide +kernel
theorem dX6_init_39 : decode cX6_init 39 = .ok (.newarray .boolean, 2) := by decide +kernel
theorem dX6_init_41 : decode cX6_init 41 = .ok (.putfield 25, 3) := by decide +kernel
theorem dX6_init_44 : decode cX6_init 44 = .ok (.aload_n 0, 1) := by decide +kernel
theorem dX6_init_45 : decode cX6_init 45 = .ok (.bipush 10, 2) := by decide +kernel
theorem dX6_init_47 : decode cX6_init 47 = .ok (.newarray .boolean, 2) := by decide +kernel
theorem dX6_init_49 : decode cX6_init 49 = .ok (.putfield 29, 3) := by decide +kernel
theorem dX6_init_52 : decode cX6_init 52 = .ok (.aload_n 0, 1) := by decide +kernel
theorem dX6_init_53 : decode cX6_init 53 = .ok (.bipush 12, 2) := by decide +kernel
theorem dX6_init_55 : decode cX6_init 55 = .ok (.newarray .int, 2) := by decide +kernel
theorem dX6_init_57 : decode cX6_init 57 = .ok (.putfield 32, 3) := by decide +kernel
theorem dX6_init_60 : decode cX6_init 60 = .ok (.aload_n 0, 1) := by decide +kernel
theorem dX6_init_61 : decode cX6_init 61 = .ok (.bipush 10, 2) := by decide +kernel
theorem dX6_init_63 : decode cX6_init 63 = .ok (.newarray .int, 2) := by decide +kernel
theorem dX6_init_65 : decode cX6_init 65 = .ok (.putfield 35, 3) := by decide +kernel
theorem dX6_init_68 : decode cX6_init 68 = .ok (.aload_n 0, 1) := by decide +kernel
theorem dX6_init_69 : decode cX6_init 69 = .ok (.bipush 60, 2) := by decide +kernel
theorem dX6_init_71 : decode cX6_init 71 = .ok (.newarray .int, 2) := by decide +kernel
theorem dX6_init_73 : decode cX6_init 73 = .ok (.putfield 40, 3) := by decide +kernel
theorem dX6_init_76 : decode cX6_init 76 = .ok (.aload_n 0, 1) := by decide +kernel
theorem dX6_init_77 : decode cX6_init 77 = .ok (.bipush 10, 2) := by decide +kernel
theorem dX6_init_79 : decode cX6_init 79 = .ok (.newarray .int, 2) := by decide +kernel
theorem dX6_init_81 : decode cX6_init 81 = .ok (.putfield 43, 3) := by decide +kernel
theorem dX6_init_84 : decode cX6_init 84 = .ok (.return_, 1) := by decide +kernel
theorem dX6_variableOf_0 : decode cX6_variableOf 0 = .ok (.iload_n 0, 1) := by decide +kernel
theorem dX6_variableOf_1 : decode cX6_variableOf 1 = .ok (.tableswitch 119 5 24 #[110, 119, 97, 119, 119, 119, 119, 119, 119, 119, 119, 119, 95, 99, 101, 103, 105, 107, 113, 116], 95) := by decide +kernel
theorem dX6_variableOf_96 : decode cX6_variableOf 96 = .ok (.iconst 0, 1) := by decide +kernel
theorem dX6_variableOf_97 : decode cX6_variableOf 97 = .ok (.ireturn, 1) := by decide +kernel
theorem dX6_variableOf_98 : decode cX6_variableOf 98 = .ok (.iconst 1, 1) := by decide +kernel
theorem dX6_variableOf_99 : decode cX6_variableOf 99 = .ok (.ireturn, 1) := by decide +kernel
theorem dX6_variableOf_100 : decode cX6_variableOf 100 = .ok (.iconst 2, 1) := by decide +kernel
theorem dX6_variableOf_101 : decode cX6_variableOf 101 = .ok (.ireturn, 1) := by decide +kernel
theorem dX6_variableOf_102 : decode cX6_variableOf 102 = .ok (.iconst 3, 1) := by decide +kernel
theorem dX6_variableOf_103 : decode cX6_variableOf 103 = .ok (.ireturn, 1) := by decide +kernel
theorem dX6_variableOf_104 : decode cX6_variableOf 104 = .ok (.iconst 4, 1) := by decide +kernel
theorem dX6_variableOf_105 : decode cX6_variableOf 105 = .ok (.ireturn, 1) := by decide +kernel
theorem dX6_variableOf_106 : decode cX6_variableOf 106 = .ok (.iconst 5, 1) := by decide +kernel
theorem dX6_variableOf_107 : decode cX6_variableOf 107 = .ok (.ireturn, 1) := by decide +kernel
theorem dX6_variableOf_108 : decode cX6_variableOf 108 = .ok (.bipush 6, 2) := by decide +kernel
theorem dX6_variableOf_110 : decode cX6_variableOf 110 = .ok (.ireturn, 1) := by decide +kernel
theorem dX6_variableOf_111 : decode cX6_variableOf 111 = .ok (.bipush 7, 2) := by decide +kernel
theorem dX6_variableOf_113 : decode cX6_variableOf 113 = .ok (.ireturn, 1) := by decide +kernel
theorem dX6_variableOf_114 : decode cX6_variableOf 114 = .ok (.bipush 8, 2) := by decide +kernel
theorem dX6_variableOf_116 : decode cX6_variableOf 116 = .ok (.ireturn, 1) := by decide +kernel
theorem dX6_variableOf_117 : decode cX6_variableOf 117 = .ok (.bipush 9, 2) := by decide +kernel
theorem dX6_variableOf_119 : decode cX6_variableOf 119 = .ok (.ireturn, 1) := by decide +kernel
theorem dX6_variableOf_120 : decode cX6_variableOf 120 = .ok (.iconst (-1), 1) := by decide +kernel
theorem dX6_variableOf_121 : decode cX6_variableOf 121 = .ok (.ireturn, 1) := by decide +kernel
theorem dX6_open_0 : decode cX6_open 0 = .ok (.aload_n 0, 1) := by decide +kernel
theorem dX6_open_1 : decode cX6_open 1 = .ok (.aload_n 1, 1) := by decide +kernel
theorem dX6_open_2 : decode cX6_open 2 = .ok (.putfield 46, 3) := by decide +kernel
theorem dX6_open_5 : decode cX6_open 5 = .ok (.aload_n 0, 1) := by decide +kernel
theorem dX6_open_6 : decode cX6_open 6 = .ok (.aload_n 2, 1) := by decide +kernel
theorem dX6_open_7 : decode cX6_open 7 = .ok (.putfield 50, 3) := by decide +kernel
theorem dX6_open_10 : decode cX6_open 10 = .ok (.aload_n 0, 1) := by decide +kernel
theorem dX6_open_11 : decode cX6_open 11 = .ok (.iload_n 3, 1) := by decide +kernel
theorem dX6_open_12 : decode cX6_open 12 = .ok (.putfield 54, 3) := by decide +kernel
theorem dX6_open_15 : decode cX6_open 15 = .ok (.aload_n 0, 1) := by decide +kernel
theorem dX6_open_16 : decode cX6_open 16 = .ok (.iload 4, 2) := by decide +kernel
theorem dX6_open_18 : decode cX6_open 18 = .ok (.putfield 58, 3) := by decide +kernel
theorem dX6_open_21 : decode cX6_open 21 = .ok (.iconst 0, 1) := by decide +kernel
theorem dX6_open_22 : decode cX6_open 22 = .ok (.istore 5, 2) := by decide +kernel
theorem dX6_open_24 : decode cX6_open 24 = .ok (.iload 5, 2) := by decide +kernel
theorem dX6_open_26 : decode cX6_open 26 = .ok (.aload_n 0, 1) := by decide +kernel
theorem dX6_open_27 : decode cX6_open 27 = .ok (.getfield 54, 3) := by decide +kernel
theorem dX6_open_30 : decode cX6_open 30 = .ok (.if_icmp .ge 63, 3) := by decide +kernel
theorem dX6_open_33 : decode cX6_open 33 = .ok (.aload_n 0, 1) := by decide +kernel
theorem dX6_open_34 : decode cX6_open 34 = .ok (.getfield 13, 3) := by decide +kernel
theorem dX6_open_37 : decode cX6_open 37 = .ok (.iload 5, 2) := by decide +kernel
theorem dX6_open_39 : decode cX6_open 39 = .ok (.aaload, 1) := by decide +kernel
theorem dX6_open_40 : decode cX6_open 40 = .ok (.iconst (-1), 1) := by decide +kernel
theorem dX6_open_41 : decode cX6_open 41 = .ok (.invokestatic 61, 3) := by decide +kernel
theorem dX6_open_44 : decode cX6_open 44 = .ok (.aload_n 0, 1) := by decide +kernel
theorem dX6_open_45 : decode cX6_open 45 = .ok (.getfield 18, 3) := by decide +kernel
theorem dX6_open_48 : decode cX6_open 48 = .ok (.iload 5, 2) := by decide +kernel
theorem dX6_open_50 : decode cX6_open 50 = .ok (.aaload, 1) := by decide +kernel
theorem dX6_open_51 : decode cX6_open 51 = .ok (.iconst (-1), 1) := by decide +kernel
theorem dX6_open_52 : decode cX6_open 52 = .ok (.invokestatic 61, 3) := by decide +kernel
theorem dX6_open_55 : decode cX6_open 55 = .ok (.aload_n 0, 1) := by decide +kernel
theorem dX6_open_56 : decode cX6_open 56 = .ok (.getfield 21, 3) := by decide +kernel
theorem dX6_open_59 : decode cX6_open 59 = .ok (.iload 5, 2) := by decide +kernel
theorem dX6_open_61 : decode cX6_open 61 = .ok (.iconst (-1), 1) := by decide +kernel
theorem dX6_open_62 : decode cX6_open 62 = .ok (.iastore, 1) := by decide +kernel
theorem dX6_open_63 : decode cX6_open 63 = .ok (.aload_n 0, 1) := by decide +kernel
theorem dX6_open_64 : decode cX6_open 64 = .ok (.getfield 43, 3) := by decide +kernel
theorem dX6_open_67 : decode cX6_open 67 = .ok (.iload 5, 2) := by decide +kernel
theorem dX6_open_69 : decode cX6_open 69 = .ok (.iconst 0, 1) := by decide +kernel
theorem dX6_open_70 : decode cX6_open 70 = .ok (.iastore, 1) := by decide +kernel
theorem dX6_open_71 : decode cX6_open 71 = .ok (.aload_n 0, 1) := by decide +kernel
theorem dX6_open_72 : decode cX6_open 72 = .ok (.getfield 25, 3) := by decide +kernel
theorem dX6_open_75 : decode cX6_open 75 = .ok (.iload 5, 2) := by decide +kernel
theorem dX6_open_77 : decode cX6_open 77 = .ok (.iconst 0, 1) := by decide +kernel
theorem dX6_open_78 : decode cX6_open 78 = .ok (.bastore, 1) := by decide +kernel
theorem dX6_open_79 : decode cX6_open 79 = .ok (.aload_n 0, 1) := by decide +kernel
theorem dX6_open_80 : decode cX6_open 80 = .ok (.getfield 29, 3) := by decide +kernel
theorem dX6_open_83 : decode cX6_open 83 = .ok (.iload 5, 2) := by decide +kernel
theorem dX6_open_85 : decode cX6_open 85 = .ok (.iconst 0, 1) := by decide +kernel
theorem dX6_open_86 : decode cX6_open 86 = .ok (.bastore, 1) := by decide +kernel
theorem dX6_open_87 : decode cX6_open 87 = .ok (.iinc 5 1, 3) := by decide +kernel
theorem dX6_open_90 : decode cX6_open 90 = .ok (.goto (-66), 3) := by decide +kernel
theorem dX6_open_93 : decode cX6_open 93 = .ok (.iconst 0, 1) := by decide +kernel
theorem dX6_open_94 : decode cX6_open 94 = .ok (.istore 5, 2) := by decide +kernel
theorem dX6_open_96 : decode cX6_open 96 = .ok (.iload 5, 2) := by decide +kernel
theorem dX6_open_98 : decode cX6_open 98 = .ok (.aload_n 0, 1) := by decide +kernel
theorem dX6_open_99 : decode cX6_open 99 = .ok (.getfield 46, 3) := by decide +kernel
theorem dX6_open_102 : decode cX6_open 102 = .ok (.getfield 67, 3) := by decide +kernel
theorem dX6_open_105 : decode cX6_open 105 = .ok (.if_icmp .ge 26, 3) := by decide +kernel
theorem dX6_open_108 : decode cX6_open 108 = .ok (.aload_n 0, 1) := by decide +kernel
theorem dX6_open_109 : decode cX6_open 109 = .ok (.getfield 32, 3) := by decide +kernel
theorem dX6_open_112 : decode cX6_open 112 = .ok (.iload 5, 2) := by decide +kernel
theorem dX6_open_114 : decode cX6_open 114 = .ok (.aload_n 0, 1) := by decide +kernel
theorem dX6_open_115 : decode cX6_open 115 = .ok (.getfield 46, 3) := by decide +kernel
theorem dX6_open_118 : decode cX6_open 118 = .ok (.iload 5, 2) := by decide +kernel
theorem dX6_open_120 : decode cX6_open 120 = .ok (.iconst 0, 1) := by decide +kernel
theorem dX6_open_121 : decode cX6_open 121 = .ok (.invokevirtual 70, 3) := by decide +kernel
theorem dX6_open_124 : decode cX6_open 124 = .ok (.iastore, 1) := by decide +kernel
theorem dX6_open_125 : decode cX6_open 125 = .ok (.iinc 5 1, 3) := by decide +kernel
theorem dX6_open_128 : decode cX6_open 128 = .ok (.goto (-32), 3) := by decide +kernel
theorem dX6_open_131 : decode cX6_open 131 = .ok (.return_, 1) := by decide +kernel
theorem dX6_gather_0 : decode cX6_gather 0 = .ok (.iconst 0, 1) := by decide +kernel
theorem dX6_gather_1 : decode cX6_gather 1 = .ok (.istore_n 3, 1) := by decide +kernel
theorem dX6_gather_2 : decode cX6_gather 2 = .ok (.iload_n 3, 1) := by decide +kernel
theorem dX6_gather_3 : decode cX6_gather 3 = .ok (.aload_n 1, 1) := by decide +kernel
theorem dX6_gather_4 : decode cX6_gather 4 = .ok (.getfield 74, 3) := by decide +kernel
theorem dX6_gather_7 : decode cX6_gather 7 = .ok (.if_icmp .ge 171, 3) := by decide +kernel
theorem dX6_gather_10 : decode cX6_gather 10 = .ok (.aload_n 1, 1) := by decide +kernel
theorem dX6_gather_11 : decode cX6_gather 11 = .ok (.iload_n 3, 1) := by decide +kernel
theorem dX6_gather_12 : decode cX6_gather 12 = .ok (.iload_n 2, 1) := by decide +kernel
theorem dX6_gather_13 : decode cX6_gather 13 = .ok (.invokevirtual 79, 3) := by decide +kernel
theorem dX6_gather_16 : decode cX6_gather 16 = .ok (.ifCond .eq 156, 3) := by decide +kernel
theorem dX6_gather_19 : decode cX6_gather 19 = .ok (.aload_n 1, 1) := by decide +kernel
theorem dX6_gather_20 : decode cX6_gather 20 = .ok (.getfield 83, 3) := by decide +kernel
theorem dX6_gather_23 : decode cX6_gather 23 = .ok (.iload_n 3, 1) := by decide +kernel
theorem dX6_gather_24 : decode cX6_gather 24 = .ok (.iaload, 1) := by decide +kernel
theorem dX6_gather_25 : decode cX6_gather 25 = .ok (.iconst 4, 1) := by decide +kernel
theorem dX6_gather_26 : decode cX6_gather 26 = .ok (.if_icmp .eq 146, 3) := by decide +kernel
theorem dX6_gather_29 : decode cX6_gather 29 = .ok (.aload_n 1, 1) := by decide +kernel
theorem dX6_gather_30 : decode cX6_gather 30 = .ok (.getfield 86, 3) := by decide +kernel
theorem dX6_gather_33 : decode cX6_gather 33 = .ok (.iload_n 3, 1) := by decide +kernel
theorem dX6_gather_34 : decode cX6_gather 34 = .ok (.iaload, 1) := by decide +kernel
theorem dX6_gather_35 : decode cX6_gather 35 = .ok (.aload_n 0, 1) := by decide +kernel
theorem dX6_gather_36 : decode cX6_gather 36 = .ok (.getfield 58, 3) := by decide +kernel
theorem dX6_gather_39 : decode cX6_gather 39 = .ok (.if_icmp .le 6, 3) := by decide +kernel
theorem dX6_gather_42 : decode cX6_gather 42 = .ok (.goto 130, 3) := by decide +kernel
theorem dX6_gather_45 : decode cX6_gather 45 = .ok (.aload_n 1, 1) := by decide +kernel
theorem dX6_gather_46 : decode cX6_gather 46 = .ok (.getfield 89, 3) := by decide +kernel
theorem dX6_gather_49 : decode cX6_gather 49 = .ok (.iload_n 3, 1) := by decide +kernel
theorem dX6_gather_50 : decode cX6_gather 50 = .ok (.iaload, 1) := by decide +kernel
theorem dX6_gather_51 : decode cX6_gather 51 = .ok (.istore 4, 2) := by decide +kernel
theorem dX6_gather_53 : decode cX6_gather 53 = .ok (.aload_n 1, 1) := by decide +kernel
theorem dX6_gather_54 : decode cX6_gather 54 = .ok (.getfield 86, 3) := by decide +kernel
theorem dX6_gather_57 : decode cX6_gather 57 = .ok (.iload_n 3, 1) := by decide +kernel
theorem dX6_gather_58 : decode cX6_gather 58 = .ok (.iaload, 1) := by decide +kernel
theorem dX6_gather_59 : decode cX6_gather 59 = .ok (.istore 5, 2) := by decide +kernel
theorem dX6_gather_61 : decode cX6_gather 61 = .ok (.aload_n 1, 1) := by decide +kernel
theorem dX6_gather_62 : decode cX6_gather 62 = .ok (.getfield 83, 3) := by decide +kernel
theorem dX6_gather_65 : decode cX6_gather 65 = .ok (.iload_n 3, 1) := by decide +kernel
theorem dX6_gather_66 : decode cX6_gather 66 = .ok (.iaload, 1) := by decide +kernel
theorem dX6_gather_67 : decode cX6_gather 67 = .ok (.tableswitch 105 0 3 #[29, 46, 63, 94], 29) := by decide +kernel
theorem dX6_gather_96 : decode cX6_gather 96 = .ok (.aload_n 0, 1) := by decide +kernel
theorem dX6_gather_97 : decode cX6_gather 97 = .ok (.iload 4, 2) := by decide +kernel
theorem dX6_gather_99 : decode cX6_gather 99 = .ok (.aload_n 1, 1) := by decide +kernel
theorem dX6_gather_100 : decode cX6_gather 100 = .ok (.getfield 92, 3) := by decide +kernel
theorem dX6_gather_103 : decode cX6_gather 103 = .ok (.iload_n 3, 1) := by decide +kernel
theorem dX6_gather_104 : decode cX6_gather 104 = .ok (.iaload, 1) := by decide +kernel
theorem dX6_gather_105 : decode cX6_gather 105 = .ok (.iload 5, 2) := by decide +kernel
theorem dX6_gather_107 : decode cX6_gather 107 = .ok (.invokevirtual 95, 3) := by decide +kernel
theorem dX6_gather_110 : decode cX6_gather 110 = .ok (.goto 62, 3) := by decide +kernel
theorem dX6_gather_113 : decode cX6_gather 113 = .ok (.aload_n 0, 1) := by decide +kernel
theorem dX6_gather_114 : decode cX6_gather 114 = .ok (.iload 4, 2) := by decide +kernel
theorem dX6_gather_116 : decode cX6_gather 116 = .ok (.aload_n 1, 1) := by decide +kernel
theorem dX6_gather_117 : decode cX6_gather 117 = .ok (.getfield 92, 3) := by decide +kernel
theorem dX6_gather_120 : decode cX6_gather 120 = .ok (.iload_n 3, 1) := by decide +kernel
theorem dX6_gather_121 : decode cX6_gather 121 = .ok (.iaload, 1) := by decide +kernel
theorem dX6_gather_122 : decode cX6_gather 122 = .ok (.iload 5, 2) := by decide +kernel
theorem dX6_gather_124 : decode cX6_gather 124 = .ok (.invokevirtual 99, 3) := by decide +kernel
theorem dX6_gather_127 : decode cX6_gather 127 = .ok (.goto 45, 3) := by decide +kernel
theorem dX6_gather_130 : decode cX6_gather 130 = .ok (.aload_n 0, 1) := by decide +kernel
theorem dX6_gather_131 : decode cX6_gather 131 = .ok (.getfield 25, 3) := by decide +kernel
theorem dX6_gather_134 : decode cX6_gather 134 = .ok (.iload 4, 2) := by decide +kernel
theorem dX6_gather_136 : decode cX6_gather 136 = .ok (.dup2, 1) := by decide +kernel
theorem dX6_gather_137 : decode cX6_gather 137 = .ok (.baload, 1) := by decide +kernel
theorem dX6_gather_138 : decode cX6_gather 138 = .ok (.aload_n 0, 1) := by decide +kernel
theorem dX6_gather_139 : decode cX6_gather 139 = .ok (.getfield 58, 3) := by decide +kernel
theorem dX6_gather_142 : decode cX6_gather 142 = .ok (.aload_n 1, 1) := by decide +kernel
theorem dX6_gather_143 : decode cX6_gather 143 = .ok (.getfield 102, 3) := by decide +kernel
theorem dX6_gather_146 : decode cX6_gather 146 = .ok (.iload_n 3, 1) := by decide +kernel
theorem dX6_gather_147 : decode cX6_gather 147 = .ok (.iaload, 1) := by decide +kernel
theorem dX6_gather_148 : decode cX6_gather 148 = .ok (.if_icmp .gt 7, 3) := by decide +kernel
theorem dX6_gather_151 : decode cX6_gather 151 = .ok (.iconst 1, 1) := by decide +kernel
theorem dX6_gather_152 : decode cX6_gather 152 = .ok (.goto 4, 3) := by decide +kernel
theorem dX6_gather_155 : decode cX6_gather 155 = .ok (.iconst 0, 1) := by decide +kernel
theorem dX6_gather_156 : decode cX6_gather 156 = .ok (.ior, 1) := by decide +kernel
theorem dX6_gather_157 : decode cX6_gather 157 = .ok (.bastore, 1) := by decide +kernel
theorem dX6_gather_158 : decode cX6_gather 158 = .ok (.goto 14, 3) := by decide +kernel
theorem dX6_gather_161 : decode cX6_gather 161 = .ok (.aload_n 0, 1) := by decide +kernel
theorem dX6_gather_162 : decode cX6_gather 162 = .ok (.getfield 29, 3) := by decide +kernel
theorem dX6_gather_165 : decode cX6_gather 165 = .ok (.iload 4, 2) := by decide +kernel
theorem dX6_gather_167 : decode cX6_gather 167 = .ok (.iconst 1, 1) := by decide +kernel
theorem dX6_gather_168 : decode cX6_gather 168 = .ok (.bastore, 1) := by decide +kernel
theorem dX6_gather_169 : decode cX6_gather 169 = .ok (.goto 3, 3) := by decide +kernel
theorem dX6_gather_172 : decode cX6_gather 172 = .ok (.iinc 3 1, 3) := by decide +kernel
theorem dX6_gather_175 : decode cX6_gather 175 = .ok (.goto (-173), 3) := by decide +kernel
theorem dX6_gather_178 : decode cX6_gather 178 = .ok (.return_, 1) := by decide +kernel
theorem dX6_gatherKnown_0 : decode cX6_gatherKnown 0 = .ok (.aload_n 0, 1) := by decide +kernel
theorem dX6_gatherKnown_1 : decode cX6_gatherKnown 1 = .ok (.getfield 13, 3) := by decide +kernel
theorem dX6_gatherKnown_4 : decode cX6_gatherKnown 4 = .ok (.iload_n 1, 1) := by decide +kernel
theorem dX6_gatherKnown_5 : decode cX6_gatherKnown 5 = .ok (.aaload, 1) := by decide +kernel
theorem dX6_gatherKnown_6 : decode cX6_gatherKnown 6 = .ok (.iload_n 2, 1) := by decide +kernel
theorem dX6_gatherKnown_7 : decode cX6_gatherKnown 7 = .ok (.iaload, 1) := by decide +kernel
theorem dX6_gatherKnown_8 : decode cX6_gatherKnown 8 = .ok (.istore 4, 2) := by decide +kernel
theorem dX6_gatherKnown_10 : decode cX6_gatherKnown 10 = .ok (.aload_n 0, 1) := by decide +kernel
theorem dX6_gatherKnown_11 : decode cX6_gatherKnown 11 = .ok (.getfield 13, 3) := by decide +kernel
theorem dX6_gatherKnown_14 : decode cX6_gatherKnown 14 = .ok (.iload_n 1, 1) := by decide +kernel
theorem dX6_gatherKnown_15 : decode cX6_gatherKnown 15 = .ok (.aaload, 1) := by decide +kernel
theorem dX6_gatherKnown_16 : decode cX6_gatherKnown 16 = .ok (.iload_n 2, 1) := by decide +kernel
theorem dX6_gatherKnown_17 : decode cX6_gatherKnown 17 = .ok (.iload 4, 2) := by decide +kernel
theorem dX6_gatherKnown_19 : decode cX6_gatherKnown 19 = .ok (.iconst (-1), 1) := by decide +kernel
theorem dX6_gatherKnown_20 : decode cX6_gatherKnown 20 = .ok (.if_icmp .ne 7, 3) := by decide +kernel
theorem dX6_gatherKnown_23 : decode cX6_gatherKnown 23 = .ok (.iload_n 3, 1) := by decide +kernel
theorem dX6_gatherKnown_24 : decode cX6_gatherKnown 24 = .ok (.goto 9, 3) := by decide +kernel
theorem dX6_gatherKnown_27 : decode cX6_gatherKnown 27 = .ok (.iload 4, 2) := by decide +kernel
theorem dX6_gatherKnown_29 : decode cX6_gatherKnown 29 = .ok (.iload_n 3, 1) := by decide +kernel
theorem dX6_gatherKnown_30 : decode cX6_gatherKnown 30 = .ok (.invokestatic 105, 3) := by decide +kernel
theorem dX6_gatherKnown_33 : decode cX6_gatherKnown 33 = .ok (.iastore, 1) := by decide +kernel
theorem dX6_gatherKnown_34 : decode cX6_gatherKnown 34 = .ok (.return_, 1) := by decide +kernel
theorem dX6_gatherDanced_0 : decode cX6_gatherDanced 0 = .ok (.iload_n 3, 1) := by decide +kernel
theorem dX6_gatherDanced_1 : decode cX6_gatherDanced 1 = .ok (.aload_n 0, 1) := by decide +kernel
theorem dX6_gatherDanced_2 : decode cX6_gatherDanced 2 = .ok (.getfield 58, 3) := by decide +kernel
theorem dX6_gatherDanced_5 : decode cX6_gatherDanced 5 = .ok (.if_icmp .lt 4, 3) := by decide +kernel
theorem dX6_gatherDanced_8 : decode cX6_gatherDanced 8 = .ok (.return_, 1) := by decide +kernel
theorem dX6_gatherDanced_9 : decode cX6_gatherDanced 9 = .ok (.aload_n 0, 1) := by decide +kernel
theorem dX6_gatherDanced_10 : decode cX6_gatherDanced 10 = .ok (.getfield 18, 3) := by decide +kernel
theorem dX6_gatherDanced_13 : decode cX6_gatherDanced 13 = .ok (.iload_n 1, 1) := by decide +kernel
theorem dX6_gatherDanced_14 : decode cX6_gatherDanced 14 = .ok (.aaload, 1) := by decide +kernel
theorem dX6_gatherDanced_15 : decode cX6_gatherDanced 15 = .ok (.iload_n 2, 1) := by decide +kernel
theorem dX6_gatherDanced_16 : decode cX6_gatherDanced 16 = .ok (.aload_n 0, 1) := by decide +kernel
theorem dX6_gatherDanced_17 : decode cX6_gatherDanced 17 = .ok (.getfield 18, 3) := by decide +kernel
theorem dX6_gatherDanced_20 : decode cX6_gatherDanced 20 = .ok (.iload_n 1, 1) := by decide +kernel
theorem dX6_gatherDanced_21 : decode cX6_gatherDanced 21 = .ok (.aaload, 1) := by decide +kernel
theorem dX6_gatherDanced_22 : decode cX6_gatherDanced 22 = .ok (.iload_n 2, 1) := by decide +kernel
theorem dX6_gatherDanced_23 : decode cX6_gatherDanced 23 = .ok (.iaload, 1) := by decide +kernel
theorem dX6_gatherDanced_24 : decode cX6_gatherDanced 24 = .ok (.iload_n 3, 1) := by decide +kernel
theorem dX6_gatherDanced_25 : decode cX6_gatherDanced 25 = .ok (.invokestatic 110, 3) := by decide +kernel
theorem dX6_gatherDanced_28 : decode cX6_gatherDanced 28 = .ok (.iastore, 1) := by decide +kernel
theorem dX6_gatherDanced_29 : decode cX6_gatherDanced 29 = .ok (.aload_n 0, 1) := by decide +kernel
theorem dX6_gatherDanced_30 : decode cX6_gatherDanced 30 = .ok (.getfield 21, 3) := by decide +kernel
theorem dX6_gatherDanced_33 : decode cX6_gatherDanced 33 = .ok (.iload_n 1, 1) := by decide +kernel
theorem dX6_gatherDanced_34 : decode cX6_gatherDanced 34 = .ok (.aload_n 0, 1) := by decide +kernel
theorem dX6_gatherDanced_35 : decode cX6_gatherDanced 35 = .ok (.getfield 21, 3) := by decide +kernel
theorem dX6_gatherDanced_38 : decode cX6_gatherDanced 38 = .ok (.iload_n 1, 1) := by decide +kernel
theorem dX6_gatherDanced_39 : decode cX6_gatherDanced 39 = .ok (.iaload, 1) := by decide +kernel
theorem dX6_gatherDanced_40 : decode cX6_gatherDanced 40 = .ok (.iload_n 3, 1) := by decide +kernel
theorem dX6_gatherDanced_41 : decode cX6_gatherDanced 41 = .ok (.invokestatic 110, 3) := by decide +kernel
theorem dX6_gatherDanced_44 : decode cX6_gatherDanced 44 = .ok (.iastore, 1) := by decide +kernel
theorem dX6_gatherDanced_45 : decode cX6_gatherDanced 45 = .ok (.iload_n 3, 1) := by decide +kernel
theorem dX6_gatherDanced_46 : decode cX6_gatherDanced 46 = .ok (.aload_n 0, 1) := by decide +kernel
theorem dX6_gatherDanced_47 : decode cX6_gatherDanced 47 = .ok (.getfield 58, 3) := by decide +kernel
theorem dX6_gatherDanced_50 : decode cX6_gatherDanced 50 = .ok (.bipush 7, 2) := by decide +kernel
theorem dX6_gatherDanced_52 : decode cX6_gatherDanced 52 = .ok (.isub, 1) := by decide +kernel
theorem dX6_gatherDanced_53 : decode cX6_gatherDanced 53 = .ok (.if_icmp .lt 18, 3) := by decide +kernel
theorem dX6_gatherDanced_56 : decode cX6_gatherDanced 56 = .ok (.aload_n 0, 1) := by decide +kernel
theorem dX6_gatherDanced_57 : decode cX6_gatherDanced 57 = .ok (.getfield 43, 3) := by decide +kernel
theorem dX6_gatherDanced_60 : decode cX6_gatherDanced 60 = .ok (.iload_n 1, 1) := by decide +kernel
theorem dX6_gatherDanced_61 : decode cX6_gatherDanced 61 = .ok (.dup2, 1) := by decide +kernel
theorem dX6_gatherDanced_62 : decode cX6_gatherDanced 62 = .ok (.iaload, 1) := by decide +kernel
theorem dX6_gatherDanced_63 : decode cX6_gatherDanced 63 = .ok (.aload_n 0, 1) := by decide +kernel
theorem dX6_gatherDanced_64 : decode cX6_gatherDanced 64 = .ok (.getfield 32, 3) := by decide +kernel
theorem dX6_gatherDanced_67 : decode cX6_gatherDanced 67 = .ok (.iload_n 2, 1) := by decide +kernel
theorem dX6_gatherDanced_68 : decode cX6_gatherDanced 68 = .ok (.iaload, 1) := by decide +kernel
theorem dX6_gatherDanced_69 : decode cX6_gatherDanced 69 = .ok (.iadd, 1) := by decide +kernel
theorem dX6_gatherDanced_70 : decode cX6_gatherDanced 70 = .ok (.iastore, 1) := by decide +kernel
theorem dX6_gatherDanced_71 : decode cX6_gatherDanced 71 = .ok (.return_, 1) := by decide +kernel
theorem dX6_isKnown_0 : decode cX6_isKnown 0 = .ok (.aload_n 0, 1) := by decide +kernel
theorem dX6_isKnown_1 : decode cX6_isKnown 1 = .ok (.getfield 13, 3) := by decide +kernel
theorem dX6_isKnown_4 : decode cX6_isKnown 4 = .ok (.iload_n 1, 1) := by decide +kernel
theorem dX6_isKnown_5 : decode cX6_isKnown 5 = .ok (.aaload, 1) := by decide +kernel
theorem dX6_isKnown_6 : decode cX6_isKnown 6 = .ok (.iload_n 2, 1) := by decide +kernel
theorem dX6_isKnown_7 : decode cX6_isKnown 7 = .ok (.iaload, 1) := by decide +kernel
theorem dX6_isKnown_8 : decode cX6_isKnown 8 = .ok (.iconst (-1), 1) := by decide +kernel
theorem dX6_isKnown_9 : decode cX6_isKnown 9 = .ok (.if_icmp .eq 7, 3) := by decide +kernel
theorem dX6_isKnown_12 : decode cX6_isKnown 12 = .ok (.iconst 1, 1) := by decide +kernel
theorem dX6_isKnown_13 : decode cX6_isKnown 13 = .ok (.goto 4, 3) := by decide +kernel
theorem dX6_isKnown_16 : decode cX6_isKnown 16 = .ok (.iconst 0, 1) := by decide +kernel
theorem dX6_isKnown_17 : decode cX6_isKnown 17 = .ok (.ireturn, 1) := by decide +kernel
theorem dX6_daysKnown_0 : decode cX6_daysKnown 0 = .ok (.aload_n 0, 1) := by decide +kernel
theorem dX6_daysKnown_1 : decode cX6_daysKnown 1 = .ok (.aload_n 0, 1) := by decide +kernel
theorem dX6_daysKnown_2 : decode cX6_daysKnown 2 = .ok (.getfield 13, 3) := by decide +kernel
theorem dX6_daysKnown_5 : decode cX6_daysKnown 5 = .ok (.iload_n 1, 1) := by decide +kernel
theorem dX6_daysKnown_6 : decode cX6_daysKnown 6 = .ok (.aaload, 1) := by decide +kernel
theorem dX6_daysKnown_7 : decode cX6_daysKnown 7 = .ok (.iload_n 2, 1) := by decide +kernel
theorem dX6_daysKnown_8 : decode cX6_daysKnown 8 = .ok (.iaload, 1) := by decide +kernel
theorem dX6_daysKnown_9 : decode cX6_daysKnown 9 = .ok (.invokevirtual 113, 3) := by decide +kernel
theorem dX6_daysKnown_12 : decode cX6_daysKnown 12 = .ok (.ireturn, 1) := by decide +kernel
theorem dX6_daysSinceDanced_0 : decode cX6_daysSinceDanced 0 = .ok (.aload_n 0, 1) := by decide +kernel
theorem dX6_daysSinceDanced_1 : decode cX6_daysSinceDanced 1 = .ok (.aload_n 0, 1) := by decide +kernel
theorem dX6_daysSinceDanced_2 : decode cX6_daysSinceDanced 2 = .ok (.getfield 18, 3) := by decide +kernel
theorem dX6_daysSinceDanced_5 : decode cX6_daysSinceDanced 5 = .ok (.iload_n 1, 1) := by decide +kernel
theorem dX6_daysSinceDanced_6 : decode cX6_daysSinceDanced 6 = .ok (.aaload, 1) := by decide +kernel
theorem dX6_daysSinceDanced_7 : decode cX6_daysSinceDanced 7 = .ok (.iload_n 2, 1) := by decide +kernel
theorem dX6_daysSinceDanced_8 : decode cX6_daysSinceDanced 8 = .ok (.iaload, 1) := by decide +kernel
theorem dX6_daysSinceDanced_9 : decode cX6_daysSinceDanced 9 = .ok (.invokevirtual 113, 3) := by decide +kernel
theorem dX6_daysSinceDanced_12 : decode cX6_daysSinceDanced 12 = .ok (.ireturn, 1) := by decide +kernel
theorem dX6_daysIdle_0 : decode cX6_daysIdle 0 = .ok (.aload_n 0, 1) := by decide +kernel
theorem dX6_daysIdle_1 : decode cX6_daysIdle 1 = .ok (.aload_n 0, 1) := by decide +kernel
theorem dX6_daysIdle_2 : decode cX6_daysIdle 2 = .ok (.getfield 21, 3) := by decide +kernel
theorem dX6_daysIdle_5 : decode cX6_daysIdle 5 = .ok (.iload_n 1, 1) := by decide +kernel
theorem dX6_daysIdle_6 : decode cX6_daysIdle 6 = .ok (.iaload, 1) := by decide +kernel
theorem dX6_daysIdle_7 : decode cX6_daysIdle 7 = .ok (.invokevirtual 113, 3) := by decide +kernel
theorem dX6_daysIdle_10 : decode cX6_daysIdle 10 = .ok (.ireturn, 1) := by decide +kernel
theorem dX6_daysSince_0 : decode cX6_daysSince 0 = .ok (.iload_n 1, 1) := by decide +kernel
theorem dX6_daysSince_1 : decode cX6_daysSince 1 = .ok (.iconst (-1), 1) := by decide +kernel
theorem dX6_daysSince_2 : decode cX6_daysSince 2 = .ok (.if_icmp .ne 9, 3) := by decide +kernel
theorem dX6_daysSince_5 : decode cX6_daysSince 5 = .ok (.sipush 999, 3) := by decide +kernel
theorem dX6_daysSince_8 : decode cX6_daysSince 8 = .ok (.goto 9, 3) := by decide +kernel
theorem dX6_daysSince_11 : decode cX6_daysSince 11 = .ok (.aload_n 0, 1) := by decide +kernel
theorem dX6_daysSince_12 : decode cX6_daysSince 12 = .ok (.getfield 58, 3) := by decide +kernel
theorem dX6_daysSince_15 : decode cX6_daysSince 15 = .ok (.iload_n 1, 1) := by decide +kernel
theorem dX6_daysSince_16 : decode cX6_daysSince 16 = .ok (.isub, 1) := by decide +kernel
theorem dX6_daysSince_17 : decode cX6_daysSince 17 = .ok (.ireturn, 1) := by decide +kernel
theorem dX6_isFit_0 : decode cX6_isFit 0 = .ok (.aload_n 0, 1) := by decide +kernel
theorem dX6_isFit_1 : decode cX6_isFit 1 = .ok (.iload_n 1, 1) := by decide +kernel
theorem dX6_isFit_2 : decode cX6_isFit 2 = .ok (.iload_n 2, 1) := by decide +kernel
theorem dX6_isFit_3 : decode cX6_isFit 3 = .ok (.invokevirtual 117, 3) := by decide +kernel
theorem dX6_isFit_6 : decode cX6_isFit 6 = .ok (.ifCond .eq 18, 3) := by decide +kernel
theorem dX6_isFit_9 : decode cX6_isFit 9 = .ok (.aload_n 0, 1) := by decide +kernel
theorem dX6_isFit_10 : decode cX6_isFit 10 = .ok (.iconst 0, 1) := by decide +kernel
theorem dX6_isFit_11 : decode cX6_isFit 11 = .ok (.iload_n 1, 1) := by decide +kernel
theorem dX6_isFit_12 : decode cX6_isFit 12 = .ok (.iload_n 2, 1) := by decide +kernel
theorem dX6_isFit_13 : decode cX6_isFit 13 = .ok (.iconst 1, 1) := by decide +kernel
theorem dX6_isFit_14 : decode cX6_isFit 14 = .ok (.invokevirtual 120, 3) := by decide +kernel
theorem dX6_isFit_17 : decode cX6_isFit 17 = .ok (.ifCond .eq 7, 3) := by decide +kernel
theorem dX6_isFit_20 : decode cX6_isFit 20 = .ok (.iconst 1, 1) := by decide +kernel
theorem dX6_isFit_21 : decode cX6_isFit 21 = .ok (.goto 4, 3) := by decide +kernel
theorem dX6_isFit_24 : decode cX6_isFit 24 = .ok (.iconst 0, 1) := by decide +kernel
theorem dX6_isFit_25 : decode cX6_isFit 25 = .ok (.ireturn, 1) := by decide +kernel
theorem dX6_isReady_0 : decode cX6_isReady 0 = .ok (.aload_n 0, 1) := by decide +kernel
theorem dX6_isReady_1 : decode cX6_isReady 1 = .ok (.iload_n 1, 1) := by decide +kernel
theorem dX6_isReady_2 : decode cX6_isReady 2 = .ok (.iload_n 2, 1) := by decide +kernel
theorem dX6_isReady_3 : decode cX6_isReady 3 = .ok (.invokevirtual 124, 3) := by decide +kernel
theorem dX6_isReady_6 : decode cX6_isReady 6 = .ok (.ifCond .eq 25, 3) := by decide +kernel
theorem dX6_isReady_9 : decode cX6_isReady 9 = .ok (.aload_n 0, 1) := by decide +kernel
theorem dX6_isReady_10 : decode cX6_isReady 10 = .ok (.getfield 25, 3) := by decide +kernel
theorem dX6_isReady_13 : decode cX6_isReady 13 = .ok (.iload_n 1, 1) := by decide +kernel
theorem dX6_isReady_14 : decode cX6_isReady 14 = .ok (.baload, 1) := by decide +kernel
theorem dX6_isReady_15 : decode cX6_isReady 15 = .ok (.ifCond .ne 16, 3) := by decide +kernel
theorem dX6_isReady_18 : decode cX6_isReady 18 = .ok (.aload_n 0, 1) := by decide +kernel
theorem dX6_isReady_19 : decode cX6_isReady 19 = .ok (.getfield 29, 3) := by decide +kernel
theorem dX6_isReady_22 : decode cX6_isReady 22 = .ok (.iload_n 1, 1) := by decide +kernel
theorem dX6_isReady_23 : decode cX6_isReady 23 = .ok (.baload, 1) := by decide +kernel
theorem dX6_isReady_24 : decode cX6_isReady 24 = .ok (.ifCond .ne 7, 3) := by decide +kernel
theorem dX6_isReady_27 : decode cX6_isReady 27 = .ok (.iconst 1, 1) := by decide +kernel
theorem dX6_isReady_28 : decode cX6_isReady 28 = .ok (.goto 4, 3) := by decide +kernel
theorem dX6_isReady_31 : decode cX6_isReady 31 = .ok (.iconst 0, 1) := by decide +kernel
theorem dX6_isReady_32 : decode cX6_isReady 32 = .ok (.ireturn, 1) := by decide +kernel
theorem dX6_price_0 : decode cX6_price 0 = .ok (.aload_n 0, 1) := by decide +kernel
theorem dX6_price_1 : decode cX6_price 1 = .ok (.iconst 2, 1) := by decide +kernel
theorem dX6_price_2 : decode cX6_price 2 = .ok (.iload_n 1, 1) := by decide +kernel
theorem dX6_price_3 : decode cX6_price 3 = .ok (.iload_n 2, 1) := by decide +kernel
theorem dX6_price_4 : decode cX6_price 4 = .ok (.iconst 0, 1) := by decide +kernel
theorem dX6_price_5 : decode cX6_price 5 = .ok (.invokevirtual 120, 3) := by decide +kernel
theorem dX6_price_8 : decode cX6_price 8 = .ok (.ireturn, 1) := by decide +kernel
theorem dX6_valueOf_0 : decode cX6_valueOf 0 = .ok (.aload_n 0, 1) := by decide +kernel
theorem dX6_valueOf_1 : decode cX6_valueOf 1 = .ok (.getfield 50, 3) := by decide +kernel
theorem dX6_valueOf_4 : decode cX6_valueOf 4 = .ok (.ifnull 14, 3) := by decide +kernel
theorem dX6_valueOf_7 : decode cX6_valueOf 7 = .ok (.aload_n 0, 1) := by decide +kernel
theorem dX6_valueOf_8 : decode cX6_valueOf 8 = .ok (.getfield 50, 3) := by decide +kernel
theorem dX6_valueOf_11 : decode cX6_valueOf 11 = .ok (.iload_n 1, 1) := by decide +kernel
theorem dX6_valueOf_12 : decode cX6_valueOf 12 = .ok (.invokevirtual 127, 3) := by decide +kernel
theorem dX6_valueOf_15 : decode cX6_valueOf 15 = .ok (.ifCond .ne 6, 3) := by decide +kernel
theorem dX6_valueOf_18 : decode cX6_valueOf 18 = .ok (.iload 4, 2) := by decide +kernel
theorem dX6_valueOf_20 : decode cX6_valueOf 20 = .ok (.ireturn, 1) := by decide +kernel
theorem dX6_valueOf_21 : decode cX6_valueOf 21 = .ok (.aload_n 0, 1) := by decide +kernel
theorem dX6_valueOf_22 : decode cX6_valueOf 22 = .ok (.getfield 35, 3) := by decide +kernel
theorem dX6_valueOf_25 : decode cX6_valueOf 25 = .ok (.iconst 0, 1) := by decide +kernel
theorem dX6_valueOf_26 : decode cX6_valueOf 26 = .ok (.iload_n 2, 1) := by decide +kernel
theorem dX6_valueOf_27 : decode cX6_valueOf 27 = .ok (.iastore, 1) := by decide +kernel
theorem dX6_valueOf_28 : decode cX6_valueOf 28 = .ok (.aload_n 0, 1) := by decide +kernel
theorem dX6_valueOf_29 : decode cX6_valueOf 29 = .ok (.getfield 35, 3) := by decide +kernel
theorem dX6_valueOf_32 : decode cX6_valueOf 32 = .ok (.iconst 1, 1) := by decide +kernel
theorem dX6_valueOf_33 : decode cX6_valueOf 33 = .ok (.iload_n 3, 1) := by decide +kernel
theorem dX6_valueOf_34 : decode cX6_valueOf 34 = .ok (.iastore, 1) := by decide +kernel
theorem dX6_valueOf_35 : decode cX6_valueOf 35 = .ok (.aload_n 0, 1) := by decide +kernel
theorem dX6_valueOf_36 : decode cX6_valueOf 36 = .ok (.getfield 35, 3) := by decide +kernel
theorem dX6_valueOf_39 : decode cX6_valueOf 39 = .ok (.iconst 2, 1) := by decide +kernel
theorem dX6_valueOf_40 : decode cX6_valueOf 40 = .ok (.aload_n 0, 1) := by decide +kernel
theorem dX6_valueOf_41 : decode cX6_valueOf 41 = .ok (.iload_n 2, 1) := by decide +kernel
theorem dX6_valueOf_42 : decode cX6_valueOf 42 = .ok (.iload_n 3, 1) := by decide +kernel
theorem dX6_valueOf_43 : decode cX6_valueOf 43 = .ok (.invokevirtual 131, 3) := by decide +kernel
theorem dX6_valueOf_46 : decode cX6_valueOf 46 = .ok (.iastore, 1) := by decide +kernel
theorem dX6_valueOf_47 : decode cX6_valueOf 47 = .ok (.aload_n 0, 1) := by decide +kernel
theorem dX6_valueOf_48 : decode cX6_valueOf 48 = .ok (.getfield 35, 3) := by decide +kernel
theorem dX6_valueOf_51 : decode cX6_valueOf 51 = .ok (.iconst 3, 1) := by decide +kernel
theorem dX6_valueOf_52 : decode cX6_valueOf 52 = .ok (.aload_n 0, 1) := by decide +kernel
theorem dX6_valueOf_53 : decode cX6_valueOf 53 = .ok (.iload_n 2, 1) := by decide +kernel
theorem dX6_valueOf_54 : decode cX6_valueOf 54 = .ok (.iload_n 3, 1) := by decide +kernel
theorem dX6_valueOf_55 : decode cX6_valueOf 55 = .ok (.invokevirtual 134, 3) := by decide +kernel
theorem dX6_valueOf_58 : decode cX6_valueOf 58 = .ok (.iastore, 1) := by decide +kernel
theorem dX6_valueOf_59 : decode cX6_valueOf 59 = .ok (.aload_n 0, 1) := by decide +kernel
theorem dX6_valueOf_60 : decode cX6_valueOf 60 = .ok (.getfield 35, 3) := by decide +kernel
theorem dX6_valueOf_63 : decode cX6_valueOf 63 = .ok (.iconst 4, 1) := by decide +kernel
theorem dX6_valueOf_64 : decode cX6_valueOf 64 = .ok (.aload_n 0, 1) := by decide +kernel
theorem dX6_valueOf_65 : decode cX6_valueOf 65 = .ok (.getfield 43, 3) := by decide +kernel
theorem dX6_valueOf_68 : decode cX6_valueOf 68 = .ok (.iload_n 2, 1) := by decide +kernel
theorem dX6_valueOf_69 : decode cX6_valueOf 69 = .ok (.iaload, 1) := by decide +kernel
theorem dX6_valueOf_70 : decode cX6_valueOf 70 = .ok (.iastore, 1) := by decide +kernel
theorem dX6_valueOf_71 : decode cX6_valueOf 71 = .ok (.aload_n 0, 1) := by decide +kernel
theorem dX6_valueOf_72 : decode cX6_valueOf 72 = .ok (.getfield 35, 3) := by decide +kernel
theorem dX6_valueOf_75 : decode cX6_valueOf 75 = .ok (.iconst 5, 1) := by decide +kernel
theorem dX6_valueOf_76 : decode cX6_valueOf 76 = .ok (.aload_n 0, 1) := by decide +kernel
theorem dX6_valueOf_77 : decode cX6_valueOf 77 = .ok (.iload_n 2, 1) := by decide +kernel
theorem dX6_valueOf_78 : decode cX6_valueOf 78 = .ok (.invokevirtual 137, 3) := by decide +kernel
theorem dX6_valueOf_81 : decode cX6_valueOf 81 = .ok (.iastore, 1) := by decide +kernel
theorem dX6_valueOf_82 : decode cX6_valueOf 82 = .ok (.aload_n 0, 1) := by decide +kernel
theorem dX6_valueOf_83 : decode cX6_valueOf 83 = .ok (.getfield 35, 3) := by decide +kernel
theorem dX6_valueOf_86 : decode cX6_valueOf 86 = .ok (.bipush 6, 2) := by decide +kernel
theorem dX6_valueOf_88 : decode cX6_valueOf 88 = .ok (.aload_n 0, 1) := by decide +kernel
theorem dX6_valueOf_89 : decode cX6_valueOf 89 = .ok (.getfield 32, 3) := by decide +kernel
theorem dX6_valueOf_92 : decode cX6_valueOf 92 = .ok (.iload_n 3, 1) := by decide +kernel
theorem dX6_valueOf_93 : decode cX6_valueOf 93 = .ok (.iaload, 1) := by decide +kernel
theorem dX6_valueOf_94 : decode cX6_valueOf 94 = .ok (.iastore, 1) := by decide +kernel
theorem dX6_valueOf_95 : decode cX6_valueOf 95 = .ok (.aload_n 0, 1) := by decide +kernel
theorem dX6_valueOf_96 : decode cX6_valueOf 96 = .ok (.getfield 35, 3) := by decide +kernel
theorem dX6_valueOf_99 : decode cX6_valueOf 99 = .ok (.bipush 7, 2) := by decide +kernel
theorem dX6_valueOf_101 : decode cX6_valueOf 101 = .ok (.aload_n 0, 1) := by decide +kernel
theorem dX6_valueOf_102 : decode cX6_valueOf 102 = .ok (.getfield 46, 3) := by decide +kernel
theorem dX6_valueOf_105 : decode cX6_valueOf 105 = .ok (.getfield 140, 3) := by decide +kernel
theorem dX6_valueOf_108 : decode cX6_valueOf 108 = .ok (.iastore, 1) := by decide +kernel
theorem dX6_valueOf_109 : decode cX6_valueOf 109 = .ok (.aload_n 0, 1) := by decide +kernel
theorem dX6_valueOf_110 : decode cX6_valueOf 110 = .ok (.getfield 35, 3) := by decide +kernel
theorem dX6_valueOf_113 : decode cX6_valueOf 113 = .ok (.bipush 8, 2) := by decide +kernel
theorem dX6_valueOf_115 : decode cX6_valueOf 115 = .ok (.aload_n 0, 1) := by decide +kernel
theorem dX6_valueOf_116 : decode cX6_valueOf 116 = .ok (.getfield 58, 3) := by decide +kernel
theorem dX6_valueOf_119 : decode cX6_valueOf 119 = .ok (.iastore, 1) := by decide +kernel
theorem dX6_valueOf_120 : decode cX6_valueOf 120 = .ok (.aload_n 0, 1) := by decide +kernel
theorem dX6_valueOf_121 : decode cX6_valueOf 121 = .ok (.getfield 35, 3) := by decide +kernel
theorem dX6_valueOf_124 : decode cX6_valueOf 124 = .ok (.bipush 9, 2) := by decide +kernel
theorem dX6_valueOf_126 : decode cX6_valueOf 126 = .ok (.aload_n 0, 1) := by decide +kernel
theorem dX6_valueOf_127 : decode cX6_valueOf 127 = .ok (.getfield 46, 3) := by decide +kernel
theorem dX6_valueOf_130 : decode cX6_valueOf 130 = .ok (.getfield 143, 3) := by decide +kernel
theorem dX6_valueOf_133 : decode cX6_valueOf 133 = .ok (.iload_n 3, 1) := by decide +kernel
theorem dX6_valueOf_134 : decode cX6_valueOf 134 = .ok (.iaload, 1) := by decide +kernel
theorem dX6_valueOf_135 : decode cX6_valueOf 135 = .ok (.iastore, 1) := by decide +kernel
theorem dX6_valueOf_136 : decode cX6_valueOf 136 = .ok (.aload_n 0, 1) := by decide +kernel
theorem dX6_valueOf_137 : decode cX6_valueOf 137 = .ok (.getfield 50, 3) := by decide +kernel
theorem dX6_valueOf_140 : decode cX6_valueOf 140 = .ok (.iload_n 1, 1) := by decide +kernel
theorem dX6_valueOf_141 : decode cX6_valueOf 141 = .ok (.aload_n 0, 1) := by decide +kernel
theorem dX6_valueOf_142 : decode cX6_valueOf 142 = .ok (.getfield 35, 3) := by decide +kernel
theorem dX6_valueOf_145 : decode cX6_valueOf 145 = .ok (.aload_n 0, 1) := by decide +kernel
theorem dX6_valueOf_146 : decode cX6_valueOf 146 = .ok (.getfield 40, 3) := by decide +kernel
theorem dX6_valueOf_149 : decode cX6_valueOf 149 = .ok (.invokevirtual 145, 3) := by decide +kernel
theorem dX6_valueOf_152 : decode cX6_valueOf 152 = .ok (.ireturn, 1) := by decide +kernel
theorem dX6_hasTeacher_0 : decode cX6_hasTeacher 0 = .ok (.iconst 0, 1) := by decide +kernel
theorem dX6_hasTeacher_1 : decode cX6_hasTeacher 1 = .ok (.istore_n 3, 1) := by decide +kernel
theorem dX6_hasTeacher_2 : decode cX6_hasTeacher 2 = .ok (.iload_n 3, 1) := by decide +kernel
theorem dX6_hasTeacher_3 : decode cX6_hasTeacher 3 = .ok (.aload_n 0, 1) := by decide +kernel
theorem dX6_hasTeacher_4 : decode cX6_hasTeacher 4 = .ok (.getfield 54, 3) := by decide +kernel
theorem dX6_hasTeacher_7 : decode cX6_hasTeacher 7 = .ok (.if_icmp .ge 36, 3) := by decide +kernel
theorem dX6_hasTeacher_10 : decode cX6_hasTeacher 10 = .ok (.iload_n 3, 1) := by decide +kernel
theorem dX6_hasTeacher_11 : decode cX6_hasTeacher 11 = .ok (.iload_n 1, 1) := by decide +kernel
theorem dX6_hasTeacher_12 : decode cX6_hasTeacher 12 = .ok (.if_icmp .eq 25, 3) := by decide +kernel
theorem dX6_hasTeacher_15 : decode cX6_hasTeacher 15 = .ok (.aload_n 0, 1) := by decide +kernel
theorem dX6_hasTeacher_16 : decode cX6_hasTeacher 16 = .ok (.iload_n 3, 1) := by decide +kernel
theorem dX6_hasTeacher_17 : decode cX6_hasTeacher 17 = .ok (.iload_n 2, 1) := by decide +kernel
theorem dX6_hasTeacher_18 : decode cX6_hasTeacher 18 = .ok (.invokevirtual 117, 3) := by decide +kernel
theorem dX6_hasTeacher_21 : decode cX6_hasTeacher 21 = .ok (.ifCond .eq 16, 3) := by decide +kernel
theorem dX6_hasTeacher_24 : decode cX6_hasTeacher 24 = .ok (.aload_n 0, 1) := by decide +kernel
theorem dX6_hasTeacher_25 : decode cX6_hasTeacher 25 = .ok (.iconst 1, 1) := by decide +kernel
theorem dX6_hasTeacher_26 : decode cX6_hasTeacher 26 = .ok (.iload_n 3, 1) := by decide +kernel
theorem dX6_hasTeacher_27 : decode cX6_hasTeacher 27 = .ok (.iload_n 2, 1) := by decide +kernel
theorem dX6_hasTeacher_28 : decode cX6_hasTeacher 28 = .ok (.iconst 1, 1) := by decide +kernel
theorem dX6_hasTeacher_29 : decode cX6_hasTeacher 29 = .ok (.invokevirtual 120, 3) := by decide +kernel
theorem dX6_hasTeacher_32 : decode cX6_hasTeacher 32 = .ok (.ifCond .eq 5, 3) := by decide +kernel
theorem dX6_hasTeacher_35 : decode cX6_hasTeacher 35 = .ok (.iconst 1, 1) := by decide +kernel
theorem dX6_hasTeacher_36 : decode cX6_hasTeacher 36 = .ok (.ireturn, 1) := by decide +kernel
theorem dX6_hasTeacher_37 : decode cX6_hasTeacher 37 = .ok (.iinc 3 1, 3) := by decide +kernel
theorem dX6_hasTeacher_40 : decode cX6_hasTeacher 40 = .ok (.goto (-38), 3) := by decide +kernel
theorem dX6_hasTeacher_43 : decode cX6_hasTeacher 43 = .ok (.iconst 0, 1) := by decide +kernel
theorem dX6_hasTeacher_44 : decode cX6_hasTeacher 44 = .ok (.ireturn, 1) := by decide +kernel
theorem dX6_hoursToLearn_0 : decode cX6_hoursToLearn 0 = .ok (.iconst 0, 1) := by decide +kernel
theorem dX6_hoursToLearn_1 : decode cX6_hoursToLearn 1 = .ok (.istore_n 3, 1) := by decide +kernel
theorem dX6_hoursToLearn_2 : decode cX6_hoursToLearn 2 = .ok (.iconst 0, 1) := by decide +kernel
theorem dX6_hoursToLearn_3 : decode cX6_hoursToLearn 3 = .ok (.istore 4, 2) := by decide +kernel
theorem dX6_hoursToLearn_5 : decode cX6_hoursToLearn 5 = .ok (.iload 4, 2) := by decide +kernel
theorem dX6_hoursToLearn_7 : decode cX6_hoursToLearn 7 = .ok (.aload_n 0, 1) := by decide +kernel
theorem dX6_hoursToLearn_8 : decode cX6_hoursToLearn 8 = .ok (.getfield 46, 3) := by decide +kernel
theorem dX6_hoursToLearn_11 : decode cX6_hoursToLearn 11 = .ok (.getfield 67, 3) := by decide +kernel
theorem dX6_hoursToLearn_14 : decode cX6_hoursToLearn 14 = .ok (.if_icmp .ge 35, 3) := by decide +kernel
theorem dX6_hoursToLearn_17 : decode cX6_hoursToLearn 17 = .ok (.aload_n 0, 1) := by decide +kernel
theorem dX6_hoursToLearn_18 : decode cX6_hoursToLearn 18 = .ok (.iload_n 1, 1) := by decide +kernel
theorem dX6_hoursToLearn_19 : decode cX6_hoursToLearn 19 = .ok (.iload 4, 2) := by decide +kernel
theorem dX6_hoursToLearn_21 : decode cX6_hoursToLearn 21 = .ok (.invokevirtual 124, 3) := by decide +kernel
theorem dX6_hoursToLearn_24 : decode cX6_hoursToLearn 24 = .ok (.ifCond .eq 19, 3) := by decide +kernel
theorem dX6_hoursToLearn_27 : decode cX6_hoursToLearn 27 = .ok (.iload_n 3, 1) := by decide +kernel
theorem dX6_hoursToLearn_28 : decode cX6_hoursToLearn 28 = .ok (.aload_n 0, 1) := by decide +kernel
theorem dX6_hoursToLearn_29 : decode cX6_hoursToLearn 29 = .ok (.getfield 46, 3) := by decide +kernel
theorem dX6_hoursToLearn_32 : decode cX6_hoursToLearn 32 = .ok (.iload_n 2, 1) := by decide +kernel
theorem dX6_hoursToLearn_33 : decode cX6_hoursToLearn 33 = .ok (.iload 4, 2) := by decide +kernel
theorem dX6_hoursToLearn_35 : decode cX6_hoursToLearn 35 = .ok (.iconst 0, 1) := by decide +kernel
theorem dX6_hoursToLearn_36 : decode cX6_hoursToLearn 36 = .ok (.invokevirtual 149, 3) := by decide +kernel
theorem dX6_hoursToLearn_39 : decode cX6_hoursToLearn 39 = .ok (.invokestatic 110, 3) := by decide +kernel
theorem dX6_hoursToLearn_42 : decode cX6_hoursToLearn 42 = .ok (.istore_n 3, 1) := by decide +kernel
theorem dX6_hoursToLearn_43 : decode cX6_hoursToLearn 43 = .ok (.iinc 4 1, 3) := by decide +kernel
theorem dX6_hoursToLearn_46 : decode cX6_hoursToLearn 46 = .ok (.goto (-41), 3) := by decide +kernel
theorem dX6_hoursToLearn_49 : decode cX6_hoursToLearn 49 = .ok (.aload_n 0, 1) := by decide +kernel
theorem dX6_hoursToLearn_50 : decode cX6_hoursToLearn 50 = .ok (.getfield 46, 3) := by decide +kernel
theorem dX6_hoursToLearn_53 : decode cX6_hoursToLearn 53 = .ok (.getfield 143, 3) := by decide +kernel
theorem dX6_hoursToLearn_56 : decode cX6_hoursToLearn 56 = .ok (.iload_n 2, 1) := by decide +kernel
theorem dX6_hoursToLearn_57 : decode cX6_hoursToLearn 57 = .ok (.iaload, 1) := by decide +kernel
theorem dX6_hoursToLearn_58 : decode cX6_hoursToLearn 58 = .ok (.iload_n 3, 1) := by decide +kernel
theorem dX6_hoursToLearn_59 : decode cX6_hoursToLearn 59 = .ok (.isub, 1) := by decide +kernel
theorem dX6_hoursToLearn_60 : decode cX6_hoursToLearn 60 = .ok (.ireturn, 1) := by decide +kernel
theorem dX6_living_0 : decode cX6_living 0 = .ok (.iconst 0, 1) := by decide +kernel
theorem dX6_living_1 : decode cX6_living 1 = .ok (.istore_n 2, 1) := by decide +kernel
theorem dX6_living_2 : decode cX6_living 2 = .ok (.iconst 0, 1) := by decide +kernel
theorem dX6_living_3 : decode cX6_living 3 = .ok (.istore_n 3, 1) := by decide +kernel
theorem dX6_living_4 : decode cX6_living 4 = .ok (.iload_n 3, 1) := by decide +kernel
theorem dX6_living_5 : decode cX6_living 5 = .ok (.aload_n 0, 1) := by decide +kernel
theorem dX6_living_6 : decode cX6_living 6 = .ok (.getfield 46, 3) := by decide +kernel
theorem dX6_living_9 : decode cX6_living 9 = .ok (.getfield 153, 3) := by decide +kernel
theorem dX6_living_12 : decode cX6_living 12 = .ok (.if_icmp .ge 24, 3) := by decide +kernel
theorem dX6_living_15 : decode cX6_living 15 = .ok (.aload_n 0, 1) := by decide +kernel
theorem dX6_living_16 : decode cX6_living 16 = .ok (.iload_n 3, 1) := by decide +kernel
theorem dX6_living_17 : decode cX6_living 17 = .ok (.invokevirtual 156, 3) := by decide +kernel
theorem dX6_living_20 : decode cX6_living 20 = .ok (.iload_n 1, 1) := by decide +kernel
theorem dX6_living_21 : decode cX6_living 21 = .ok (.iconst (-1), 1) := by decide +kernel
theorem dX6_living_22 : decode cX6_living 22 = .ok (.ixor, 1) := by decide +kernel
theorem dX6_living_23 : decode cX6_living 23 = .ok (.iand, 1) := by decide +kernel
theorem dX6_living_24 : decode cX6_living 24 = .ok (.ifCond .ne 6, 3) := by decide +kernel
theorem dX6_living_27 : decode cX6_living 27 = .ok (.iinc 2 1, 3) := by decide +kernel
theorem dX6_living_30 : decode cX6_living 30 = .ok (.iinc 3 1, 3) := by decide +kernel
theorem dX6_living_33 : decode cX6_living 33 = .ok (.goto (-29), 3) := by decide +kernel
theorem dX6_living_36 : decode cX6_living 36 = .ok (.iload_n 2, 1) := by decide +kernel
theorem dX6_living_37 : decode cX6_living 37 = .ok (.ireturn, 1) := by decide +kernel
theorem dX6_missing_0 : decode cX6_missing 0 = .ok (.iconst 0, 1) := by decide +kernel
theorem dX6_missing_1 : decode cX6_missing 1 = .ok (.istore_n 2, 1) := by decide +kernel
theorem dX6_missing_2 : decode cX6_missing 2 = .ok (.iconst 0, 1) := by decide +kernel
theorem dX6_missing_3 : decode cX6_missing 3 = .ok (.istore_n 3, 1) := by decide +kernel
theorem dX6_missing_4 : decode cX6_missing 4 = .ok (.iload_n 3, 1) := by decide +kernel
theorem dX6_missing_5 : decode cX6_missing 5 = .ok (.aload_n 0, 1) := by decide +kernel
theorem dX6_missing_6 : decode cX6_missing 6 = .ok (.getfield 46, 3) := by decide +kernel
theorem dX6_missing_9 : decode cX6_missing 9 = .ok (.getfield 159, 3) := by decide +kernel
theorem dX6_missing_12 : decode cX6_missing 12 = .ok (.iload_n 1, 1) := by decide +kernel
theorem dX6_missing_13 : decode cX6_missing 13 = .ok (.iaload, 1) := by decide +kernel
theorem dX6_missing_14 : decode cX6_missing 14 = .ok (.if_icmp .ge 51, 3) := by decide +kernel
theorem dX6_missing_17 : decode cX6_missing 17 = .ok (.aload_n 0, 1) := by decide +kernel
theorem dX6_missing_18 : decode cX6_missing 18 = .ok (.getfield 46, 3) := by decide +kernel
theorem dX6_missing_21 : decode cX6_missing 21 = .ok (.getfield 162, 3) := by decide +kernel
theorem dX6_missing_24 : decode cX6_missing 24 = .ok (.iload_n 1, 1) := by decide +kernel
theorem dX6_missing_25 : decode cX6_missing 25 = .ok (.iaload, 1) := by decide +kernel
theorem dX6_missing_26 : decode cX6_missing 26 = .ok (.iload_n 3, 1) := by decide +kernel
theorem dX6_missing_27 : decode cX6_missing 27 = .ok (.iadd, 1) := by decide +kernel
theorem dX6_missing_28 : decode cX6_missing 28 = .ok (.istore 4, 2) := by decide +kernel
theorem dX6_missing_30 : decode cX6_missing 30 = .ok (.aload_n 0, 1) := by decide +kernel
theorem dX6_missing_31 : decode cX6_missing 31 = .ok (.getfield 46, 3) := by decide +kernel
theorem dX6_missing_34 : decode cX6_missing 34 = .ok (.getfield 165, 3) := by decide +kernel
theorem dX6_missing_37 : decode cX6_missing 37 = .ok (.iload 4, 2) := by decide +kernel
theorem dX6_missing_39 : decode cX6_missing 39 = .ok (.baload, 1) := by decide +kernel
theorem dX6_missing_40 : decode cX6_missing 40 = .ok (.ifCond .ne 19, 3) := by decide +kernel
theorem dX6_missing_43 : decode cX6_missing 43 = .ok (.aload_n 0, 1) := by decide +kernel
theorem dX6_missing_44 : decode cX6_missing 44 = .ok (.iload 4, 2) := by decide +kernel
theorem dX6_missing_46 : decode cX6_missing 46 = .ok (.invokevirtual 168, 3) := by decide +kernel
theorem dX6_missing_49 : decode cX6_missing 49 = .ok (.ifCond .ne 10, 3) := by decide +kernel
theorem dX6_missing_52 : decode cX6_missing 52 = .ok (.iload_n 2, 1) := by decide +kernel
theorem dX6_missing_53 : decode cX6_missing 53 = .ok (.iconst 1, 1) := by decide +kernel
theorem dX6_missing_54 : decode cX6_missing 54 = .ok (.iload 4, 2) := by decide +kernel
theorem dX6_missing_56 : decode cX6_missing 56 = .ok (.ishl, 1) := by decide +kernel
theorem dX6_missing_57 : decode cX6_missing 57 = .ok (.ior, 1) := by decide +kernel
theorem dX6_missing_58 : decode cX6_missing 58 = .ok (.istore_n 2, 1) := by decide +kernel
theorem dX6_missing_59 : decode cX6_missing 59 = .ok (.iinc 3 1, 3) := by decide +kernel
theorem dX6_missing_62 : decode cX6_missing 62 = .ok (.goto (-58), 3) := by decide +kernel
theorem dX6_missing_65 : decode cX6_missing 65 = .ok (.iload_n 2, 1) := by decide +kernel
theorem dX6_missing_66 : decode cX6_missing 66 = .ok (.ireturn, 1) := by decide +kernel
theorem dX6_isKept_0 : decode cX6_isKept 0 = .ok (.iconst 0, 1) := by decide +kernel
theorem dX6_isKept_1 : decode cX6_isKept 1 = .ok (.istore_n 2, 1) := by decide +kernel
theorem dX6_isKept_2 : decode cX6_isKept 2 = .ok (.iload_n 2, 1) := by decide +kernel
theorem dX6_isKept_3 : decode cX6_isKept 3 = .ok (.aload_n 0, 1) := by decide +kernel
theorem dX6_isKept_4 : decode cX6_isKept 4 = .ok (.getfield 54, 3) := by decide +kernel
theorem dX6_isKept_7 : decode cX6_isKept 7 = .ok (.if_icmp .ge 29, 3) := by decide +kernel
theorem dX6_isKept_10 : decode cX6_isKept 10 = .ok (.aload_n 0, 1) := by decide +kernel
theorem dX6_isKept_11 : decode cX6_isKept 11 = .ok (.iload_n 2, 1) := by decide +kernel
theorem dX6_isKept_12 : decode cX6_isKept 12 = .ok (.iload_n 1, 1) := by decide +kernel
theorem dX6_isKept_13 : decode cX6_isKept 13 = .ok (.invokevirtual 124, 3) := by decide +kernel
theorem dX6_isKept_16 : decode cX6_isKept 16 = .ok (.ifCond .eq 14, 3) := by decide +kernel
theorem dX6_isKept_19 : decode cX6_isKept 19 = .ok (.aload_n 0, 1) := by decide +kernel
theorem dX6_isKept_20 : decode cX6_isKept 20 = .ok (.getfield 29, 3) := by decide +kernel
theorem dX6_isKept_23 : decode cX6_isKept 23 = .ok (.iload_n 2, 1) := by decide +kernel
theorem dX6_isKept_24 : decode cX6_isKept 24 = .ok (.baload, 1) := by decide +kernel
theorem dX6_isKept_25 : decode cX6_isKept 25 = .ok (.ifCond .ne 5, 3) := by decide +kernel
theorem dX6_isKept_28 : decode cX6_isKept 28 = .ok (.iconst 1, 1) := by decide +kernel
theorem dX6_isKept_29 : decode cX6_isKept 29 = .ok (.ireturn, 1) := by decide +kernel
theorem dX6_isKept_30 : decode cX6_isKept 30 = .ok (.iinc 2 1, 3) := by decide +kernel
theorem dX6_isKept_33 : decode cX6_isKept 33 = .ok (.goto (-31), 3) := by decide +kernel
theorem dX6_isKept_36 : decode cX6_isKept 36 = .ok (.iconst 0, 1) := by decide +kernel
theorem dX6_isKept_37 : decode cX6_isKept 37 = .ok (.ireturn, 1) := by decide +kernel
theorem dX6_firstNoted_0 : decode cX6_firstNoted 0 = .ok (.iconst 0, 1) := by decide +kernel
theorem dX6_firstNoted_1 : decode cX6_firstNoted 1 = .ok (.istore_n 2, 1) := by decide +kernel
theorem dX6_firstNoted_2 : decode cX6_firstNoted 2 = .ok (.aload_n 0, 1) := by decide +kernel
theorem dX6_firstNoted_3 : decode cX6_firstNoted 3 = .ok (.iconst 0, 1) := by decide +kernel
theorem dX6_firstNoted_4 : decode cX6_firstNoted 4 = .ok (.invokevirtual 171, 3) := by decide +kernel
theorem dX6_firstNoted_7 : decode cX6_firstNoted 7 = .ok (.istore_n 3, 1) := by decide +kernel
theorem dX6_firstNoted_8 : decode cX6_firstNoted 8 = .ok (.iconst 1, 1) := by decide +kernel
theorem dX6_firstNoted_9 : decode cX6_firstNoted 9 = .ok (.istore 4, 2) := by decide +kernel
theorem dX6_firstNoted_11 : decode cX6_firstNoted 11 = .ok (.iload 4, 2) := by decide +kernel
theorem dX6_firstNoted_13 : decode cX6_firstNoted 13 = .ok (.iconst 1, 1) := by decide +kernel
theorem dX6_firstNoted_14 : decode cX6_firstNoted 14 = .ok (.aload_n 0, 1) := by decide +kernel
theorem dX6_firstNoted_15 : decode cX6_firstNoted 15 = .ok (.getfield 46, 3) := by decide +kernel
theorem dX6_firstNoted_18 : decode cX6_firstNoted 18 = .ok (.getfield 153, 3) := by decide +kernel
theorem dX6_firstNoted_21 : decode cX6_firstNoted 21 = .ok (.ishl, 1) := by decide +kernel
theorem dX6_firstNoted_22 : decode cX6_firstNoted 22 = .ok (.if_icmp .ge 69, 3) := by decide +kernel
theorem dX6_firstNoted_25 : decode cX6_firstNoted 25 = .ok (.aload_n 0, 1) := by decide +kernel
theorem dX6_firstNoted_26 : decode cX6_firstNoted 26 = .ok (.iload 4, 2) := by decide +kernel
theorem dX6_firstNoted_28 : decode cX6_firstNoted 28 = .ok (.invokevirtual 174, 3) := by decide +kernel
theorem dX6_firstNoted_31 : decode cX6_firstNoted 31 = .ok (.istore 5, 2) := by decide +kernel
theorem dX6_firstNoted_33 : decode cX6_firstNoted 33 = .ok (.aload_n 0, 1) := by decide +kernel
theorem dX6_firstNoted_34 : decode cX6_firstNoted 34 = .ok (.iload 5, 2) := by decide +kernel
theorem dX6_firstNoted_36 : decode cX6_firstNoted 36 = .ok (.invokevirtual 171, 3) := by decide +kernel
theorem dX6_firstNoted_39 : decode cX6_firstNoted 39 = .ok (.istore 6, 2) := by decide +kernel
theorem dX6_firstNoted_41 : decode cX6_firstNoted 41 = .ok (.iload_n 2, 1) := by decide +kernel
theorem dX6_firstNoted_42 : decode cX6_firstNoted 42 = .ok (.invokestatic 177, 3) := by decide +kernel
theorem dX6_firstNoted_45 : decode cX6_firstNoted 45 = .ok (.iload 5, 2) := by decide +kernel
theorem dX6_firstNoted_47 : decode cX6_firstNoted 47 = .ok (.invokestatic 177, 3) := by decide +kernel
theorem dX6_firstNoted_50 : decode cX6_firstNoted 50 = .ok (.isub, 1) := by decide +kernel
theorem dX6_firstNoted_51 : decode cX6_firstNoted 51 = .ok (.istore 7, 2) := by decide +kernel
theorem dX6_firstNoted_53 : decode cX6_firstNoted 53 = .ok (.iload 5, 2) := by decide +kernel
theorem dX6_firstNoted_55 : decode cX6_firstNoted 55 = .ok (.invokestatic 177, 3) := by decide +kernel
theorem dX6_firstNoted_58 : decode cX6_firstNoted 58 = .ok (.iload_n 1, 1) := by decide +kernel
theorem dX6_firstNoted_59 : decode cX6_firstNoted 59 = .ok (.if_icmp .gt 26, 3) := by decide +kernel
theorem dX6_firstNoted_62 : decode cX6_firstNoted 62 = .ok (.iload 6, 2) := by decide +kernel
theorem dX6_firstNoted_64 : decode cX6_firstNoted 64 = .ok (.iload_n 3, 1) := by decide +kernel
theorem dX6_firstNoted_65 : decode cX6_firstNoted 65 = .ok (.if_icmp .gt 14, 3) := by decide +kernel
theorem dX6_firstNoted_68 : decode cX6_firstNoted 68 = .ok (.iload 6, 2) := by decide +kernel
theorem dX6_firstNoted_70 : decode cX6_firstNoted 70 = .ok (.iload_n 3, 1) := by decide +kernel
theorem dX6_firstNoted_71 : decode cX6_firstNoted 71 = .ok (.if_icmp .ne 14, 3) := by decide +kernel
theorem dX6_firstNoted_74 : decode cX6_firstNoted 74 = .ok (.iload 7, 2) := by decide +kernel
theorem dX6_firstNoted_76 : decode cX6_firstNoted 76 = .ok (.ifCond .le 9, 3) := by decide +kernel
theorem dX6_firstNoted_79 : decode cX6_firstNoted 79 = .ok (.iload 5, 2) := by decide +kernel
theorem dX6_firstNoted_81 : decode cX6_firstNoted 81 = .ok (.istore_n 2, 1) := by decide +kernel
theorem dX6_firstNoted_82 : decode cX6_firstNoted 82 = .ok (.iload 6, 2) := by decide +kernel
theorem dX6_firstNoted_84 : decode cX6_firstNoted 84 = .ok (.istore_n 3, 1) := by decide +kernel
theorem dX6_firstNoted_85 : decode cX6_firstNoted 85 = .ok (.iinc 4 1, 3) := by decide +kernel
theorem dX6_firstNoted_88 : decode cX6_firstNoted 88 = .ok (.goto (-77), 3) := by decide +kernel
theorem dX6_firstNoted_91 : decode cX6_firstNoted 91 = .ok (.iload_n 2, 1) := by decide +kernel
theorem dX6_firstNoted_92 : decode cX6_firstNoted 92 = .ok (.ireturn, 1) := by decide +kernel
theorem dX6_missingOf_0 : decode cX6_missingOf 0 = .ok (.iconst 0, 1) := by decide +kernel
theorem dX6_missingOf_1 : decode cX6_missingOf 1 = .ok (.istore_n 2, 1) := by decide +kernel
theorem dX6_missingOf_2 : decode cX6_missingOf 2 = .ok (.iconst 0, 1) := by decide +kernel
theorem dX6_missingOf_3 : decode cX6_missingOf 3 = .ok (.istore_n 3, 1) := by decide +kernel
theorem dX6_missingOf_4 : decode cX6_missingOf 4 = .ok (.iload_n 3, 1) := by decide +kernel
theorem dX6_missingOf_5 : decode cX6_missingOf 5 = .ok (.aload_n 0, 1) := by decide +kernel
theorem dX6_missingOf_6 : decode cX6_missingOf 6 = .ok (.getfield 46, 3) := by decide +kernel
theorem dX6_missingOf_9 : decode cX6_missingOf 9 = .ok (.getfield 153, 3) := by decide +kernel
theorem dX6_missingOf_12 : decode cX6_missingOf 12 = .ok (.if_icmp .ge 25, 3) := by decide +kernel
theorem dX6_missingOf_15 : decode cX6_missingOf 15 = .ok (.iload_n 1, 1) := by decide +kernel
theorem dX6_missingOf_16 : decode cX6_missingOf 16 = .ok (.iconst 1, 1) := by decide +kernel
theorem dX6_missingOf_17 : decode cX6_missingOf 17 = .ok (.iload_n 3, 1) := by decide +kernel
theorem dX6_missingOf_18 : decode cX6_missingOf 18 = .ok (.ishl, 1) := by decide +kernel
theorem dX6_missingOf_19 : decode cX6_missingOf 19 = .ok (.iand, 1) := by decide +kernel
theorem dX6_missingOf_20 : decode cX6_missingOf 20 = .ok (.ifCond .eq 11, 3) := by decide +kernel
theorem dX6_missingOf_23 : decode cX6_missingOf 23 = .ok (.iload_n 2, 1) := by decide +kernel
theorem dX6_missingOf_24 : decode cX6_missingOf 24 = .ok (.aload_n 0, 1) := by decide +kernel
theorem dX6_missingOf_25 : decode cX6_missingOf 25 = .ok (.iload_n 3, 1) := by decide +kernel
theorem dX6_missingOf_26 : decode cX6_missingOf 26 = .ok (.invokevirtual 156, 3) := by decide +kernel
theorem dX6_missingOf_29 : decode cX6_missingOf 29 = .ok (.ior, 1) := by decide +kernel
theorem dX6_missingOf_30 : decode cX6_missingOf 30 = .ok (.istore_n 2, 1) := by decide +kernel
theorem dX6_missingOf_31 : decode cX6_missingOf 31 = .ok (.iinc 3 1, 3) := by decide +kernel
theorem dX6_missingOf_34 : decode cX6_missingOf 34 = .ok (.goto (-30), 3) := by decide +kernel
theorem dX6_missingOf_37 : decode cX6_missingOf 37 = .ok (.iload_n 2, 1) := by decide +kernel
theorem dX6_missingOf_38 : decode cX6_missingOf 38 = .ok (.ireturn, 1) := by decide +kernel
theorem dX7_init_0 : decode cX7_init 0 = .ok (.aload_n 0, 1) := by decide +kernel
theorem dX7_init_1 : decode cX7_init 1 = .ok (.invokespecial 3, 3) := by decide +kernel
theorem dX7_init_4 : decode cX7_init 4 = .ok (.aload_n 0, 1) := by decide +kernel
theorem dX7_init_5 : decode cX7_init 5 = .ok (.sipush 1400, 3) := by decide +kernel
theorem dX7_init_8 : decode cX7_init 8 = .ok (.newarray .byte, 2) := by decide +kernel
theorem dX7_init_10 : decode cX7_init 10 = .ok (.putfield 11, 3) := by decide +kernel
theorem dX7_init_13 : decode cX7_init 13 = .ok (.aload_n 0, 1) := by decide +kernel
theorem dX7_init_14 : decode cX7_init 14 = .ok (.iconst 0, 1) := by decide +kernel
theorem dX7_init_15 : decode cX7_init 15 = .ok (.putfield 15, 3) := by decide +kernel
theorem dX7_init_18 : decode cX7_init 18 = .ok (.return_, 1) := by decide +kernel
theorem dX7_put_0 : decode cX7_put 0 = .ok (.bipush 24, 2) := by decide +kernel
theorem dX7_put_2 : decode cX7_put 2 = .ok (.istore_n 2, 1) := by decide +kernel
theorem dX7_put_3 : decode cX7_put 3 = .ok (.iload_n 2, 1) := by decide +kernel
theorem dX7_put_4 : decode cX7_put 4 = .ok (.ifCond .lt 42, 3) := by decide +kernel
theorem dX7_put_7 : decode cX7_put 7 = .ok (.aload_n 0, 1) := by decide +kernel
theorem dX7_put_8 : decode cX7_put 8 = .ok (.getfield 15, 3) := by decide +kernel
theorem dX7_put_11 : decode cX7_put 11 = .ok (.sipush 1400, 3) := by decide +kernel
theorem dX7_put_14 : decode cX7_put 14 = .ok (.if_icmp .ge 32, 3) := by decide +kernel
theorem dX7_put_17 : decode cX7_put 17 = .ok (.aload_n 0, 1) := by decide +kernel
theorem dX7_put_18 : decode cX7_put 18 = .ok (.getfield 11, 3) := by decide +kernel
theorem dX7_put_21 : decode cX7_put 21 = .ok (.aload_n 0, 1) := by decide +kernel
theorem dX7_put_22 : decode cX7_put 22 = .ok (.getfield 15, 3) := by decide +kernel
theorem dX7_put_25 : decode cX7_put 25 = .ok (.iload_n 1, 1) := by decide +kernel
theorem dX7_put_26 : decode cX7_put 26 = .ok (.iload_n 2, 1) := by decide +kernel
theorem dX7_put_27 : decode cX7_put 27 = .ok (.ishr, 1) := by decide +kernel
theorem dX7_put_28 : decode cX7_put 28 = .ok (.i2b, 1) := by decide +kernel
theorem dX7_put_29 : decode cX7_put 29 = .ok (.bastore, 1) := by decide +kernel
theorem dX7_put_30 : decode cX7_put 30 = .ok (.aload_n 0, 1) := by decide +kernel
theorem dX7_put_31 : decode cX7_put 31 = .ok (.dup, 1) := by decide +kernel
theorem dX7_put_32 : decode cX7_put 32 = .ok (.getfield 15, 3) := by decide +kernel
theorem dX7_put_35 : decode cX7_put 35 = .ok (.iconst 1, 1) := by decide +kernel
theorem dX7_put_36 : decode cX7_put 36 = .ok (.iadd, 1) := by decide +kernel
theorem dX7_put_37 : decode cX7_put 37 = .ok (.putfield 15, 3) := by decide +kernel
theorem dX7_put_40 : decode cX7_put 40 = .ok (.iinc 2 (-8), 3) := by decide +kernel
theorem dX7_put_43 : decode cX7_put 43 = .ok (.goto (-40), 3) := by decide +kernel
theorem dX7_put_46 : decode cX7_put 46 = .ok (.return_, 1) := by decide +kernel
theorem dX7_at_0 : decode cX7_at 0 = .ok (.iload_n 1, 1) := by decide +kernel
theorem dX7_at_1 : decode cX7_at 1 = .ok (.ifCond .lt 20, 3) := by decide +kernel
theorem dX7_at_4 : decode cX7_at 4 = .ok (.iload_n 1, 1) := by decide +kernel
theorem dX7_at_5 : decode cX7_at 5 = .ok (.aload_n 0, 1) := by decide +kernel
theorem dX7_at_6 : decode cX7_at 6 = .ok (.getfield 15, 3) := by decide +kernel
theorem dX7_at_9 : decode cX7_at 9 = .ok (.if_icmp .ge 12, 3) := by decide +kernel
theorem dX7_at_12 : decode cX7_at 12 = .ok (.aload_n 0, 1) := by decide +kernel
theorem dX7_at_13 : decode cX7_at 13 = .ok (.getfield 11, 3) := by decide +kernel
theorem dX7_at_16 : decode cX7_at 16 = .ok (.iload_n 1, 1) := by decide +kernel
theorem dX7_at_17 : decode cX7_at 17 = .ok (.baload, 1) := by decide +kernel
theorem dX7_at_18 : decode cX7_at 18 = .ok (.goto 4, 3) := by decide +kernel
theorem dX7_at_21 : decode cX7_at 21 = .ok (.iconst (-1), 1) := by decide +kernel
theorem dX7_at_22 : decode cX7_at 22 = .ok (.ireturn, 1) := by decide +kernel
theorem dX8_init_0 : decode cX8_init 0 = .ok (.aload_n 0, 1) := by decide +kernel
theorem dX8_init_1 : decode cX8_init 1 = .ok (.invokespecial 3, 3) := by decide +kernel
theorem dX8_init_4 : decode cX8_init 4 = .ok (.aload_n 0, 1) := by decide +kernel
theorem dX8_init_5 : decode cX8_init 5 = .ok (.bipush 9, 2) := by decide +kernel
theorem dX8_init_7 : decode cX8_init 7 = .ok (.newarray .int, 2) := by decide +kernel
theorem dX8_init_9 : decode cX8_init 9 = .ok (.putfield 11, 3) := by decide +kernel
theorem dX8_init_12 : decode cX8_init 12 = .ok (.aload_n 0, 1) := by decide +kernel
theorem dX8_init_13 : decode cX8_init 13 = .ok (.bipush 9, 2) := by decide +kernel
theorem dX8_init_15 : decode cX8_init 15 = .ok (.newarray .int, 2) := by decide +kernel
theorem dX8_init_17 : decode cX8_init 17 = .ok (.putfield 15, 3) := by decide +kernel
theorem dX8_init_20 : decode cX8_init 20 = .ok (.aload_n 0, 1) := by decide +kernel
theorem dX8_init_21 : decode cX8_init 21 = .ok (.bipush 9, 2) := by decide +kernel
theorem dX8_init_23 : decode cX8_init 23 = .ok (.newarray .int, 2) := by decide +kernel
theorem dX8_init_25 : decode cX8_init 25 = .ok (.putfield 18, 3) := by decide +kernel
theorem dX8_init_28 : decode cX8_init 28 = .ok (.aload_n 0, 1) := by decide +kernel
theorem dX8_init_29 : decode cX8_init 29 = .ok (.bipush 9, 2) := by decide +kernel
theorem dX8_init_31 : decode cX8_init 31 = .ok (.newarray .int, 2) := by decide +kernel
theorem dX8_init_33 : decode cX8_init 33 = .ok (.putfield 21, 3) := by decide +kernel
theorem dX8_init_36 : decode cX8_init 36 = .ok (.aload_n 0, 1) := by decide +kernel
theorem dX8_init_37 : decode cX8_init 37 = .ok (.bipush 9, 2) := by decide +kernel
theorem dX8_init_39 : decode cX8_init 39 = .ok (.newarray .int, 2) := by decide +kernel
theorem dX8_init_41 : decode cX8_init 41 = .ok (.putfield 24, 3) := by decide +kernel
theorem dX8_init_44 : decode cX8_init 44 = .ok (.aload_n 0, 1) := by decide +kernel
theorem dX8_init_45 : decode cX8_init 45 = .ok (.bipush 9, 2) := by decide +kernel
theorem dX8_init_47 : decode cX8_init 47 = .ok (.newarray .int, 2) := by decide +kernel
theorem dX8_init_49 : decode cX8_init 49 = .ok (.putfield 27, 3) := by decide +kernel
theorem dX8_init_52 : decode cX8_init 52 = .ok (.aload_n 0, 1) := by decide +kernel
theorem dX8_init_53 : decode cX8_init 53 = .ok (.iconst 2, 1) := by decide +kernel
theorem dX8_init_54 : decode cX8_init 54 = .ok (.putfield 30, 3) := by decide +kernel
theorem dX8_init_57 : decode cX8_init 57 = .ok (.return_, 1) := by decide +kernel
theorem dX8_add_0 : decode cX8_add 0 = .ok (.aload_n 0, 1) := by decide +kernel
theorem dX8_add_1 : decode cX8_add 1 = .ok (.getfield 34, 3) := by decide +kernel
theorem dX8_add_4 : decode cX8_add 4 = .ok (.bipush 9, 2) := by decide +kernel
theorem dX8_add_6 : decode cX8_add 6 = .ok (.if_icmp .lt 5, 3) := by decide +kernel
theorem dX8_add_9 : decode cX8_add 9 = .ok (.iconst (-1), 1) := by decide +kernel
theorem dX8_add_10 : decode cX8_add 10 = .ok (.ireturn, 1) := by decide +kernel
theorem dX8_add_11 : decode cX8_add 11 = .ok (.aload_n 0, 1) := by decide +kernel
theorem dX8_add_12 : decode cX8_add 12 = .ok (.getfield 11, 3) := by decide +kernel
theorem dX8_add_15 : decode cX8_add 15 = .ok (.aload_n 0, 1) := by decide +kernel
theorem dX8_add_16 : decode cX8_add 16 = .ok (.getfield 34, 3) := by decide +kernel
theorem dX8_add_19 : decode cX8_add 19 = .ok (.iload_n 1, 1) := by decide +kernel
theorem dX8_add_20 : decode cX8_add 20 = .ok (.iastore, 1) := by decide +kernel
theorem dX8_add_21 : decode cX8_add 21 = .ok (.aload_n 0, 1) := by decide +kernel
theorem dX8_add_22 : decode cX8_add 22 = .ok (.getfield 15, 3) := by decide +kernel
theorem dX8_add_25 : decode cX8_add 25 = .ok (.aload_n 0, 1) := by decide +kernel
theorem dX8_add_26 : decode cX8_add 26 = .ok (.getfield 34, 3) := by decide +kernel
theorem dX8_add_29 : decode cX8_add 29 = .ok (.iload_n 2, 1) := by decide +kernel
theorem dX8_add_30 : decode cX8_add 30 = .ok (.iastore, 1) := by decide +kernel
theorem dX8_add_31 : decode cX8_add 31 = .ok (.aload_n 0, 1) := by decide +kernel
theorem dX8_add_32 : decode cX8_add 32 = .ok (.dup, 1) := by decide +kernel
theorem dX8_add_33 : decode cX8_add 33 = .ok (.getfield 34, 3) := by decide +kernel
theorem dX8_add_36 : decode cX8_add 36 = .ok (.iconst 1, 1) := by decide +kernel
theorem dX8_add_37 : decode cX8_add 37 = .ok (.iadd, 1) := by decide +kernel
theorem dX8_add_38 : decode cX8_add 38 = .ok (.putfield 34, 3) := by decide +kernel
theorem dX8_add_41 : decode cX8_add 41 = .ok (.aload_n 0, 1) := by decide +kernel
theorem dX8_add_42 : decode cX8_add 42 = .ok (.getfield 34, 3) := by decide +kernel
theorem dX8_add_45 : decode cX8_add 45 = .ok (.iconst 1, 1) := by decide +kernel
theorem dX8_add_46 : decode cX8_add 46 = .ok (.isub, 1) := by decide +kernel
theorem dX8_add_47 : decode cX8_add 47 = .ok (.ireturn, 1) := by decide +kernel
theorem dX8_plan_0 : decode cX8_plan 0 = .ok (.iconst 1, 1) := by decide +kernel
theorem dX8_plan_1 : decode cX8_plan 1 = .ok (.istore_n 1, 1) := by decide +kernel
theorem dX8_plan_2 : decode cX8_plan 2 = .ok (.iload_n 1, 1) := by decide +kernel
theorem dX8_plan_3 : decode cX8_plan 3 = .ok (.aload_n 0, 1) := by decide +kernel
theorem dX8_plan_4 : decode cX8_plan 4 = .ok (.getfield 34, 3) := by decide +kernel
theorem dX8_plan_7 : decode cX8_plan 7 = .ok (.if_icmp .ge 21, 3) := by decide +kernel
theorem dX8_plan_10 : decode cX8_plan 10 = .ok (.aload_n 0, 1) := by decide +kernel
theorem dX8_plan_11 : decode cX8_plan 11 = .ok (.iconst 0, 1) := by decide +kernel
theorem dX8_plan_12 : decode cX8_plan 12 = .ok (.iconst 0, 1) := by decide +kernel
theorem dX8_plan_13 : decode cX8_plan 13 = .ok (.iload_n 1, 1) := by decide +kernel
theorem dX8_plan_14 : decode cX8_plan 14 = .ok (.invokevirtual 37, 3) := by decide +kernel
theorem dX8_plan_17 : decode cX8_plan 17 = .ok (.ifCond .eq 5, 3) := by decide +kernel
theorem dX8_plan_20 : decode cX8_plan 20 = .ok (.iload_n 1, 1) := by decide +kernel
theorem dX8_plan_21 : decode cX8_plan 21 = .ok (.ireturn, 1) := by decide +kernel
theorem dX8_plan_22 : decode cX8_plan 22 = .ok (.iinc 1 1, 3) := by decide +kernel
theorem dX8_plan_25 : decode cX8_plan 25 = .ok (.goto (-23), 3) := by decide +kernel
theorem dX8_plan_28 : decode cX8_plan 28 = .ok (.aload_n 0, 1) := by decide +kernel
theorem dX8_plan_29 : decode cX8_plan 29 = .ok (.iconst 0, 1) := by decide +kernel
theorem dX8_plan_30 : decode cX8_plan 30 = .ok (.iconst 0, 1) := by decide +kernel
theorem dX8_plan_31 : decode cX8_plan 31 = .ok (.aload_n 0, 1) := by decide +kernel
theorem dX8_plan_32 : decode cX8_plan 32 = .ok (.getfield 34, 3) := by decide +kernel
theorem dX8_plan_35 : decode cX8_plan 35 = .ok (.invokevirtual 37, 3) := by decide +kernel
theorem dX8_plan_38 : decode cX8_plan 38 = .ok (.pop, 1) := by decide +kernel
theorem dX8_plan_39 : decode cX8_plan 39 = .ok (.aload_n 0, 1) := by decide +kernel
theorem dX8_plan_40 : decode cX8_plan 40 = .ok (.getfield 34, 3) := by decide +kernel
theorem dX8_plan_43 : decode cX8_plan 43 = .ok (.ireturn, 1) := by decide +kernel
theorem dX8_fits_0 : decode cX8_fits 0 = .ok (.iload_n 1, 1) := by decide +kernel
theorem dX8_fits_1 : decode cX8_fits 1 = .ok (.aload_n 0, 1) := by decide +kernel
theorem dX8_fits_2 : decode cX8_fits 2 = .ok (.getfield 34, 3) := by decide +kernel
theorem dX8_fits_5 : decode cX8_fits 5 = .ok (.if_icmp .lt 5, 3) := by decide +kernel
theorem dX8_fits_8 : decode cX8_fits 8 = .ok (.iconst 1, 1) := by decide +kernel
theorem dX8_fits_9 : decode cX8_fits 9 = .ok (.ireturn, 1) := by decide +kernel
theorem dX8_fits_10 : decode cX8_fits 10 = .ok (.iconst 0, 1) := by decide +kernel
theorem dX8_fits_11 : decode cX8_fits 11 = .ok (.istore 4, 2) := by decide +kernel
theorem dX8_fits_13 : decode cX8_fits 13 = .ok (.iload 4, 2) := by decide +kernel
theorem dX8_fits_15 : decode cX8_fits 15 = .ok (.iload_n 2, 1) := by decide +kernel
theorem dX8_fits_16 : decode cX8_fits 16 = .ok (.if_icmp .gt 156, 3) := by decide +kernel
theorem dX8_fits_19 : decode cX8_fits 19 = .ok (.iload 4, 2) := by decide +kernel
theorem dX8_fits_21 : decode cX8_fits 21 = .ok (.iload_n 3, 1) := by decide +kernel
theorem dX8_fits_22 : decode cX8_fits 22 = .ok (.if_icmp .ge 150, 3) := by decide +kernel
theorem dX8_fits_25 : decode cX8_fits 25 = .ok (.iload 4, 2) := by decide +kernel
theorem dX8_fits_27 : decode cX8_fits 27 = .ok (.iload_n 2, 1) := by decide +kernel
theorem dX8_fits_28 : decode cX8_fits 28 = .ok (.if_icmp .ne 19, 3) := by decide +kernel
theorem dX8_fits_31 : decode cX8_fits 31 = .ok (.aload_n 0, 1) := by decide +kernel
theorem dX8_fits_32 : decode cX8_fits 32 = .ok (.getfield 24, 3) := by decide +kernel
theorem dX8_fits_35 : decode cX8_fits 35 = .ok (.iload 4, 2) := by decide +kernel
theorem dX8_fits_37 : decode cX8_fits 37 = .ok (.iconst 0, 1) := by decide +kernel
theorem dX8_fits_38 : decode cX8_fits 38 = .ok (.iastore, 1) := by decide +kernel
theorem dX8_fits_39 : decode cX8_fits 39 = .ok (.aload_n 0, 1) := by decide +kernel
theorem dX8_fits_40 : decode cX8_fits 40 = .ok (.getfield 27, 3) := by decide +kernel
theorem dX8_fits_43 : decode cX8_fits 43 = .ok (.iload 4, 2) := by decide +kernel
theorem dX8_fits_45 : decode cX8_fits 45 = .ok (.iconst 0, 1) := by decide +kernel
theorem dX8_fits_46 : decode cX8_fits 46 = .ok (.iastore, 1) := by decide +kernel
theorem dX8_fits_47 : decode cX8_fits 47 = .ok (.aload_n 0, 1) := by decide +kernel
theorem dX8_fits_48 : decode cX8_fits 48 = .ok (.getfield 27, 3) := by decide +kernel
theorem dX8_fits_51 : decode cX8_fits 51 = .ok (.iload 4, 2) := by decide +kernel
theorem dX8_fits_53 : decode cX8_fits 53 = .ok (.iaload, 1) := by decide +kernel
theorem dX8_fits_54 : decode cX8_fits 54 = .ok (.aload_n 0, 1) := by decide +kernel
theorem dX8_fits_55 : decode cX8_fits 55 = .ok (.getfield 30, 3) := by decide +kernel
theorem dX8_fits_58 : decode cX8_fits 58 = .ok (.if_icmp .ge 108, 3) := by decide +kernel
theorem dX8_fits_61 : decode cX8_fits 61 = .ok (.aload_n 0, 1) := by decide +kernel
theorem dX8_fits_62 : decode cX8_fits 62 = .ok (.getfield 24, 3) := by decide +kernel
theorem dX8_fits_65 : decode cX8_fits 65 = .ok (.iload 4, 2) := by decide +kernel
theorem dX8_fits_67 : decode cX8_fits 67 = .ok (.iaload, 1) := by decide +kernel
theorem dX8_fits_68 : decode cX8_fits 68 = .ok (.aload_n 0, 1) := by decide +kernel
theorem dX8_fits_69 : decode cX8_fits 69 = .ok (.getfield 18, 3) := by decide +kernel
theorem dX8_fits_72 : decode cX8_fits 72 = .ok (.iload_n 1, 1) := by decide +kernel
theorem dX8_fits_73 : decode cX8_fits 73 = .ok (.iaload, 1) := by decide +kernel
theorem dX8_fits_74 : decode cX8_fits 74 = .ok (.iand, 1) := by decide +kernel
theorem dX8_fits_75 : decode cX8_fits 75 = .ok (.ifCond .eq 6, 3) := by decide +kernel
theorem dX8_fits_78 : decode cX8_fits 78 = .ok (.goto 88, 3) := by decide +kernel
theorem dX8_fits_81 : decode cX8_fits 81 = .ok (.aload_n 0, 1) := by decide +kernel
theorem dX8_fits_82 : decode cX8_fits 82 = .ok (.getfield 24, 3) := by decide +kernel
theorem dX8_fits_85 : decode cX8_fits 85 = .ok (.iload 4, 2) := by decide +kernel
theorem dX8_fits_87 : decode cX8_fits 87 = .ok (.dup2, 1) := by decide +kernel
theorem dX8_fits_88 : decode cX8_fits 88 = .ok (.iaload, 1) := by decide +kernel
theorem dX8_fits_89 : decode cX8_fits 89 = .ok (.aload_n 0, 1) := by decide +kernel
theorem dX8_fits_90 : decode cX8_fits 90 = .ok (.getfield 18, 3) := by decide +kernel
theorem dX8_fits_93 : decode cX8_fits 93 = .ok (.iload_n 1, 1) := by decide +kernel
theorem dX8_fits_94 : decode cX8_fits 94 = .ok (.iaload, 1) := by decide +kernel
theorem dX8_fits_95 : decode cX8_fits 95 = .ok (.ior, 1) := by decide +kernel
theorem dX8_fits_96 : decode cX8_fits 96 = .ok (.iastore, 1) := by decide +kernel
theorem dX8_fits_97 : decode cX8_fits 97 = .ok (.aload_n 0, 1) := by decide +kernel
theorem dX8_fits_98 : decode cX8_fits 98 = .ok (.getfield 27, 3) := by decide +kernel
theorem dX8_fits_101 : decode cX8_fits 101 = .ok (.iload 4, 2) := by decide +kernel
theorem dX8_fits_103 : decode cX8_fits 103 = .ok (.dup2, 1) := by decide +kernel
theorem dX8_fits_104 : decode cX8_fits 104 = .ok (.iaload, 1) := by decide +kernel
theorem dX8_fits_105 : decode cX8_fits 105 = .ok (.iconst 1, 1) := by decide +kernel
theorem dX8_fits_106 : decode cX8_fits 106 = .ok (.iadd, 1) := by decide +kernel
theorem dX8_fits_107 : decode cX8_fits 107 = .ok (.iastore, 1) := by decide +kernel
theorem dX8_fits_108 : decode cX8_fits 108 = .ok (.aload_n 0, 1) := by decide +kernel
theorem dX8_fits_109 : decode cX8_fits 109 = .ok (.getfield 21, 3) := by decide +kernel
theorem dX8_fits_112 : decode cX8_fits 112 = .ok (.iload_n 1, 1) := by decide +kernel
theorem dX8_fits_113 : decode cX8_fits 113 = .ok (.iload 4, 2) := by decide +kernel
theorem dX8_fits_115 : decode cX8_fits 115 = .ok (.iastore, 1) := by decide +kernel
theorem dX8_fits_116 : decode cX8_fits 116 = .ok (.aload_n 0, 1) := by decide +kernel
theorem dX8_fits_117 : decode cX8_fits 117 = .ok (.iload_n 1, 1) := by decide +kernel
theorem dX8_fits_118 : decode cX8_fits 118 = .ok (.iconst 1, 1) := by decide +kernel
theorem dX8_fits_119 : decode cX8_fits 119 = .ok (.iadd, 1) := by decide +kernel
theorem dX8_fits_120 : decode cX8_fits 120 = .ok (.iload_n 2, 1) := by decide +kernel
theorem dX8_fits_121 : decode cX8_fits 121 = .ok (.iload 4, 2) := by decide +kernel
theorem dX8_fits_123 : decode cX8_fits 123 = .ok (.iconst 1, 1) := by decide +kernel
theorem dX8_fits_124 : decode cX8_fits 124 = .ok (.iadd, 1) := by decide +kernel
theorem dX8_fits_125 : decode cX8_fits 125 = .ok (.invokestatic 41, 3) := by decide +kernel
theorem dX8_fits_128 : decode cX8_fits 128 = .ok (.iload_n 3, 1) := by decide +kernel
theorem dX8_fits_129 : decode cX8_fits 129 = .ok (.invokevirtual 37, 3) := by decide +kernel
theorem dX8_fits_132 : decode cX8_fits 132 = .ok (.ifCond .eq 5, 3) := by decide +kernel
theorem dX8_fits_135 : decode cX8_fits 135 = .ok (.iconst 1, 1) := by decide +kernel
theorem dX8_fits_136 : decode cX8_fits 136 = .ok (.ireturn, 1) := by decide +kernel
theorem dX8_fits_137 : decode cX8_fits 137 = .ok (.aload_n 0, 1) := by decide +kernel
theorem dX8_fits_138 : decode cX8_fits 138 = .ok (.getfield 24, 3) := by decide +kernel
theorem dX8_fits_141 : decode cX8_fits 141 = .ok (.iload 4, 2) := by decide +kernel
theorem dX8_fits_143 : decode cX8_fits 143 = .ok (.dup2, 1) := by decide +kernel
theorem dX8_fits_144 : decode cX8_fits 144 = .ok (.iaload, 1) := by decide +kernel
theorem dX8_fits_145 : decode cX8_fits 145 = .ok (.aload_n 0, 1) := by decide +kernel
theorem dX8_fits_146 : decode cX8_fits 146 = .ok (.getfield 18, 3) := by decide +kernel
theorem dX8_fits_149 : decode cX8_fits 149 = .ok (.iload_n 1, 1) := by decide +kernel
theorem dX8_fits_150 : decode cX8_fits 150 = .ok (.iaload, 1) := by decide +kernel
theorem dX8_fits_151 : decode cX8_fits 151 = .ok (.iconst (-1), 1) := by decide +kernel
theorem dX8_fits_152 : decode cX8_fits 152 = .ok (.ixor, 1) := by decide +kernel
theorem dX8_fits_153 : decode cX8_fits 153 = .ok (.iand, 1) := by decide +kernel
theorem dX8_fits_154 : decode cX8_fits 154 = .ok (.iastore, 1) := by decide +kernel
theorem dX8_fits_155 : decode cX8_fits 155 = .ok (.aload_n 0, 1) := by decide +kernel
theorem dX8_fits_156 : decode cX8_fits 156 = .ok (.getfield 27, 3) := by decide +kernel
theorem dX8_fits_159 : decode cX8_fits 159 = .ok (.iload 4, 2) := by decide +kernel
theorem dX8_fits_161 : decode cX8_fits 161 = .ok (.dup2, 1) := by decide +kernel
theorem dX8_fits_162 : decode cX8_fits 162 = .ok (.iaload, 1) := by decide +kernel
theorem dX8_fits_163 : decode cX8_fits 163 = .ok (.iconst 1, 1) := by decide +kernel
theorem dX8_fits_164 : decode cX8_fits 164 = .ok (.isub, 1) := by decide +kernel
theorem dX8_fits_165 : decode cX8_fits 165 = .ok (.iastore, 1) := by decide +kernel
theorem dX8_fits_166 : decode cX8_fits 166 = .ok (.iinc 4 1, 3) := by decide +kernel
theorem dX8_fits_169 : decode cX8_fits 169 = .ok (.goto (-156), 3) := by decide +kernel
theorem dX8_fits_172 : decode cX8_fits 172 = .ok (.iconst 0, 1) := by decide +kernel
theorem dX8_fits_173 : decode cX8_fits 173 = .ok (.ireturn, 1) := by decide +kernel
theorem dX9_init_0 : decode cX9_init 0 = .ok (.aload_n 0, 1) := by decide +kernel
theorem dX9_init_1 : decode cX9_init 1 = .ok (.invokespecial 1, 3) := by decide +kernel
theorem dX9_init_4 : decode cX9_init 4 = .ok (.aload_n 0, 1) := by decide +kernel
theorem dX9_init_5 : decode cX9_init 5 = .ok (.aload_n 1, 1) := by decide +kernel
theorem dX9_init_6 : decode cX9_init 6 = .ok (.putfield 7, 3) := by decide +kernel
theorem dX9_init_9 : decode cX9_init 9 = .ok (.aload_n 0, 1) := by decide +kernel
theorem dX9_init_10 : decode cX9_init 10 = .ok (.bipush 21, 2) := by decide +kernel
theorem dX9_init_12 : decode cX9_init 12 = .ok (.newarray .long, 2) := by decide +kernel
theorem dX9_init_14 : decode cX9_init 14 = .ok (.putfield 13, 3) := by decide +kernel
theorem dX9_init_17 : decode cX9_init 17 = .ok (.iconst 0, 1) := by decide +kernel
theorem dX9_init_18 : decode cX9_init 18 = .ok (.istore_n 2, 1) := by decide +kernel
theorem dX9_init_19 : decode cX9_init 19 = .ok (.iconst 0, 1) := by decide +kernel
theorem dX9_init_20 : decode cX9_init 20 = .ok (.istore_n 3, 1) := by decide +kernel
theorem dX9_init_21 : decode cX9_init 21 = .ok (.iload_n 3, 1) := by decide +kernel
theorem dX9_init_22 : decode cX9_init 22 = .ok (.ldc 17, 2) := by decide +kernel
theorem dX9_init_24 : decode cX9_init 24 = .ok (.invokevirtual 19, 3) := by decide +kernel
theorem dX9_init_27 : decode cX9_init 27 = .ok (.if_icmp .ge 53, 3) := by decide +kernel
theorem dX9_init_30 : decode cX9_init 30 = .ok (.ldc 17, 2) := by decide +kernel
theorem dX9_init_32 : decode cX9_init 32 = .ok (.iload_n 3, 1) := by decide +kernel
theorem dX9_init_33 : decode cX9_init 33 = .ok (.invokevirtual 25, 3) := by decide +kernel
theorem dX9_init_36 : decode cX9_init 36 = .ok (.istore 4, 2) := by decide +kernel
theorem dX9_init_38 : decode cX9_init 38 = .ok (.iload 4, 2) := by decide +kernel
theorem dX9_init_40 : decode cX9_init 40 = .ok (.bipush 32, 2) := by decide +kernel
theorem dX9_init_42 : decode cX9_init 42 = .ok (.if_icmp .ne 9, 3) := by decide +kernel
theorem dX9_init_45 : decode cX9_init 45 = .ok (.iinc 2 1, 3) := by decide +kernel
theorem dX9_init_48 : decode cX9_init 48 = .ok (.goto 26, 3) := by decide +kernel
theorem dX9_init_51 : decode cX9_init 51 = .ok (.iload_n 2, 1) := by decide +kernel
theorem dX9_init_52 : decode cX9_init 52 = .ok (.bipush 21, 2) := by decide +kernel
theorem dX9_init_54 : decode cX9_init 54 = .ok (.if_icmp .ge 20, 3) := by decide +kernel
theorem dX9_init_57 : decode cX9_init 57 = .ok (.aload_n 0, 1) := by decide +kernel
theorem dX9_init_58 : decode cX9_init 58 = .ok (.getfield 13, 3) := by decide +kernel
theorem dX9_init_61 : decode cX9_init 61 = .ok (.iload_n 2, 1) := by decide +kernel
theorem dX9_init_62 : decode cX9_init 62 = .ok (.aload_n 0, 1) := by decide +kernel
theorem dX9_init_63 : decode cX9_init 63 = .ok (.getfield 13, 3) := by decide +kernel
theorem dX9_init_66 : decode cX9_init 66 = .ok (.iload_n 2, 1) := by decide +kernel
theorem dX9_init_67 : decode cX9_init 67 = .ok (.laload, 1) := by decide +kernel
theorem dX9_init_68 : decode cX9_init 68 = .ok (.iload 4, 2) := by decide +kernel
theorem dX9_init_70 : decode cX9_init 70 = .ok (.invokestatic 29, 3) := by decide +kernel
theorem dX9_init_73 : decode cX9_init 73 = .ok (.lastore, 1) := by decide +kernel
theorem dX9_init_74 : decode cX9_init 74 = .ok (.iinc 3 1, 3) := by decide +kernel
theorem dX9_init_77 : decode cX9_init 77 = .ok (.goto (-56), 3) := by decide +kernel
theorem dX9_init_80 : decode cX9_init 80 = .ok (.return_, 1) := by decide +kernel
theorem dX9_start_0 : decode cX9_start 0 = .ok (.aload_n 0, 1) := by decide +kernel
theorem dX9_start_1 : decode cX9_start 1 = .ok (.iconst 0, 1) := by decide +kernel
theorem dX9_start_2 : decode cX9_start 2 = .ok (.putfield 33, 3) := by decide +kernel
theorem dX9_start_5 : decode cX9_start 5 = .ok (.aload_n 0, 1) := by decide +kernel
theorem dX9_start_6 : decode cX9_start 6 = .ok (.iconst 0, 1) := by decide +kernel
theorem dX9_start_7 : decode cX9_start 7 = .ok (.putfield 37, 3) := by decide +kernel
theorem dX9_start_10 : decode cX9_start 10 = .ok (.aload_n 0, 1) := by decide +kernel
theorem dX9_start_11 : decode cX9_start 11 = .ok (.invokevirtual 40, 3) := by decide +kernel
theorem dX9_start_14 : decode cX9_start 14 = .ok (.return_, 1) := by decide +kernel
theorem dX9_advance_0 : decode cX9_advance 0 = .ok (.aload_n 0, 1) := by decide +kernel
theorem dX9_advance_1 : decode cX9_advance 1 = .ok (.getfield 37, 3) := by decide +kernel
theorem dX9_advance_4 : decode cX9_advance 4 = .ok (.iconst 2, 1) := by decide +kernel
theorem dX9_advance_5 : decode cX9_advance 5 = .ok (.if_icmp .ne 7, 3) := by decide +kernel
theorem dX9_advance_8 : decode cX9_advance 8 = .ok (.iconst 1, 1) := by decide +kernel
theorem dX9_advance_9 : decode cX9_advance 9 = .ok (.goto 4, 3) := by decide +kernel
theorem dX9_advance_12 : decode cX9_advance 12 = .ok (.iconst 0, 1) := by decide +kernel
theorem dX9_advance_13 : decode cX9_advance 13 = .ok (.istore_n 1, 1) := by decide +kernel
theorem dX9_advance_14 : decode cX9_advance 14 = .ok (.aload_n 0, 1) := by decide +kernel
theorem dX9_advance_15 : decode cX9_advance 15 = .ok (.getfield 33, 3) := by decide +kernel
theorem dX9_advance_18 : decode cX9_advance 18 = .ok (.istore_n 2, 1) := by decide +kernel
theorem dX9_advance_19 : decode cX9_advance 19 = .ok (.aload_n 0, 1) := by decide +kernel
theorem dX9_advance_20 : decode cX9_advance 20 = .ok (.invokevirtual 43, 3) := by decide +kernel
theorem dX9_advance_23 : decode cX9_advance 23 = .ok (.aload_n 0, 1) := by decide +kernel
theorem dX9_advance_24 : decode cX9_advance 24 = .ok (.aload_n 0, 1) := by decide +kernel
theorem dX9_advance_25 : decode cX9_advance 25 = .ok (.getfield 33, 3) := by decide +kernel
theorem dX9_advance_28 : decode cX9_advance 28 = .ok (.putfield 46, 3) := by decide +kernel
theorem dX9_advance_31 : decode cX9_advance 31 = .ok (.aload_n 0, 1) := by decide +kernel
theorem dX9_advance_32 : decode cX9_advance 32 = .ok (.getfield 7, 3) := by decide +kernel
theorem dX9_advance_35 : decode cX9_advance 35 = .ok (.aload_n 0, 1) := by decide +kernel
theorem dX9_advance_36 : decode cX9_advance 36 = .ok (.getfield 46, 3) := by decide +kernel
theorem dX9_advance_39 : decode cX9_advance 39 = .ok (.invokevirtual 49, 3) := by decide +kernel
theorem dX9_advance_42 : decode cX9_advance 42 = .ok (.istore_n 3, 1) := by decide +kernel
theorem dX9_advance_43 : decode cX9_advance 43 = .ok (.aload_n 0, 1) := by decide +kernel
theorem dX9_advance_44 : decode cX9_advance 44 = .ok (.getfield 46, 3) := by decide +kernel
theorem dX9_advance_47 : decode cX9_advance 47 = .ok (.aload_n 0, 1) := by decide +kernel
theorem dX9_advance_48 : decode cX9_advance 48 = .ok (.getfield 7, 3) := by decide +kernel
theorem dX9_advance_51 : decode cX9_advance 51 = .ok (.getfield 55, 3) := by decide +kernel
theorem dX9_advance_54 : decode cX9_advance 54 = .ok (.if_icmp .lt 11, 3) := by decide +kernel
theorem dX9_advance_57 : decode cX9_advance 57 = .ok (.aload_n 0, 1) := by decide +kernel
theorem dX9_advance_58 : decode cX9_advance 58 = .ok (.iconst 0, 1) := by decide +kernel
theorem dX9_advance_59 : decode cX9_advance 59 = .ok (.putfield 37, 3) := by decide +kernel
theorem dX9_advance_62 : decode cX9_advance 62 = .ok (.goto 80, 3) := by decide +kernel
theorem dX9_advance_65 : decode cX9_advance 65 = .ok (.iload_n 3, 1) := by decide +kernel
theorem dX9_advance_66 : decode cX9_advance 66 = .ok (.invokestatic 57, 3) := by decide +kernel
theorem dX9_advance_69 : decode cX9_advance 69 = .ok (.ifCond .eq 22, 3) := by decide +kernel
theorem dX9_advance_72 : decode cX9_advance 72 = .ok (.iload_n 1, 1) := by decide +kernel
theorem dX9_advance_73 : decode cX9_advance 73 = .ok (.ifCond .eq 11, 3) := by decide +kernel
theorem dX9_advance_76 : decode cX9_advance 76 = .ok (.aload_n 0, 1) := by decide +kernel
theorem dX9_advance_77 : decode cX9_advance 77 = .ok (.getfield 46, 3) := by decide +kernel
theorem dX9_advance_80 : decode cX9_advance 80 = .ok (.iload_n 2, 1) := by decide +kernel
theorem dX9_advance_81 : decode cX9_advance 81 = .ok (.if_icmp .eq 10, 3) := by decide +kernel
theorem dX9_advance_84 : decode cX9_advance 84 = .ok (.aload_n 0, 1) := by decide +kernel
theorem dX9_advance_85 : decode cX9_advance 85 = .ok (.invokevirtual 61, 3) := by decide +kernel
theorem dX9_advance_88 : decode cX9_advance 88 = .ok (.goto 54, 3) := by decide +kernel
theorem dX9_advance_91 : decode cX9_advance 91 = .ok (.iload_n 3, 1) := by decide +kernel
theorem dX9_advance_92 : decode cX9_advance 92 = .ok (.invokestatic 64, 3) := by decide +kernel
theorem dX9_advance_95 : decode cX9_advance 95 = .ok (.ifCond .eq 10, 3) := by decide +kernel
theorem dX9_advance_98 : decode cX9_advance 98 = .ok (.aload_n 0, 1) := by decide +kernel
theorem dX9_advance_99 : decode cX9_advance 99 = .ok (.invokevirtual 67, 3) := by decide +kernel
theorem dX9_advance_102 : decode cX9_advance 102 = .ok (.goto 40, 3) := by decide +kernel
theorem dX9_advance_105 : decode cX9_advance 105 = .ok (.iload_n 3, 1) := by decide +kernel
theorem dX9_advance_106 : decode cX9_advance 106 = .ok (.ifCond .le 31, 3) := by decide +kernel
theorem dX9_advance_109 : decode cX9_advance 109 = .ok (.ldc 70, 2) := by decide +kernel
theorem dX9_advance_111 : decode cX9_advance 111 = .ok (.iload_n 3, 1) := by decide +kernel
theorem dX9_advance_112 : decode cX9_advance 112 = .ok (.i2c, 1) := by decide +kernel
theorem dX9_advance_113 : decode cX9_advance 113 = .ok (.invokevirtual 72, 3) := by decide +kernel
theorem dX9_advance_116 : decode cX9_advance 116 = .ok (.ifCond .lt 21, 3) := by decide +kernel
theorem dX9_advance_119 : decode cX9_advance 119 = .ok (.aload_n 0, 1) := by decide +kernel
theorem dX9_advance_120 : decode cX9_advance 120 = .ok (.iload_n 3, 1) := by decide +kernel
theorem dX9_advance_121 : decode cX9_advance 121 = .ok (.putfield 37, 3) := by decide +kernel
theorem dX9_advance_124 : decode cX9_advance 124 = .ok (.aload_n 0, 1) := by decide +kernel
theorem dX9_advance_125 : decode cX9_advance 125 = .ok (.dup, 1) := by decide +kernel
theorem dX9_advance_126 : decode cX9_advance 126 = .ok (.getfield 33, 3) := by decide +kernel
theorem dX9_advance_129 : decode cX9_advance 129 = .ok (.iconst 1, 1) := by decide +kernel
theorem dX9_advance_130 : decode cX9_advance 130 = .ok (.iadd, 1) := by decide +kernel
theorem dX9_advance_131 : decode cX9_advance 131 = .ok (.putfield 33, 3) := by decide +kernel
theorem dX9_advance_134 : decode cX9_advance 134 = .ok (.goto 8, 3) := by decide +kernel
theorem dX9_advance_137 : decode cX9_advance 137 = .ok (.aload_n 0, 1) := by decide +kernel
theorem dX9_advance_138 : decode cX9_advance 138 = .ok (.iconst 1, 1) := by decide +kernel
theorem dX9_advance_139 : decode cX9_advance 139 = .ok (.putfield 37, 3) := by decide +kernel
theorem dX9_advance_142 : decode cX9_advance 142 = .ok (.return_, 1) := by decide +kernel
theorem dX9_letter_0 : decode cX9_letter 0 = .ok (.aload_n 0, 1) := by decide +kernel
theorem dX9_letter_1 : decode cX9_letter 1 = .ok (.getfield 7, 3) := by decide +kernel
theorem dX9_letter_4 : decode cX9_letter 4 = .ok (.aload_n 0, 1) := by decide +kernel
theorem dX9_letter_5 : decode cX9_letter 5 = .ok (.getfield 46, 3) := by decide +kernel
theorem dX9_letter_8 : decode cX9_letter 8 = .ok (.iload_n 1, 1) := by decide +kernel
theorem dX9_letter_9 : decode cX9_letter 9 = .ok (.iadd, 1) := by decide +kernel
theorem dX9_letter_10 : decode cX9_letter 10 = .ok (.invokevirtual 49, 3) := by decide +kernel
theorem dX9_letter_13 : decode cX9_letter 13 = .ok (.ireturn, 1) := by decide +kernel
theorem dX9_skipBlanks_0 : decode cX9_skipBlanks 0 = .ok (.aload_n 0, 1) := by decide +kernel
theorem dX9_skipBlanks_1 : decode cX9_skipBlanks 1 = .ok (.getfield 33, 3) := by decide +kernel
theorem dX9_skipBlanks_4 : decode cX9_skipBlanks 4 = .ok (.aload_n 0, 1) := by decide +kernel
theorem dX9_skipBlanks_5 : decode cX9_skipBlanks 5 = .ok (.getfield 7, 3) := by decide +kernel
theorem dX9_skipBlanks_8 : decode cX9_skipBlanks 8 = .ok (.getfield 55, 3) := by decide +kernel
theorem dX9_skipBlanks_11 : decode cX9_skipBlanks 11 = .ok (.if_icmp .ge 48, 3) := by decide +kernel
theorem dX9_skipBlanks_14 : decode cX9_skipBlanks 14 = .ok (.aload_n 0, 1) := by decide +kernel
theorem dX9_skipBlanks_15 : decode cX9_skipBlanks 15 = .ok (.getfield 7, 3) := by decide +kernel
theorem dX9_skipBlanks_18 : decode cX9_skipBlanks 18 = .ok (.aload_n 0, 1) := by decide +kernel
theorem dX9_skipBlanks_19 : decode cX9_skipBlanks 19 = .ok (.getfield 33, 3) := by decide +kernel
theorem dX9_skipBlanks_22 : decode cX9_skipBlanks 22 = .ok (.invokevirtual 49, 3) := by decide +kernel
theorem dX9_skipBlanks_25 : decode cX9_skipBlanks 25 = .ok (.bipush 32, 2) := by decide +kernel
theorem dX9_skipBlanks_27 : decode cX9_skipBlanks 27 = .ok (.if_icmp .eq 19, 3) := by decide +kernel
theorem dX9_skipBlanks_30 : decode cX9_skipBlanks 30 = .ok (.aload_n 0, 1) := by decide +kernel
theorem dX9_skipBlanks_31 : decode cX9_skipBlanks 31 = .ok (.getfield 7, 3) := by decide +kernel
theorem dX9_skipBlanks_34 : decode cX9_skipBlanks 34 = .ok (.aload_n 0, 1) := by decide +kernel
theorem dX9_skipBlanks_35 : decode cX9_skipBlanks 35 = .ok (.getfield 33, 3) := by decide +kernel
theorem dX9_skipBlanks_38 : decode cX9_skipBlanks 38 = .ok (.invokevirtual 49, 3) := by decide +kernel
theorem dX9_skipBlanks_41 : decode cX9_skipBlanks 41 = .ok (.bipush 10, 2) := by decide +kernel
theorem dX9_skipBlanks_43 : decode cX9_skipBlanks 43 = .ok (.if_icmp .ne 16, 3) := by decide +kernel
theorem dX9_skipBlanks_46 : decode cX9_skipBlanks 46 = .ok (.aload_n 0, 1) := by decide +kernel
theorem dX9_skipBlanks_47 : decode cX9_skipBlanks 47 = .ok (.dup, 1) := by decide +kernel
theorem dX9_skipBlanks_48 : decode cX9_skipBlanks 48 = .ok (.getfield 33, 3) := by decide +kernel
theorem dX9_skipBlanks_51 : decode cX9_skipBlanks 51 = .ok (.iconst 1, 1) := by decide +kernel
theorem dX9_skipBlanks_52 : decode cX9_skipBlanks 52 = .ok (.iadd, 1) := by decide +kernel
theorem dX9_skipBlanks_53 : decode cX9_skipBlanks 53 = .ok (.putfield 33, 3) := by decide +kernel
theorem dX9_skipBlanks_56 : decode cX9_skipBlanks 56 = .ok (.goto (-56), 3) := by decide +kernel
theorem dX9_skipBlanks_59 : decode cX9_skipBlanks 59 = .ok (.return_, 1) := by decide +kernel
theorem dX9_takeWord_0 : decode cX9_takeWord 0 = .ok (.aload_n 0, 1) := by decide +kernel
theorem dX9_takeWord_1 : decode cX9_takeWord 1 = .ok (.lconst 0, 1) := by decide +kernel
theorem dX9_takeWord_2 : decode cX9_takeWord 2 = .ok (.putfield 75, 3) := by decide +kernel
theorem dX9_takeWord_5 : decode cX9_takeWord 5 = .ok (.aload_n 0, 1) := by decide +kernel
theorem dX9_takeWord_6 : decode cX9_takeWord 6 = .ok (.iconst 0, 1) := by decide +kernel
theorem dX9_takeWord_7 : decode cX9_takeWord 7 = .ok (.putfield 79, 3) := by decide +kernel
theorem dX9_takeWord_10 : decode cX9_takeWord 10 = .ok (.aload_n 0, 1) := by decide +kernel
theorem dX9_takeWord_11 : decode cX9_takeWord 11 = .ok (.getfield 79, 3) := by decide +kernel
theorem dX9_takeWord_14 : decode cX9_takeWord 14 = .ok (.bipush 8, 2) := by decide +kernel
theorem dX9_takeWord_16 : decode cX9_takeWord 16 = .ok (.if_icmp .ge 65, 3) := by decide +kernel
theorem dX9_takeWord_19 : decode cX9_takeWord 19 = .ok (.aload_n 0, 1) := by decide +kernel
theorem dX9_takeWord_20 : decode cX9_takeWord 20 = .ok (.getfield 7, 3) := by decide +kernel
theorem dX9_takeWord_23 : decode cX9_takeWord 23 = .ok (.aload_n 0, 1) := by decide +kernel
theorem dX9_takeWord_24 : decode cX9_takeWord 24 = .ok (.getfield 33, 3) := by decide +kernel
theorem dX9_takeWord_27 : decode cX9_takeWord 27 = .ok (.invokevirtual 49, 3) := by decide +kernel
theorem dX9_takeWord_30 : decode cX9_takeWord 30 = .ok (.invokestatic 57, 3) := by decide +kernel
theorem dX9_takeWord_33 : decode cX9_takeWord 33 = .ok (.ifCond .eq 48, 3) := by decide +kernel
theorem dX9_takeWord_36 : decode cX9_takeWord 36 = .ok (.aload_n 0, 1) := by decide +kernel
theorem dX9_takeWord_37 : decode cX9_takeWord 37 = .ok (.aload_n 0, 1) := by decide +kernel
theorem dX9_takeWord_38 : decode cX9_takeWord 38 = .ok (.getfield 75, 3) := by decide +kernel
theorem dX9_takeWord_41 : decode cX9_takeWord 41 = .ok (.aload_n 0, 1) := by decide +kernel
theorem dX9_takeWord_42 : decode cX9_takeWord 42 = .ok (.getfield 7, 3) := by decide +kernel
theorem dX9_takeWord_45 : decode cX9_takeWord 45 = .ok (.aload_n 0, 1) := by decide +kernel
theorem dX9_takeWord_46 : decode cX9_takeWord 46 = .ok (.getfield 33, 3) := by decide +kernel
theorem dX9_takeWord_49 : decode cX9_takeWord 49 = .ok (.invokevirtual 49, 3) := by decide +kernel
theorem dX9_takeWord_52 : decode cX9_takeWord 52 = .ok (.invokestatic 29, 3) := by decide +kernel
theorem dX9_takeWord_55 : decode cX9_takeWord 55 = .ok (.putfield 75, 3) := by decide +kernel
theorem dX9_takeWord_58 : decode cX9_takeWord 58 = .ok (.aload_n 0, 1) := by decide +kernel
theorem dX9_takeWord_59 : decode cX9_takeWord 59 = .ok (.dup, 1) := by decide +kernel
theorem dX9_takeWord_60 : decode cX9_takeWord 60 = .ok (.getfield 79, 3) := by decide +kernel
theorem dX9_takeWord_63 : decode cX9_takeWord 63 = .ok (.iconst 1, 1) := by decide +kernel
theorem dX9_takeWord_64 : decode cX9_takeWord 64 = .ok (.iadd, 1) := by decide +kernel
theorem dX9_takeWord_65 : decode cX9_takeWord 65 = .ok (.putfield 79, 3) := by decide +kernel
theorem dX9_takeWord_68 : decode cX9_takeWord 68 = .ok (.aload_n 0, 1) := by decide +kernel
theorem dX9_takeWord_69 : decode cX9_takeWord 69 = .ok (.dup, 1) := by decide +kernel
theorem dX9_takeWord_70 : decode cX9_takeWord 70 = .ok (.getfield 33, 3) := by decide +kernel
theorem dX9_takeWord_73 : decode cX9_takeWord 73 = .ok (.iconst 1, 1) := by decide +kernel
theorem dX9_takeWord_74 : decode cX9_takeWord 74 = .ok (.iadd, 1) := by decide +kernel
theorem dX9_takeWord_75 : decode cX9_takeWord 75 = .ok (.putfield 33, 3) := by decide +kernel
theorem dX9_takeWord_78 : decode cX9_takeWord 78 = .ok (.goto (-68), 3) := by decide +kernel
theorem dX9_takeWord_81 : decode cX9_takeWord 81 = .ok (.aload_n 0, 1) := by decide +kernel
theorem dX9_takeWord_82 : decode cX9_takeWord 82 = .ok (.iconst 3, 1) := by decide +kernel
theorem dX9_takeWord_83 : decode cX9_takeWord 83 = .ok (.putfield 37, 3) := by decide +kernel
theorem dX9_takeWord_86 : decode cX9_takeWord 86 = .ok (.iconst 0, 1) := by decide +kernel
theorem dX9_takeWord_87 : decode cX9_takeWord 87 = .ok (.istore_n 1, 1) := by decide +kernel
theorem dX9_takeWord_88 : decode cX9_takeWord 88 = .ok (.iload_n 1, 1) := by decide +kernel
theorem dX9_takeWord_89 : decode cX9_takeWord 89 = .ok (.bipush 21, 2) := by decide +kernel
theorem dX9_takeWord_91 : decode cX9_takeWord 91 = .ok (.if_icmp .ge 30, 3) := by decide +kernel
theorem dX9_takeWord_94 : decode cX9_takeWord 94 = .ok (.aload_n 0, 1) := by decide +kernel
theorem dX9_takeWord_95 : decode cX9_takeWord 95 = .ok (.getfield 13, 3) := by decide +kernel
theorem dX9_takeWord_98 : decode cX9_takeWord 98 = .ok (.iload_n 1, 1) := by decide +kernel
theorem dX9_takeWord_99 : decode cX9_takeWord 99 = .ok (.laload, 1) := by decide +kernel
theorem dX9_takeWord_100 : decode cX9_takeWord 100 = .ok (.aload_n 0, 1) := by decide +kernel
theorem dX9_takeWord_101 : decode cX9_takeWord 101 = .ok (.getfield 75, 3) := by decide +kernel
theorem dX9_takeWord_104 : decode cX9_takeWord 104 = .ok (.lcmp, 1) := by decide +kernel
theorem dX9_takeWord_105 : decode cX9_takeWord 105 = .ok (.ifCond .ne 10, 3) := by decide +kernel
theorem dX9_takeWord_108 : decode cX9_takeWord 108 = .ok (.aload_n 0, 1) := by decide +kernel
theorem dX9_takeWord_109 : decode cX9_takeWord 109 = .ok (.iconst 4, 1) := by decide +kernel
theorem dX9_takeWord_110 : decode cX9_takeWord 110 = .ok (.iload_n 1, 1) := by decide +kernel
theorem dX9_takeWord_111 : decode cX9_takeWord 111 = .ok (.iadd, 1) := by decide +kernel
theorem dX9_takeWord_112 : decode cX9_takeWord 112 = .ok (.putfield 37, 3) := by decide +kernel
theorem dX9_takeWord_115 : decode cX9_takeWord 115 = .ok (.iinc 1 1, 3) := by decide +kernel
theorem dX9_takeWord_118 : decode cX9_takeWord 118 = .ok (.goto (-30), 3) := by decide +kernel
theorem dX9_takeWord_121 : decode cX9_takeWord 121 = .ok (.return_, 1) := by decide +kernel
theorem dX9_takeNumber_0 : decode cX9_takeNumber 0 = .ok (.aload_n 0, 1) := by decide +kernel
theorem dX9_takeNumber_1 : decode cX9_takeNumber 1 = .ok (.iconst 2, 1) := by decide +kernel
theorem dX9_takeNumber_2 : decode cX9_takeNumber 2 = .ok (.putfield 37, 3) := by decide +kernel
theorem dX9_takeNumber_5 : decode cX9_takeNumber 5 = .ok (.aload_n 0, 1) := by decide +kernel
theorem dX9_takeNumber_6 : decode cX9_takeNumber 6 = .ok (.iconst 0, 1) := by decide +kernel
theorem dX9_takeNumber_7 : decode cX9_takeNumber 7 = .ok (.putfield 80, 3) := by decide +kernel
theorem dX9_takeNumber_10 : decode cX9_takeNumber 10 = .ok (.iconst 0, 1) := by decide +kernel
theorem dX9_takeNumber_11 : decode cX9_takeNumber 11 = .ok (.istore_n 1, 1) := by decide +kernel
theorem dX9_takeNumber_12 : decode cX9_takeNumber 12 = .ok (.iload_n 1, 1) := by decide +kernel
theorem dX9_takeNumber_13 : decode cX9_takeNumber 13 = .ok (.iconst 4, 1) := by decide +kernel
theorem dX9_takeNumber_14 : decode cX9_takeNumber 14 = .ok (.if_icmp .ge 62, 3) := by decide +kernel
theorem dX9_takeNumber_17 : decode cX9_takeNumber 17 = .ok (.aload_n 0, 1) := by decide +kernel
theorem dX9_takeNumber_18 : decode cX9_takeNumber 18 = .ok (.getfield 7, 3) := by decide +kernel
theorem dX9_takeNumber_21 : decode cX9_takeNumber 21 = .ok (.aload_n 0, 1) := by decide +kernel
theorem dX9_takeNumber_22 : decode cX9_takeNumber 22 = .ok (.getfield 33, 3) := by decide +kernel
theorem dX9_takeNumber_25 : decode cX9_takeNumber 25 = .ok (.invokevirtual 49, 3) := by decide +kernel
theorem dX9_takeNumber_28 : decode cX9_takeNumber 28 = .ok (.invokestatic 64, 3) := by decide +kernel
theorem dX9_takeNumber_31 : decode cX9_takeNumber 31 = .ok (.ifCond .eq 45, 3) := by decide +kernel
theorem dX9_takeNumber_34 : decode cX9_takeNumber 34 = .ok (.aload_n 0, 1) := by decide +kernel
theorem dX9_takeNumber_35 : decode cX9_takeNumber 35 = .ok (.aload_n 0, 1) := by decide +kernel
theorem dX9_takeNumber_36 : decode cX9_takeNumber 36 = .ok (.getfield 80, 3) := by decide +kernel
theorem dX9_takeNumber_39 : decode cX9_takeNumber 39 = .ok (.bipush 10, 2) := by decide +kernel
theorem dX9_takeNumber_41 : decode cX9_takeNumber 41 = .ok (.imul, 1) := by decide +kernel
theorem dX9_takeNumber_42 : decode cX9_takeNumber 42 = .ok (.aload_n 0, 1) := by decide +kernel
theorem dX9_takeNumber_43 : decode cX9_takeNumber 43 = .ok (.getfield 7, 3) := by decide +kernel
theorem dX9_takeNumber_46 : decode cX9_takeNumber 46 = .ok (.aload_n 0, 1) := by decide +kernel
theorem dX9_takeNumber_47 : decode cX9_takeNumber 47 = .ok (.getfield 33, 3) := by decide +kernel
theorem dX9_takeNumber_50 : decode cX9_takeNumber 50 = .ok (.invokevirtual 49, 3) := by decide +kernel
theorem dX9_takeNumber_53 : decode cX9_takeNumber 53 = .ok (.iadd, 1) := by decide +kernel
theorem dX9_takeNumber_54 : decode cX9_takeNumber 54 = .ok (.bipush 48, 2) := by decide +kernel
theorem dX9_takeNumber_56 : decode cX9_takeNumber 56 = .ok (.isub, 1) := by decide +kernel
theorem dX9_takeNumber_57 : decode cX9_takeNumber 57 = .ok (.putfield 80, 3) := by decide +kernel
theorem dX9_takeNumber_60 : decode cX9_takeNumber 60 = .ok (.aload_n 0, 1) := by decide +kernel
theorem dX9_takeNumber_61 : decode cX9_takeNumber 61 = .ok (.dup, 1) := by decide +kernel
theorem dX9_takeNumber_62 : decode cX9_takeNumber 62 = .ok (.getfield 33, 3) := by decide +kernel
theorem dX9_takeNumber_65 : decode cX9_takeNumber 65 = .ok (.iconst 1, 1) := by decide +kernel
theorem dX9_takeNumber_66 : decode cX9_takeNumber 66 = .ok (.iadd, 1) := by decide +kernel
theorem dX9_takeNumber_67 : decode cX9_takeNumber 67 = .ok (.putfield 33, 3) := by decide +kernel
theorem dX9_takeNumber_70 : decode cX9_takeNumber 70 = .ok (.iinc 1 1, 3) := by decide +kernel
theorem dX9_takeNumber_73 : decode cX9_takeNumber 73 = .ok (.goto (-61), 3) := by decide +kernel
theorem dX9_takeNumber_76 : decode cX9_takeNumber 76 = .ok (.return_, 1) := by decide +kernel
theorem dX9_isLetter_0 : decode cX9_isLetter 0 = .ok (.iload_n 0, 1) := by decide +kernel
theorem dX9_isLetter_1 : decode cX9_isLetter 1 = .ok (.bipush 97, 2) := by decide +kernel
theorem dX9_isLetter_3 : decode cX9_isLetter 3 = .ok (.if_icmp .lt 13, 3) := by decide +kernel
theorem dX9_isLetter_6 : decode cX9_isLetter 6 = .ok (.iload_n 0, 1) := by decide +kernel
theorem dX9_isLetter_7 : decode cX9_isLetter 7 = .ok (.bipush 122, 2) := by decide +kernel
theorem dX9_isLetter_9 : decode cX9_isLetter 9 = .ok (.if_icmp .gt 7, 3) := by decide +kernel
theorem dX9_isLetter_12 : decode cX9_isLetter 12 = .ok (.iconst 1, 1) := by decide +kernel
theorem dX9_isLetter_13 : decode cX9_isLetter 13 = .ok (.goto 4, 3) := by decide +kernel
theorem dX9_isLetter_16 : decode cX9_isLetter 16 = .ok (.iconst 0, 1) := by decide +kernel
theorem dX9_isLetter_17 : decode cX9_isLetter 17 = .ok (.ireturn, 1) := by decide +kernel
theorem dX9_isDigit_0 : decode cX9_isDigit 0 = .ok (.iload_n 0, 1) := by decide +kernel
theorem dX9_isDigit_1 : decode cX9_isDigit 1 = .ok (.bipush 48, 2) := by decide +kernel
theorem dX9_isDigit_3 : decode cX9_isDigit 3 = .ok (.if_icmp .lt 13, 3) := by decide +kernel
theorem dX9_isDigit_6 : decode cX9_isDigit 6 = .ok (.iload_n 0, 1) := by decide +kernel
theorem dX9_isDigit_7 : decode cX9_isDigit 7 = .ok (.bipush 57, 2) := by decide +kernel
theorem dX9_isDigit_9 : decode cX9_isDigit 9 = .ok (.if_icmp .gt 7, 3) := by decide +kernel
theorem dX9_isDigit_12 : decode cX9_isDigit 12 = .ok (.iconst 1, 1) := by decide +kernel
theorem dX9_isDigit_13 : decode cX9_isDigit 13 = .ok (.goto 4, 3) := by decide +kernel
theorem dX9_isDigit_16 : decode cX9_isDigit 16 = .ok (.iconst 0, 1) := by decide +kernel
theorem dX9_isDigit_17 : decode cX9_isDigit 17 = .ok (.ireturn, 1) := by decide +kernel
theorem dX9_withLetter_0 : decode cX9_withLetter 0 = .ok (.lload_n 0, 1) := by decide +kernel
theorem dX9_withLetter_1 : decode cX9_withLetter 1 = .ok (.iconst 5, 1) := by decide +kernel
theorem dX9_withLetter_2 : decode cX9_withLetter 2 = .ok (.lshl, 1) := by decide +kernel
theorem dX9_withLetter_3 : decode cX9_withLetter 3 = .ok (.iload_n 2, 1) := by decide +kernel
theorem dX9_withLetter_4 : decode cX9_withLetter 4 = .ok (.bipush 97, 2) := by decide +kernel
theorem dX9_withLetter_6 : decode cX9_withLetter 6 = .ok (.isub, 1) := by decide +kernel
theorem dX9_withLetter_7 : decode cX9_withLetter 7 = .ok (.iconst 1, 1) := by decide +kernel
theorem dX9_withLetter_8 : decode cX9_withLetter 8 = .ok (.iadd, 1) := by decide +kernel
theorem dX9_withLetter_9 : decode cX9_withLetter 9 = .ok (.i2l, 1) := by decide +kernel
theorem dX9_withLetter_10 : decode cX9_withLetter 10 = .ok (.lor, 1) := by decide +kernel
theorem dX9_withLetter_11 : decode cX9_withLetter 11 = .ok (.lreturn, 1) := by decide +kernel
theorem dX10_init_0 : decode cX10_init 0 = .ok (.aload_n 0, 1) := by decide +kernel
theorem dX10_init_1 : decode cX10_init 1 = .ok (.invokespecial 1, 3) := by decide +kernel
theorem dX10_init_4 : decode cX10_init 4 = .ok (.aload_n 0, 1) := by decide +kernel
theorem dX10_init_5 : decode cX10_init 5 = .ok (.new 7, 3) := by decide +kernel
theorem dX10_init_8 : decode cX10_init 8 = .ok (.dup, 1) := by decide +kernel
theorem dX10_init_9 : decode cX10_init 9 = .ok (.invokespecial 9, 3) := by decide +kernel
theorem dX10_init_12 : decode cX10_init 12 = .ok (.putfield 10, 3) := by decide +kernel
theorem dX10_init_15 : decode cX10_init 15 = .ok (.aload_n 0, 1) := by decide +kernel
theorem dX10_init_16 : decode cX10_init 16 = .ok (.iconst 2, 1) := by decide +kernel
theorem dX10_init_17 : decode cX10_init 17 = .ok (.bipush 8, 2) := by decide +kernel
theorem dX10_init_19 : decode cX10_init 19 = .ok (.multianewarray 16 2, 4) := by decide +kernel
theorem dX10_init_23 : decode cX10_init 23 = .ok (.putfield 18, 3) := by decide +kernel
theorem dX10_init_26 : decode cX10_init 26 = .ok (.iconst 0, 1) := by decide +kernel
theorem dX10_init_27 : decode cX10_init 27 = .ok (.istore_n 1, 1) := by decide +kernel
theorem dX10_init_28 : decode cX10_init 28 = .ok (.iload_n 1, 1) := by decide +kernel
theorem dX10_init_29 : decode cX10_init 29 = .ok (.bipush 8, 2) := by decide +kernel
theorem dX10_init_31 : decode cX10_init 31 = .ok (.if_icmp .ge 39, 3) := by decide +kernel
theorem dX10_init_34 : decode cX10_init 34 = .ok (.iload_n 1, 1) := by decide +kernel
theorem dX10_init_35 : decode cX10_init 35 = .ok (.bipush 6, 2) := by decide +kernel
theorem dX10_init_37 : decode cX10_init 37 = .ok (.if_icmp .ge 7, 3) := by decide +kernel
theorem dX10_init_40 : decode cX10_init 40 = .ok (.iload_n 1, 1) := by decide +kernel
theorem dX10_init_41 : decode cX10_init 41 = .ok (.goto 4, 3) := by decide +kernel
theorem dX10_init_44 : decode cX10_init 44 = .ok (.iconst 4, 1) := by decide +kernel
theorem dX10_init_45 : decode cX10_init 45 = .ok (.istore_n 2, 1) := by decide +kernel
theorem dX10_init_46 : decode cX10_init 46 = .ok (.aload_n 0, 1) := by decide +kernel
theorem dX10_init_47 : decode cX10_init 47 = .ok (.getfield 18, 3) := by decide +kernel
theorem dX10_init_50 : decode cX10_init 50 = .ok (.iconst 0, 1) := by decide +kernel
theorem dX10_init_51 : decode cX10_init 51 = .ok (.aaload, 1) := by decide +kernel
theorem dX10_init_52 : decode cX10_init 52 = .ok (.iload_n 1, 1) := by decide +kernel
theorem dX10_init_53 : decode cX10_init 53 = .ok (.iload_n 2, 1) := by decide +kernel
theorem dX10_init_54 : decode cX10_init 54 = .ok (.iastore, 1) := by decide +kernel
theorem dX10_init_55 : decode cX10_init 55 = .ok (.aload_n 0, 1) := by decide +kernel
theorem dX10_init_56 : decode cX10_init 56 = .ok (.getfield 18, 3) := by decide +kernel
theorem dX10_init_59 : decode cX10_init 59 = .ok (.iconst 1, 1) := by decide +kernel
theorem dX10_init_60 : decode cX10_init 60 = .ok (.aaload, 1) := by decide +kernel
theorem dX10_init_61 : decode cX10_init 61 = .ok (.iload_n 1, 1) := by decide +kernel
theorem dX10_init_62 : decode cX10_init 62 = .ok (.iload_n 2, 1) := by decide +kernel
theorem dX10_init_63 : decode cX10_init 63 = .ok (.iastore, 1) := by decide +kernel
theorem dX10_init_64 : decode cX10_init 64 = .ok (.iinc 1 1, 3) := by decide +kernel
theorem dX10_init_67 : decode cX10_init 67 = .ok (.goto (-39), 3) := by decide +kernel
theorem dX10_init_70 : decode cX10_init 70 = .ok (.new 23, 3) := by decide +kernel
theorem dX10_init_73 : decode cX10_init 73 = .ok (.dup, 1) := by decide +kernel
theorem dX10_init_74 : decode cX10_init 74 = .ok (.aload_n 0, 1) := by decide +kernel
theorem dX10_init_75 : decode cX10_init 75 = .ok (.getfield 10, 3) := by decide +kernel
theorem dX10_init_78 : decode cX10_init 78 = .ok (.invokespecial 25, 3) := by decide +kernel
theorem dX10_init_81 : decode cX10_init 81 = .ok (.astore_n 1, 1) := by decide +kernel
theorem dX10_init_82 : decode cX10_init 82 = .ok (.aload_n 0, 1) := by decide +kernel
theorem dX10_init_83 : decode cX10_init 83 = .ok (.new 28, 3) := by decide +kernel
theorem dX10_init_86 : decode cX10_init 86 = .ok (.dup, 1) := by decide +kernel
theorem dX10_init_87 : decode cX10_init 87 = .ok (.aload_n 1, 1) := by decide +kernel
theorem dX10_init_88 : decode cX10_init 88 = .ok (.invokespecial 30, 3) := by decide +kernel
theorem dX10_init_91 : decode cX10_init 91 = .ok (.putfield 33, 3) := by decide +kernel
theorem dX10_init_94 : decode cX10_init 94 = .ok (.aload_n 0, 1) := by decide +kernel
theorem dX10_init_95 : decode cX10_init 95 = .ok (.new 37, 3) := by decide +kernel
theorem dX10_init_98 : decode cX10_init 98 = .ok (.dup, 1) := by decide +kernel
theorem dX10_init_99 : decode cX10_init 99 = .ok (.aload_n 1, 1) := by decide +kernel
theorem dX10_init_100 : decode cX10_init 100 = .ok (.invokespecial 39, 3) := by decide +kernel
theorem dX10_init_103 : decode cX10_init 103 = .ok (.putfield 40, 3) := by decide +kernel
theorem dX10_init_106 : decode cX10_init 106 = .ok (.aload_n 0, 1) := by decide +kernel
theorem dX10_init_107 : decode cX10_init 107 = .ok (.bipush 6, 2) := by decide +kernel
theorem dX10_init_109 : decode cX10_init 109 = .ok (.anewarray 44, 3) := by decide +kernel
theorem dX10_init_112 : decode cX10_init 112 = .ok (.putfield 46, 3) := by decide +kernel
theorem dX10_init_115 : decode cX10_init 115 = .ok (.iconst 0, 1) := by decide +kernel
theorem dX10_init_116 : decode cX10_init 116 = .ok (.istore_n 2, 1) := by decide +kernel
theorem dX10_init_117 : decode cX10_init 117 = .ok (.iload_n 2, 1) := by decide +kernel
theorem dX10_init_118 : decode cX10_init 118 = .ok (.bipush 6, 2) := by decide +kernel
theorem dX10_init_120 : decode cX10_init 120 = .ok (.if_icmp .ge 22, 3) := by decide +kernel
theorem dX10_init_123 : decode cX10_init 123 = .ok (.aload_n 0, 1) := by decide +kernel
theorem dX10_init_124 : decode cX10_init 124 = .ok (.getfield 46, 3) := by decide +kernel
theorem dX10_init_127 : decode cX10_init 127 = .ok (.iload_n 2, 1) := by decide +kernel
theorem dX10_init_128 : decode cX10_init 128 = .ok (.new 44, 3) := by decide +kernel
theorem dX10_init_131 : decode cX10_init 131 = .ok (.dup, 1) := by decide +kernel
theorem dX10_init_132 : decode cX10_init 132 = .ok (.invokespecial 50, 3) := by decide +kernel
theorem dX10_init_135 : decode cX10_init 135 = .ok (.aastore, 1) := by decide +kernel
theorem dX10_init_136 : decode cX10_init 136 = .ok (.iinc 2 1, 3) := by decide +kernel
theorem dX10_init_139 : decode cX10_init 139 = .ok (.goto (-22), 3) := by decide +kernel
theorem dX10_init_142 : decode cX10_init 142 = .ok (.aload_n 0, 1) := by decide +kernel
theorem dX10_init_143 : decode cX10_init 143 = .ok (.new 51, 3) := by decide +kernel
theorem dX10_init_146 : decode cX10_init 146 = .ok (.dup, 1) := by decide +kernel
theorem dX10_init_147 : decode cX10_init 147 = .ok (.invokespecial 53, 3) := by decide +kernel
theorem dX10_init_150 : decode cX10_init 150 = .ok (.putfield 54, 3) := by decide +kernel
theorem dX10_init_153 : decode cX10_init 153 = .ok (.aload_n 0, 1) := by decide +kernel
theorem dX10_init_154 : decode cX10_init 154 = .ok (.new 58, 3) := by decide +kernel
theorem dX10_init_157 : decode cX10_init 157 = .ok (.dup, 1) := by decide +kernel
theorem dX10_init_158 : decode cX10_init 158 = .ok (.invokespecial 60, 3) := by decide +kernel
theorem dX10_init_161 : decode cX10_init 161 = .ok (.putfield 61, 3) := by decide +kernel
theorem dX10_init_164 : decode cX10_init 164 = .ok (.aload_n 0, 1) := by decide +kernel
theorem dX10_init_165 : decode cX10_init 165 = .ok (.new 65, 3) := by decide +kernel
theorem dX10_init_168 : decode cX10_init 168 = .ok (.dup, 1) := by decide +kernel
theorem dX10_init_169 : decode cX10_init 169 = .ok (.invokespecial 67, 3) := by decide +kernel
theorem dX10_init_172 : decode cX10_init 172 = .ok (.putfield 68, 3) := by decide +kernel
theorem dX10_init_175 : decode cX10_init 175 = .ok (.aload_n 0, 1) := by decide +kernel
theorem dX10_init_176 : decode cX10_init 176 = .ok (.new 72, 3) := by decide +kernel
theorem dX10_init_179 : decode cX10_init 179 = .ok (.dup, 1) := by decide +kernel
theorem dX10_init_180 : decode cX10_init 180 = .ok (.invokespecial 74, 3) := by decide +kernel
theorem dX10_init_183 : decode cX10_init 183 = .ok (.putfield 75, 3) := by decide +kernel
theorem dX10_init_186 : decode cX10_init 186 = .ok (.aload_n 0, 1) := by decide +kernel
theorem dX10_init_187 : decode cX10_init 187 = .ok (.new 21, 3) := by decide +kernel
theorem dX10_init_190 : decode cX10_init 190 = .ok (.dup, 1) := by decide +kernel
theorem dX10_init_191 : decode cX10_init 191 = .ok (.aload_n 0, 1) := by decide +kernel
theorem dX10_init_192 : decode cX10_init 192 = .ok (.getfield 18, 3) := by decide +kernel
theorem dX10_init_195 : decode cX10_init 195 = .ok (.invokespecial 79, 3) := by decide +kernel
theorem dX10_init_198 : decode cX10_init 198 = .ok (.putfield 82, 3) := by decide +kernel
theorem dX10_init_201 : decode cX10_init 201 = .ok (.aload_n 0, 1) := by decide +kernel
theorem dX10_init_202 : decode cX10_init 202 = .ok (.new 21, 3) := by decide +kernel
theorem dX10_init_205 : decode cX10_init 205 = .ok (.dup, 1) := by decide +kernel
theorem dX10_init_206 : decode cX10_init 206 = .ok (.aload_n 0, 1) := by decide +kernel
theorem dX10_init_207 : decode cX10_init 207 = .ok (.getfield 18, 3) := by decide +kernel
theorem dX10_init_210 : decode cX10_init 210 = .ok (.invokespecial 79, 3) := by decide +kernel
theorem dX10_init_213 : decode cX10_init 213 = .ok (.putfield 86, 3) := by decide +kernel
theorem dX10_init_216 : decode cX10_init 216 = .ok (.aload_n 0, 1) := by decide +kernel
theorem dX10_init_217 : decode cX10_init 217 = .ok (.iconst 0, 1) := by decide +kernel
theorem dX10_init_218 : decode cX10_init 218 = .ok (.putfield 89, 3) := by decide +kernel
theorem dX10_init_221 : decode cX10_init 221 = .ok (.aload_n 0, 1) := by decide +kernel
theorem dX10_init_222 : decode cX10_init 222 = .ok (.iconst 0, 1) := by decide +kernel
theorem dX10_init_223 : decode cX10_init 223 = .ok (.putfield 93, 3) := by decide +kernel
theorem dX10_init_226 : decode cX10_init 226 = .ok (.aload_n 0, 1) := by decide +kernel
theorem dX10_init_227 : decode cX10_init 227 = .ok (.iconst 0, 1) := by decide +kernel
theorem dX10_init_228 : decode cX10_init 228 = .ok (.putfield 96, 3) := by decide +kernel
theorem dX10_init_231 : decode cX10_init 231 = .ok (.aload_n 0, 1) := by decide +kernel
theorem dX10_init_232 : decode cX10_init 232 = .ok (.iconst (-1), 1) := by decide +kernel
theorem dX10_init_233 : decode cX10_init 233 = .ok (.putfield 99, 3) := by decide +kernel
theorem dX10_init_236 : decode cX10_init 236 = .ok (.return_, 1) := by decide +kernel
theorem dX10_feed_0 : decode cX10_feed 0 = .ok (.aload_n 0, 1) := by decide +kernel
theorem dX10_feed_1 : decode cX10_feed 1 = .ok (.getfield 10, 3) := by decide +kernel
theorem dX10_feed_4 : decode cX10_feed 4 = .ok (.getfield 102, 3) := by decide +kernel
theorem dX10_feed_7 : decode cX10_feed 7 = .ok (.bipush 20, 2) := by decide +kernel
theorem dX10_feed_9 : decode cX10_feed 9 = .ok (.iadd, 1) := by decide +kernel
theorem dX10_feed_10 : decode cX10_feed 10 = .ok (.sipush 1400, 3) := by decide +kernel
theorem dX10_feed_13 : decode cX10_feed 13 = .ok (.if_icmp .le 5, 3) := by decide +kernel
theorem dX10_feed_16 : decode cX10_feed 16 = .ok (.iconst (-1), 1) := by decide +kernel
theorem dX10_feed_17 : decode cX10_feed 17 = .ok (.ireturn, 1) := by decide +kernel
theorem dX10_feed_18 : decode cX10_feed 18 = .ok (.aload_n 0, 1) := by decide +kernel
theorem dX10_feed_19 : decode cX10_feed 19 = .ok (.getfield 10, 3) := by decide +kernel
theorem dX10_feed_22 : decode cX10_feed 22 = .ok (.iload_n 1, 1) := by decide +kernel
theorem dX10_feed_23 : decode cX10_feed 23 = .ok (.invokevirtual 105, 3) := by decide +kernel
theorem dX10_feed_26 : decode cX10_feed 26 = .ok (.aload_n 0, 1) := by decide +kernel
theorem dX10_feed_27 : decode cX10_feed 27 = .ok (.getfield 10, 3) := by decide +kernel
theorem dX10_feed_30 : decode cX10_feed 30 = .ok (.iload_n 2, 1) := by decide +kernel
theorem dX10_feed_31 : decode cX10_feed 31 = .ok (.invokevirtual 105, 3) := by decide +kernel
theorem dX10_feed_34 : decode cX10_feed 34 = .ok (.aload_n 0, 1) := by decide +kernel
theorem dX10_feed_35 : decode cX10_feed 35 = .ok (.getfield 10, 3) := by decide +kernel
theorem dX10_feed_38 : decode cX10_feed 38 = .ok (.iload_n 3, 1) := by decide +kernel
theorem dX10_feed_39 : decode cX10_feed 39 = .ok (.invokevirtual 105, 3) := by decide +kernel
theorem dX10_feed_42 : decode cX10_feed 42 = .ok (.aload_n 0, 1) := by decide +kernel
theorem dX10_feed_43 : decode cX10_feed 43 = .ok (.getfield 10, 3) := by decide +kernel
theorem dX10_feed_46 : decode cX10_feed 46 = .ok (.iload 4, 2) := by decide +kernel
theorem dX10_feed_48 : decode cX10_feed 48 = .ok (.invokevirtual 105, 3) := by decide +kernel
theorem dX10_feed_51 : decode cX10_feed 51 = .ok (.aload_n 0, 1) := by decide +kernel
theorem dX10_feed_52 : decode cX10_feed 52 = .ok (.getfield 10, 3) := by decide +kernel
theorem dX10_feed_55 : decode cX10_feed 55 = .ok (.iload 5, 2) := by decide +kernel
theorem dX10_feed_57 : decode cX10_feed 57 = .ok (.invokevirtual 105, 3) := by decide +kernel
theorem dX10_feed_60 : decode cX10_feed 60 = .ok (.aload_n 0, 1) := by decide +kernel
theorem dX10_feed_61 : decode cX10_feed 61 = .ok (.getfield 10, 3) := by decide +kernel
theorem dX10_feed_64 : decode cX10_feed 64 = .ok (.getfield 102, 3) := by decide +kernel
theorem dX10_feed_67 : decode cX10_feed 67 = .ok (.ireturn, 1) := by decide +kernel
theorem dX10_end_0 : decode cX10_end 0 = .ok (.iload_n 1, 1) := by decide +kernel
theorem dX10_end_1 : decode cX10_end 1 = .ok (.ifCond .lt 14, 3) := by decide +kernel
theorem dX10_end_4 : decode cX10_end 4 = .ok (.iload_n 1, 1) := by decide +kernel
theorem dX10_end_5 : decode cX10_end 5 = .ok (.aload_n 0, 1) := by decide +kernel
theorem dX10_end_6 : decode cX10_end 6 = .ok (.getfield 10, 3) := by decide +kernel
theorem dX10_end_9 : decode cX10_end 9 = .ok (.getfield 102, 3) := by decide +kernel
theorem dX10_end_12 : decode cX10_end 12 = .ok (.if_icmp .le 5, 3) := by decide +kernel
theorem dX10_end_15 : decode cX10_end 15 = .ok (.iconst (-1), 1) := by decide +kernel
theorem dX10_end_16 : decode cX10_end 16 = .ok (.ireturn, 1) := by decide +kernel
theorem dX10_end_17 : decode cX10_end 17 = .ok (.aload_n 0, 1) := by decide +kernel
theorem dX10_end_18 : decode cX10_end 18 = .ok (.getfield 10, 3) := by decide +kernel
theorem dX10_end_21 : decode cX10_end 21 = .ok (.iload_n 1, 1) := by decide +kernel
theorem dX10_end_22 : decode cX10_end 22 = .ok (.putfield 102, 3) := by decide +kernel
theorem dX10_end_25 : decode cX10_end 25 = .ok (.iload_n 1, 1) := by decide +kernel
theorem dX10_end_26 : decode cX10_end 26 = .ok (.ireturn, 1) := by decide +kernel
theorem dX10_works_0 : decode cX10_works 0 = .ok (.aload_n 0, 1) := by decide +kernel
theorem dX10_works_1 : decode cX10_works 1 = .ok (.getfield 33, 3) := by decide +kernel
theorem dX10_works_4 : decode cX10_works 4 = .ok (.aload_n 0, 1) := by decide +kernel
theorem dX10_works_5 : decode cX10_works 5 = .ok (.getfield 86, 3) := by decide +kernel
theorem dX10_works_8 : decode cX10_works 8 = .ok (.invokevirtual 109, 3) := by decide +kernel
theorem dX10_works_11 : decode cX10_works 11 = .ok (.istore_n 1, 1) := by decide +kernel
theorem dX10_works_12 : decode cX10_works 12 = .ok (.aload_n 0, 1) := by decide +kernel
theorem dX10_works_13 : decode cX10_works 13 = .ok (.aload_n 0, 1) := by decide +kernel
theorem dX10_works_14 : decode cX10_works 14 = .ok (.getfield 33, 3) := by decide +kernel
theorem dX10_works_17 : decode cX10_works 17 = .ok (.getfield 113, 3) := by decide +kernel
theorem dX10_works_20 : decode cX10_works 20 = .ok (.putfield 96, 3) := by decide +kernel
theorem dX10_works_23 : decode cX10_works 23 = .ok (.aload_n 0, 1) := by decide +kernel
theorem dX10_works_24 : decode cX10_works 24 = .ok (.aload_n 0, 1) := by decide +kernel
theorem dX10_works_25 : decode cX10_works 25 = .ok (.getfield 33, 3) := by decide +kernel
theorem dX10_works_28 : decode cX10_works 28 = .ok (.getfield 116, 3) := by decide +kernel
theorem dX10_works_31 : decode cX10_works 31 = .ok (.putfield 99, 3) := by decide +kernel
theorem dX10_works_34 : decode cX10_works 34 = .ok (.iload_n 1, 1) := by decide +kernel
theorem dX10_works_35 : decode cX10_works 35 = .ok (.ifCond .ne 5, 3) := by decide +kernel
theorem dX10_works_38 : decode cX10_works 38 = .ok (.iconst (-1), 1) := by decide +kernel
theorem dX10_works_39 : decode cX10_works 39 = .ok (.ireturn, 1) := by decide +kernel
theorem dX10_works_40 : decode cX10_works 40 = .ok (.aload_n 0, 1) := by decide +kernel
theorem dX10_works_41 : decode cX10_works 41 = .ok (.getfield 82, 3) := by decide +kernel
theorem dX10_works_44 : decode cX10_works 44 = .ok (.astore_n 2, 1) := by decide +kernel
theorem dX10_works_45 : decode cX10_works 45 = .ok (.aload_n 0, 1) := by decide +kernel
theorem dX10_works_46 : decode cX10_works 46 = .ok (.aload_n 0, 1) := by decide +kernel
theorem dX10_works_47 : decode cX10_works 47 = .ok (.getfield 86, 3) := by decide +kernel
theorem dX10_works_50 : decode cX10_works 50 = .ok (.putfield 82, 3) := by decide +kernel
theorem dX10_works_53 : decode cX10_works 53 = .ok (.aload_n 0, 1) := by decide +kernel
theorem dX10_works_54 : decode cX10_works 54 = .ok (.aload_n 2, 1) := by decide +kernel
theorem dX10_works_55 : decode cX10_works 55 = .ok (.putfield 86, 3) := by decide +kernel
theorem dX10_works_58 : decode cX10_works 58 = .ok (.aload_n 0, 1) := by decide +kernel
theorem dX10_works_59 : decode cX10_works 59 = .ok (.getfield 10, 3) := by decide +kernel
theorem dX10_works_62 : decode cX10_works 62 = .ok (.iconst 0, 1) := by decide +kernel
theorem dX10_works_63 : decode cX10_works 63 = .ok (.putfield 102, 3) := by decide +kernel
theorem dX10_works_66 : decode cX10_works 66 = .ok (.aload_n 0, 1) := by decide +kernel
theorem dX10_works_67 : decode cX10_works 67 = .ok (.getfield 54, 3) := by decide +kernel
theorem dX10_works_70 : decode cX10_works 70 = .ok (.iconst 0, 1) := by decide +kernel
theorem dX10_works_71 : decode cX10_works 71 = .ok (.putfield 119, 3) := by decide +kernel
theorem dX10_works_74 : decode cX10_works 74 = .ok (.aload_n 0, 1) := by decide +kernel
theorem dX10_works_75 : decode cX10_works 75 = .ok (.getfield 75, 3) := by decide +kernel
theorem dX10_works_78 : decode cX10_works 78 = .ok (.iconst 0, 1) := by decide +kernel
theorem dX10_works_79 : decode cX10_works 79 = .ok (.putfield 122, 3) := by decide +kernel
theorem dX10_works_82 : decode cX10_works 82 = .ok (.aload_n 0, 1) := by decide +kernel
theorem dX10_works_83 : decode cX10_works 83 = .ok (.getfield 82, 3) := by decide +kernel
theorem dX10_works_86 : decode cX10_works 86 = .ok (.getfield 125, 3) := by decide +kernel
theorem dX10_works_89 : decode cX10_works 89 = .ok (.ireturn, 1) := by decide +kernel
theorem dX10_rules_0 : decode cX10_rules 0 = .ok (.aload_n 0, 1) := by decide +kernel
theorem dX10_rules_1 : decode cX10_rules 1 = .ok (.getfield 10, 3) := by decide +kernel
theorem dX10_rules_4 : decode cX10_rules 4 = .ok (.getfield 102, 3) := by decide +kernel
theorem dX10_rules_7 : decode cX10_rules 7 = .ok (.sipush 600, 3) := by decide +kernel
theorem dX10_rules_10 : decode cX10_rules 10 = .ok (.if_icmp .gt 19, 3) := by decide +kernel
theorem dX10_rules_13 : decode cX10_rules 13 = .ok (.iload_n 1, 1) := by decide +kernel
theorem dX10_rules_14 : decode cX10_rules 14 = .ok (.invokestatic 128, 3) := by decide +kernel
theorem dX10_rules_17 : decode cX10_rules 17 = .ok (.ifCond .eq 12, 3) := by decide +kernel
theorem dX10_rules_20 : decode cX10_rules 20 = .ok (.aload_n 0, 1) := by decide +kernel
theorem dX10_rules_21 : decode cX10_rules 21 = .ok (.getfield 89, 3) := by decide +kernel
theorem dX10_rules_24 : decode cX10_rules 24 = .ok (.bipush 6, 2) := by decide +kernel
theorem dX10_rules_26 : decode cX10_rules 26 = .ok (.if_icmp .lt 6, 3) := by decide +kernel
theorem dX10_rules_29 : decode cX10_rules 29 = .ok (.bipush (-2), 2) := by decide +kernel
theorem dX10_rules_31 : decode cX10_rules 31 = .ok (.ireturn, 1) := by decide +kernel
theorem dX10_rules_32 : decode cX10_rules 32 = .ok (.aload_n 0, 1) := by decide +kernel
theorem dX10_rules_33 : decode cX10_rules 33 = .ok (.getfield 40, 3) := by decide +kernel
theorem dX10_rules_36 : decode cX10_rules 36 = .ok (.aload_n 0, 1) := by decide +kernel
theorem dX10_rules_37 : decode cX10_rules 37 = .ok (.getfield 46, 3) := by decide +kernel
theorem dX10_rules_40 : decode cX10_rules 40 = .ok (.aload_n 0, 1) := by decide +kernel
theorem dX10_rules_41 : decode cX10_rules 41 = .ok (.getfield 89, 3) := by decide +kernel
theorem dX10_rules_44 : decode cX10_rules 44 = .ok (.aaload, 1) := by decide +kernel
theorem dX10_rules_45 : decode cX10_rules 45 = .ok (.invokevirtual 132, 3) := by decide +kernel
theorem dX10_rules_48 : decode cX10_rules 48 = .ok (.istore_n 2, 1) := by decide +kernel
theorem dX10_rules_49 : decode cX10_rules 49 = .ok (.aload_n 0, 1) := by decide +kernel
theorem dX10_rules_50 : decode cX10_rules 50 = .ok (.aload_n 0, 1) := by decide +kernel
theorem dX10_rules_51 : decode cX10_rules 51 = .ok (.getfield 40, 3) := by decide +kernel
theorem dX10_rules_54 : decode cX10_rules 54 = .ok (.getfield 135, 3) := by decide +kernel
theorem dX10_rules_57 : decode cX10_rules 57 = .ok (.putfield 96, 3) := by decide +kernel
theorem dX10_rules_60 : decode cX10_rules 60 = .ok (.aload_n 0, 1) := by decide +kernel
theorem dX10_rules_61 : decode cX10_rules 61 = .ok (.aload_n 0, 1) := by decide +kernel
theorem dX10_rules_62 : decode cX10_rules 62 = .ok (.getfield 40, 3) := by decide +kernel
theorem dX10_rules_65 : decode cX10_rules 65 = .ok (.getfield 136, 3) := by decide +kernel
theorem dX10_rules_68 : decode cX10_rules 68 = .ok (.putfield 99, 3) := by decide +kernel
theorem dX10_rules_71 : decode cX10_rules 71 = .ok (.aload_n 0, 1) := by decide +kernel
theorem dX10_rules_72 : decode cX10_rules 72 = .ok (.getfield 10, 3) := by decide +kernel
theorem dX10_rules_75 : decode cX10_rules 75 = .ok (.iconst 0, 1) := by decide +kernel
theorem dX10_rules_76 : decode cX10_rules 76 = .ok (.putfield 102, 3) := by decide +kernel
theorem dX10_rules_79 : decode cX10_rules 79 = .ok (.iload_n 2, 1) := by decide +kernel
theorem dX10_rules_80 : decode cX10_rules 80 = .ok (.ifCond .ne 5, 3) := by decide +kernel
theorem dX10_rules_83 : decode cX10_rules 83 = .ok (.iconst (-1), 1) := by decide +kernel
theorem dX10_rules_84 : decode cX10_rules 84 = .ok (.ireturn, 1) := by decide +kernel
theorem dX10_rules_85 : decode cX10_rules 85 = .ok (.aload_n 0, 1) := by decide +kernel
theorem dX10_rules_86 : decode cX10_rules 86 = .ok (.getfield 46, 3) := by decide +kernel
theorem dX10_rules_89 : decode cX10_rules 89 = .ok (.aload_n 0, 1) := by decide +kernel
theorem dX10_rules_90 : decode cX10_rules 90 = .ok (.getfield 89, 3) := by decide +kernel
theorem dX10_rules_93 : decode cX10_rules 93 = .ok (.aaload, 1) := by decide +kernel
theorem dX10_rules_94 : decode cX10_rules 94 = .ok (.iload_n 1, 1) := by decide +kernel
theorem dX10_rules_95 : decode cX10_rules 95 = .ok (.putfield 137, 3) := by decide +kernel
theorem dX10_rules_98 : decode cX10_rules 98 = .ok (.aload_n 0, 1) := by decide +kernel
theorem dX10_rules_99 : decode cX10_rules 99 = .ok (.dup, 1) := by decide +kernel
theorem dX10_rules_100 : decode cX10_rules 100 = .ok (.getfield 89, 3) := by decide +kernel
theorem dX10_rules_103 : decode cX10_rules 103 = .ok (.iconst 1, 1) := by decide +kernel
theorem dX10_rules_104 : decode cX10_rules 104 = .ok (.iadd, 1) := by decide +kernel
theorem dX10_rules_105 : decode cX10_rules 105 = .ok (.putfield 89, 3) := by decide +kernel
theorem dX10_rules_108 : decode cX10_rules 108 = .ok (.aload_n 0, 1) := by decide +kernel
theorem dX10_rules_109 : decode cX10_rules 109 = .ok (.getfield 89, 3) := by decide +kernel
theorem dX10_rules_112 : decode cX10_rules 112 = .ok (.iconst 1, 1) := by decide +kernel
theorem dX10_rules_113 : decode cX10_rules 113 = .ok (.isub, 1) := by decide +kernel
theorem dX10_rules_114 : decode cX10_rules 114 = .ok (.ireturn, 1) := by decide +kernel
theorem dX10_fault_0 : decode cX10_fault 0 = .ok (.iload_n 1, 1) := by decide +kernel
theorem dX10_fault_1 : decode cX10_fault 1 = .ok (.lookupswitch 37 #[(0, 27), (1, 32)], 27) := by decide +kernel
theorem dX10_fault_28 : decode cX10_fault 28 = .ok (.aload_n 0, 1) := by decide +kernel
theorem dX10_fault_29 : decode cX10_fault 29 = .ok (.getfield 96, 3) := by decide +kernel
theorem dX10_fault_32 : decode cX10_fault 32 = .ok (.ireturn, 1) := by decide +kernel
theorem dX10_fault_33 : decode cX10_fault 33 = .ok (.aload_n 0, 1) := by decide +kernel
theorem dX10_fault_34 : decode cX10_fault 34 = .ok (.getfield 99, 3) := by decide +kernel
theorem dX10_fault_37 : decode cX10_fault 37 = .ok (.ireturn, 1) := by decide +kernel
theorem dX10_fault_38 : decode cX10_fault 38 = .ok (.iconst (-1), 1) := by decide +kernel
theorem dX10_fault_39 : decode cX10_fault 39 = .ok (.ireturn, 1) := by decide +kernel
theorem dX10_part_0 : decode cX10_part 0 = .ok (.aload_n 0, 1) := by decide +kernel
theorem dX10_part_1 : decode cX10_part 1 = .ok (.getfield 82, 3) := by decide +kernel
theorem dX10_part_4 : decode cX10_part 4 = .ok (.iload_n 1, 1) := by decide +kernel
theorem dX10_part_5 : decode cX10_part 5 = .ok (.invokevirtual 140, 3) := by decide +kernel
theorem dX10_part_8 : decode cX10_part 8 = .ok (.ifCond .ne 5, 3) := by decide +kernel
theorem dX10_part_11 : decode cX10_part 11 = .ok (.iconst (-1), 1) := by decide +kernel
theorem dX10_part_12 : decode cX10_part 12 = .ok (.ireturn, 1) := by decide +kernel
theorem dX10_part_13 : decode cX10_part 13 = .ok (.iload_n 2, 1) := by decide +kernel
theorem dX10_part_14 : decode cX10_part 14 = .ok (.tableswitch 92 0 4 #[34, 44, 54, 72, 82], 34) := by decide +kernel
theorem dX10_part_48 : decode cX10_part 48 = .ok (.aload_n 0, 1) := by decide +kernel
theorem dX10_part_49 : decode cX10_part 49 = .ok (.getfield 82, 3) := by decide +kernel
theorem dX10_part_52 : decode cX10_part 52 = .ok (.getfield 143, 3) := by decide +kernel
theorem dX10_part_55 : decode cX10_part 55 = .ok (.iload_n 1, 1) := by decide +kernel
theorem dX10_part_56 : decode cX10_part 56 = .ok (.iaload, 1) := by decide +kernel
theorem dX10_part_57 : decode cX10_part 57 = .ok (.ireturn, 1) := by decide +kernel
theorem dX10_part_58 : decode cX10_part 58 = .ok (.aload_n 0, 1) := by decide +kernel
theorem dX10_part_59 : decode cX10_part 59 = .ok (.getfield 82, 3) := by decide +kernel
theorem dX10_part_62 : decode cX10_part 62 = .ok (.getfield 147, 3) := by decide +kernel
theorem dX10_part_65 : decode cX10_part 65 = .ok (.iload_n 1, 1) := by decide +kernel
theorem dX10_part_66 : decode cX10_part 66 = .ok (.iaload, 1) := by decide +kernel
theorem dX10_part_67 : decode cX10_part 67 = .ok (.ireturn, 1) := by decide +kernel
theorem dX10_part_68 : decode cX10_part 68 = .ok (.aload_n 0, 1) := by decide +kernel
theorem dX10_part_69 : decode cX10_part 69 = .ok (.getfield 82, 3) := by decide +kernel
theorem dX10_part_72 : decode cX10_part 72 = .ok (.getfield 150, 3) := by decide +kernel
theorem dX10_part_75 : decode cX10_part 75 = .ok (.iload_n 1, 1) := by decide +kernel
theorem dX10_part_76 : decode cX10_part 76 = .ok (.baload, 1) := by decide +kernel
theorem dX10_part_77 : decode cX10_part 77 = .ok (.ifCond .eq 7, 3) := by decide +kernel
theorem dX10_part_80 : decode cX10_part 80 = .ok (.iconst 1, 1) := by decide +kernel
theorem dX10_part_81 : decode cX10_part 81 = .ok (.goto 4, 3) := by decide +kernel
theorem dX10_part_84 : decode cX10_part 84 = .ok (.iconst 0, 1) := by decide +kernel
theorem dX10_part_85 : decode cX10_part 85 = .ok (.ireturn, 1) := by decide +kernel
theorem dX10_part_86 : decode cX10_part 86 = .ok (.aload_n 0, 1) := by decide +kernel
theorem dX10_part_87 : decode cX10_part 87 = .ok (.getfield 82, 3) := by decide +kernel
theorem dX10_part_90 : decode cX10_part 90 = .ok (.getfield 154, 3) := by decide +kernel
theorem dX10_part_93 : decode cX10_part 93 = .ok (.iload_n 1, 1) := by decide +kernel
theorem dX10_part_94 : decode cX10_part 94 = .ok (.iaload, 1) := by decide +kernel
theorem dX10_part_95 : decode cX10_part 95 = .ok (.ireturn, 1) := by decide +kernel
theorem dX10_part_96 : decode cX10_part 96 = .ok (.aload_n 0, 1) := by decide +kernel
theorem dX10_part_97 : decode cX10_part 97 = .ok (.getfield 82, 3) := by decide +kernel
theorem dX10_part_100 : decode cX10_part 100 = .ok (.getfield 157, 3) := by decide +kernel
theorem dX10_part_103 : decode cX10_part 103 = .ok (.iload_n 1, 1) := by decide +kernel
theorem dX10_part_104 : decode cX10_part 104 = .ok (.iaload, 1) := by decide +kernel
theorem dX10_part_105 : decode cX10_part 105 = .ok (.ireturn, 1) := by decide +kernel
theorem dX10_part_106 : decode cX10_part 106 = .ok (.iconst (-1), 1) := by decide +kernel
theorem dX10_part_107 : decode cX10_part 107 = .ok (.ireturn, 1) := by decide +kernel
theorem dX10_reads_0 : decode cX10_reads 0 = .ok (.iload_n 1, 1) := by decide +kernel
theorem dX10_reads_1 : decode cX10_reads 1 = .ok (.invokestatic 160, 3) := by decide +kernel
theorem dX10_reads_4 : decode cX10_reads 4 = .ok (.ifCond .eq 20, 3) := by decide +kernel
theorem dX10_reads_7 : decode cX10_reads 7 = .ok (.iload_n 2, 1) := by decide +kernel
theorem dX10_reads_8 : decode cX10_reads 8 = .ok (.ifCond .lt 16, 3) := by decide +kernel
theorem dX10_reads_11 : decode cX10_reads 11 = .ok (.iload_n 2, 1) := by decide +kernel
theorem dX10_reads_12 : decode cX10_reads 12 = .ok (.bipush 8, 2) := by decide +kernel
theorem dX10_reads_14 : decode cX10_reads 14 = .ok (.if_icmp .ge 10, 3) := by decide +kernel
theorem dX10_reads_17 : decode cX10_reads 17 = .ok (.iload_n 3, 1) := by decide +kernel
theorem dX10_reads_18 : decode cX10_reads 18 = .ok (.invokestatic 163, 3) := by decide +kernel
theorem dX10_reads_21 : decode cX10_reads 21 = .ok (.ifCond .ne 5, 3) := by decide +kernel
theorem dX10_reads_24 : decode cX10_reads 24 = .ok (.iconst 0, 1) := by decide +kernel
theorem dX10_reads_25 : decode cX10_reads 25 = .ok (.ireturn, 1) := by decide +kernel
theorem dX10_reads_26 : decode cX10_reads 26 = .ok (.aload_n 0, 1) := by decide +kernel
theorem dX10_reads_27 : decode cX10_reads 27 = .ok (.getfield 18, 3) := by decide +kernel
theorem dX10_reads_30 : decode cX10_reads 30 = .ok (.iload_n 1, 1) := by decide +kernel
theorem dX10_reads_31 : decode cX10_reads 31 = .ok (.aaload, 1) := by decide +kernel
theorem dX10_reads_32 : decode cX10_reads 32 = .ok (.iload_n 2, 1) := by decide +kernel
theorem dX10_reads_33 : decode cX10_reads 33 = .ok (.iload_n 3, 1) := by decide +kernel
theorem dX10_reads_34 : decode cX10_reads 34 = .ok (.iastore, 1) := by decide +kernel
theorem dX10_reads_35 : decode cX10_reads 35 = .ok (.iconst 1, 1) := by decide +kernel
theorem dX10_reads_36 : decode cX10_reads 36 = .ok (.ireturn, 1) := by decide +kernel
theorem dX10_step_0 : decode cX10_step 0 = .ok (.aload_n 0, 1) := by decide +kernel
theorem dX10_step_1 : decode cX10_step 1 = .ok (.getfield 82, 3) := by decide +kernel
theorem dX10_step_4 : decode cX10_step 4 = .ok (.iload_n 1, 1) := by decide +kernel
theorem dX10_step_5 : decode cX10_step 5 = .ok (.invokevirtual 140, 3) := by decide +kernel
theorem dX10_step_8 : decode cX10_step 8 = .ok (.ifCond .eq 10, 3) := by decide +kernel
theorem dX10_step_11 : decode cX10_step 11 = .ok (.iload_n 3, 1) := by decide +kernel
theorem dX10_step_12 : decode cX10_step 12 = .ok (.invokestatic 160, 3) := by decide +kernel
theorem dX10_step_15 : decode cX10_step 15 = .ok (.ifCond .ne 5, 3) := by decide +kernel
theorem dX10_step_18 : decode cX10_step 18 = .ok (.iconst (-1), 1) := by decide +kernel
theorem dX10_step_19 : decode cX10_step 19 = .ok (.ireturn, 1) := by decide +kernel
theorem dX10_step_20 : decode cX10_step 20 = .ok (.aload_n 0, 1) := by decide +kernel
theorem dX10_step_21 : decode cX10_step 21 = .ok (.getfield 82, 3) := by decide +kernel
theorem dX10_step_24 : decode cX10_step 24 = .ok (.iload_n 1, 1) := by decide +kernel
theorem dX10_step_25 : decode cX10_step 25 = .ok (.iload_n 2, 1) := by decide +kernel
theorem dX10_step_26 : decode cX10_step 26 = .ok (.iload_n 3, 1) := by decide +kernel
theorem dX10_step_27 : decode cX10_step 27 = .ok (.invokevirtual 166, 3) := by decide +kernel
theorem dX10_step_30 : decode cX10_step 30 = .ok (.ireturn, 1) := by decide +kernel
theorem dX10_where_0 : decode cX10_where 0 = .ok (.aload_n 0, 1) := by decide +kernel
theorem dX10_where_1 : decode cX10_where 1 = .ok (.getfield 82, 3) := by decide +kernel
theorem dX10_where_4 : decode cX10_where 4 = .ok (.iload_n 1, 1) := by decide +kernel
theorem dX10_where_5 : decode cX10_where 5 = .ok (.invokevirtual 140, 3) := by decide +kernel
theorem dX10_where_8 : decode cX10_where 8 = .ok (.ifCond .eq 20, 3) := by decide +kernel
theorem dX10_where_11 : decode cX10_where 11 = .ok (.iload_n 3, 1) := by decide +kernel
theorem dX10_where_12 : decode cX10_where 12 = .ok (.invokestatic 160, 3) := by decide +kernel
theorem dX10_where_15 : decode cX10_where 15 = .ok (.ifCond .eq 13, 3) := by decide +kernel
theorem dX10_where_18 : decode cX10_where 18 = .ok (.iload_n 2, 1) := by decide +kernel
theorem dX10_where_19 : decode cX10_where 19 = .ok (.ifCond .lt 9, 3) := by decide +kernel
theorem dX10_where_22 : decode cX10_where 22 = .ok (.iload_n 2, 1) := by decide +kernel
theorem dX10_where_23 : decode cX10_where 23 = .ok (.bipush 32, 2) := by decide +kernel
theorem dX10_where_25 : decode cX10_where 25 = .ok (.if_icmp .le 5, 3) := by decide +kernel
theorem dX10_where_28 : decode cX10_where 28 = .ok (.iconst (-1), 1) := by decide +kernel
theorem dX10_where_29 : decode cX10_where 29 = .ok (.ireturn, 1) := by decide +kernel
theorem dX10_where_30 : decode cX10_where 30 = .ok (.aload_n 0, 1) := by decide +kernel
theorem dX10_where_31 : decode cX10_where 31 = .ok (.getfield 82, 3) := by decide +kernel
theorem dX10_where_34 : decode cX10_where 34 = .ok (.iload_n 1, 1) := by decide +kernel
theorem dX10_where_35 : decode cX10_where 35 = .ok (.iload_n 2, 1) := by decide +kernel
theorem dX10_where_36 : decode cX10_where 36 = .ok (.iload_n 3, 1) := by decide +kernel
theorem dX10_where_37 : decode cX10_where 37 = .ok (.invokevirtual 170, 3) := by decide +kernel
theorem dX10_where_40 : decode cX10_where 40 = .ok (.ireturn, 1) := by decide +kernel
theorem dX10_meet_0 : decode cX10_meet 0 = .ok (.aload_n 0, 1) := by decide +kernel
theorem dX10_meet_1 : decode cX10_meet 1 = .ok (.getfield 82, 3) := by decide +kernel
theorem dX10_meet_4 : decode cX10_meet 4 = .ok (.iload_n 1, 1) := by decide +kernel
theorem dX10_meet_5 : decode cX10_meet 5 = .ok (.invokevirtual 173, 3) := by decide +kernel
theorem dX10_meet_8 : decode cX10_meet 8 = .ok (.ifCond .eq 10, 3) := by decide +kernel
theorem dX10_meet_11 : decode cX10_meet 11 = .ok (.iload_n 2, 1) := by decide +kernel
theorem dX10_meet_12 : decode cX10_meet 12 = .ok (.invokestatic 160, 3) := by decide +kernel
theorem dX10_meet_15 : decode cX10_meet 15 = .ok (.ifCond .ne 5, 3) := by decide +kernel
theorem dX10_meet_18 : decode cX10_meet 18 = .ok (.iconst (-1), 1) := by decide +kernel
theorem dX10_meet_19 : decode cX10_meet 19 = .ok (.ireturn, 1) := by decide +kernel
theorem dX10_meet_20 : decode cX10_meet 20 = .ok (.aload_n 0, 1) := by decide +kernel
theorem dX10_meet_21 : decode cX10_meet 21 = .ok (.getfield 82, 3) := by decide +kernel
theorem dX10_meet_24 : decode cX10_meet 24 = .ok (.iload_n 1, 1) := by decide +kernel
theorem dX10_meet_25 : decode cX10_meet 25 = .ok (.iload_n 2, 1) := by decide +kernel
theorem dX10_meet_26 : decode cX10_meet 26 = .ok (.invokevirtual 176, 3) := by decide +kernel
theorem dX10_meet_29 : decode cX10_meet 29 = .ok (.ireturn, 1) := by decide +kernel
theorem dX10_breaks_0 : decode cX10_breaks 0 = .ok (.aload_n 0, 1) := by decide +kernel
theorem dX10_breaks_1 : decode cX10_breaks 1 = .ok (.getfield 82, 3) := by decide +kernel
theorem dX10_breaks_4 : decode cX10_breaks 4 = .ok (.iload_n 1, 1) := by decide +kernel
theorem dX10_breaks_5 : decode cX10_breaks 5 = .ok (.invokevirtual 173, 3) := by decide +kernel
theorem dX10_breaks_8 : decode cX10_breaks 8 = .ok (.ifCond .eq 25, 3) := by decide +kernel
theorem dX10_breaks_11 : decode cX10_breaks 11 = .ok (.iload_n 2, 1) := by decide +kernel
theorem dX10_breaks_12 : decode cX10_breaks 12 = .ok (.invokestatic 160, 3) := by decide +kernel
theorem dX10_breaks_15 : decode cX10_breaks 15 = .ok (.ifCond .eq 18, 3) := by decide +kernel
theorem dX10_breaks_18 : decode cX10_breaks 18 = .ok (.iload_n 3, 1) := by decide +kernel
theorem dX10_breaks_19 : decode cX10_breaks 19 = .ok (.invokestatic 180, 3) := by decide +kernel
theorem dX10_breaks_22 : decode cX10_breaks 22 = .ok (.ifCond .eq 11, 3) := by decide +kernel
theorem dX10_breaks_25 : decode cX10_breaks 25 = .ok (.iload 4, 2) := by decide +kernel
theorem dX10_breaks_27 : decode cX10_breaks 27 = .ok (.invokestatic 180, 3) := by decide +kernel
theorem dX10_breaks_30 : decode cX10_breaks 30 = .ok (.ifCond .ne 5, 3) := by decide +kernel
theorem dX10_breaks_33 : decode cX10_breaks 33 = .ok (.iconst (-1), 1) := by decide +kernel
theorem dX10_breaks_34 : decode cX10_breaks 34 = .ok (.ireturn, 1) := by decide +kernel
theorem dX10_breaks_35 : decode cX10_breaks 35 = .ok (.aload_n 0, 1) := by decide +kernel
theorem dX10_breaks_36 : decode cX10_breaks 36 = .ok (.getfield 82, 3) := by decide +kernel
theorem dX10_breaks_39 : decode cX10_breaks 39 = .ok (.iload_n 1, 1) := by decide +kernel
theorem dX10_breaks_40 : decode cX10_breaks 40 = .ok (.iload_n 2, 1) := by decide +kernel
theorem dX10_breaks_41 : decode cX10_breaks 41 = .ok (.iload_n 3, 1) := by decide +kernel
theorem dX10_breaks_42 : decode cX10_breaks 42 = .ok (.iload 4, 2) := by decide +kernel
theorem dX10_breaks_44 : decode cX10_breaks 44 = .ok (.invokevirtual 183, 3) := by decide +kernel
theorem dX10_breaks_47 : decode cX10_breaks 47 = .ok (.ireturn, 1) := by decide +kernel
theorem dX10_load_0 : decode cX10_load 0 = .ok (.aload_n 0, 1) := by decide +kernel
theorem dX10_load_1 : decode cX10_load 1 = .ok (.getfield 82, 3) := by decide +kernel
theorem dX10_load_4 : decode cX10_load 4 = .ok (.iload_n 1, 1) := by decide +kernel
theorem dX10_load_5 : decode cX10_load 5 = .ok (.invokevirtual 140, 3) := by decide +kernel
theorem dX10_load_8 : decode cX10_load 8 = .ok (.ifCond .eq 10, 3) := by decide +kernel
theorem dX10_load_11 : decode cX10_load 11 = .ok (.iload_n 2, 1) := by decide +kernel
theorem dX10_load_12 : decode cX10_load 12 = .ok (.invokestatic 160, 3) := by decide +kernel
theorem dX10_load_15 : decode cX10_load 15 = .ok (.ifCond .ne 5, 3) := by decide +kernel
theorem dX10_load_18 : decode cX10_load 18 = .ok (.iconst (-1), 1) := by decide +kernel
theorem dX10_load_19 : decode cX10_load 19 = .ok (.ireturn, 1) := by decide +kernel
theorem dX10_load_20 : decode cX10_load 20 = .ok (.aload_n 0, 1) := by decide +kernel
theorem dX10_load_21 : decode cX10_load 21 = .ok (.getfield 82, 3) := by decide +kernel
theorem dX10_load_24 : decode cX10_load 24 = .ok (.iload_n 1, 1) := by decide +kernel
theorem dX10_load_25 : decode cX10_load 25 = .ok (.iload_n 2, 1) := by decide +kernel
theorem dX10_load_26 : decode cX10_load 26 = .ok (.invokevirtual 187, 3) := by decide +kernel
theorem dX10_load_29 : decode cX10_load 29 = .ok (.ireturn, 1) := by decide +kernel
theorem dX10_like_0 : decode cX10_like 0 = .ok (.aload_n 0, 1) := by decide +kernel
theorem dX10_like_1 : decode cX10_like 1 = .ok (.getfield 82, 3) := by decide +kernel
theorem dX10_like_4 : decode cX10_like 4 = .ok (.iload_n 1, 1) := by decide +kernel
theorem dX10_like_5 : decode cX10_like 5 = .ok (.invokevirtual 140, 3) := by decide +kernel
theorem dX10_like_8 : decode cX10_like 8 = .ok (.ifCond .eq 21, 3) := by decide +kernel
theorem dX10_like_11 : decode cX10_like 11 = .ok (.aload_n 0, 1) := by decide +kernel
theorem dX10_like_12 : decode cX10_like 12 = .ok (.getfield 82, 3) := by decide +kernel
theorem dX10_like_15 : decode cX10_like 15 = .ok (.iload_n 2, 1) := by decide +kernel
theorem dX10_like_16 : decode cX10_like 16 = .ok (.invokevirtual 140, 3) := by decide +kernel
theorem dX10_like_19 : decode cX10_like 19 = .ok (.ifCond .eq 10, 3) := by decide +kernel
theorem dX10_like_22 : decode cX10_like 22 = .ok (.iload_n 3, 1) := by decide +kernel
theorem dX10_like_23 : decode cX10_like 23 = .ok (.invokestatic 160, 3) := by decide +kernel
theorem dX10_like_26 : decode cX10_like 26 = .ok (.ifCond .ne 5, 3) := by decide +kernel
theorem dX10_like_29 : decode cX10_like 29 = .ok (.iconst (-1), 1) := by decide +kernel
theorem dX10_like_30 : decode cX10_like 30 = .ok (.ireturn, 1) := by decide +kernel
theorem dX10_like_31 : decode cX10_like 31 = .ok (.aload_n 0, 1) := by decide +kernel
theorem dX10_like_32 : decode cX10_like 32 = .ok (.getfield 82, 3) := by decide +kernel
theorem dX10_like_35 : decode cX10_like 35 = .ok (.iload_n 1, 1) := by decide +kernel
theorem dX10_like_36 : decode cX10_like 36 = .ok (.iload_n 2, 1) := by decide +kernel
theorem dX10_like_37 : decode cX10_like 37 = .ok (.iload_n 3, 1) := by decide +kernel
theorem dX10_like_38 : decode cX10_like 38 = .ok (.invokevirtual 190, 3) := by decide +kernel
theorem dX10_like_41 : decode cX10_like 41 = .ok (.ireturn, 1) := by decide +kernel
theorem dX10_rival_0 : decode cX10_rival 0 = .ok (.aload_n 0, 1) := by decide +kernel
theorem dX10_rival_1 : decode cX10_rival 1 = .ok (.getfield 82, 3) := by decide +kernel
theorem dX10_rival_4 : decode cX10_rival 4 = .ok (.iload_n 1, 1) := by decide +kernel
theorem dX10_rival_5 : decode cX10_rival 5 = .ok (.invokevirtual 193, 3) := by decide +kernel
theorem dX10_rival_8 : decode cX10_rival 8 = .ok (.ifCond .ne 5, 3) := by decide +kernel
theorem dX10_rival_11 : decode cX10_rival 11 = .ok (.iconst (-1), 1) := by decide +kernel
theorem dX10_rival_12 : decode cX10_rival 12 = .ok (.ireturn, 1) := by decide +kernel
theorem dX10_rival_13 : decode cX10_rival 13 = .ok (.iconst 1, 1) := by decide +kernel
theorem dX10_rival_14 : decode cX10_rival 14 = .ok (.istore_n 2, 1) := by decide +kernel
theorem dX10_rival_15 : decode cX10_rival 15 = .ok (.iload_n 2, 1) := by decide +kernel
theorem dX10_rival_16 : decode cX10_rival 16 = .ok (.aload_n 0, 1) := by decide +kernel
theorem dX10_rival_17 : decode cX10_rival 17 = .ok (.getfield 82, 3) := by decide +kernel
theorem dX10_rival_20 : decode cX10_rival 20 = .ok (.getfield 147, 3) := by decide +kernel
theorem dX10_rival_23 : decode cX10_rival 23 = .ok (.iload_n 1, 1) := by decide +kernel
theorem dX10_rival_24 : decode cX10_rival 24 = .ok (.iaload, 1) := by decide +kernel
theorem dX10_rival_25 : decode cX10_rival 25 = .ok (.if_icmp .gt 34, 3) := by decide +kernel
theorem dX10_rival_28 : decode cX10_rival 28 = .ok (.aload_n 0, 1) := by decide +kernel
theorem dX10_rival_29 : decode cX10_rival 29 = .ok (.getfield 82, 3) := by decide +kernel
theorem dX10_rival_32 : decode cX10_rival 32 = .ok (.iload_n 1, 1) := by decide +kernel
theorem dX10_rival_33 : decode cX10_rival 33 = .ok (.iload_n 2, 1) := by decide +kernel
theorem dX10_rival_34 : decode cX10_rival 34 = .ok (.iconst 0, 1) := by decide +kernel
theorem dX10_rival_35 : decode cX10_rival 35 = .ok (.invokevirtual 166, 3) := by decide +kernel
theorem dX10_rival_38 : decode cX10_rival 38 = .ok (.aload_n 0, 1) := by decide +kernel
theorem dX10_rival_39 : decode cX10_rival 39 = .ok (.getfield 82, 3) := by decide +kernel
theorem dX10_rival_42 : decode cX10_rival 42 = .ok (.iload_n 1, 1) := by decide +kernel
theorem dX10_rival_43 : decode cX10_rival 43 = .ok (.iload_n 2, 1) := by decide +kernel
theorem dX10_rival_44 : decode cX10_rival 44 = .ok (.iconst 1, 1) := by decide +kernel
theorem dX10_rival_45 : decode cX10_rival 45 = .ok (.invokevirtual 166, 3) := by decide +kernel
theorem dX10_rival_48 : decode cX10_rival 48 = .ok (.if_icmp .eq 5, 3) := by decide +kernel
theorem dX10_rival_51 : decode cX10_rival 51 = .ok (.iload_n 2, 1) := by decide +kernel
theorem dX10_rival_52 : decode cX10_rival 52 = .ok (.ireturn, 1) := by decide +kernel
theorem dX10_rival_53 : decode cX10_rival 53 = .ok (.iinc 2 1, 3) := by decide +kernel
theorem dX10_rival_56 : decode cX10_rival 56 = .ok (.goto (-41), 3) := by decide +kernel
theorem dX10_rival_59 : decode cX10_rival 59 = .ok (.iconst (-1), 1) := by decide +kernel
theorem dX10_rival_60 : decode cX10_rival 60 = .ok (.ireturn, 1) := by decide +kernel
theorem dX10_body_0 : decode cX10_body 0 = .ok (.aload_n 0, 1) := by decide +kernel
theorem dX10_body_1 : decode cX10_body 1 = .ok (.getfield 93, 3) := by decide +kernel
theorem dX10_body_4 : decode cX10_body 4 = .ok (.bipush 10, 2) := by decide +kernel
theorem dX10_body_6 : decode cX10_body 6 = .ok (.if_icmp .lt 5, 3) := by decide +kernel
theorem dX10_body_9 : decode cX10_body 9 = .ok (.iconst (-1), 1) := by decide +kernel
theorem dX10_body_10 : decode cX10_body 10 = .ok (.ireturn, 1) := by decide +kernel
theorem dX10_body_11 : decode cX10_body 11 = .ok (.aload_n 0, 1) := by decide +kernel
theorem dX10_body_12 : decode cX10_body 12 = .ok (.dup, 1) := by decide +kernel
theorem dX10_body_13 : decode cX10_body 13 = .ok (.getfield 93, 3) := by decide +kernel
theorem dX10_body_16 : decode cX10_body 16 = .ok (.iconst 1, 1) := by decide +kernel
theorem dX10_body_17 : decode cX10_body 17 = .ok (.iadd, 1) := by decide +kernel
theorem dX10_body_18 : decode cX10_body 18 = .ok (.putfield 93, 3) := by decide +kernel
theorem dX10_body_21 : decode cX10_body 21 = .ok (.aload_n 0, 1) := by decide +kernel
theorem dX10_body_22 : decode cX10_body 22 = .ok (.getfield 93, 3) := by decide +kernel
theorem dX10_body_25 : decode cX10_body 25 = .ok (.iconst 1, 1) := by decide +kernel
theorem dX10_body_26 : decode cX10_body 26 = .ok (.isub, 1) := by decide +kernel
theorem dX10_body_27 : decode cX10_body 27 = .ok (.ireturn, 1) := by decide +kernel
theorem dX10_knows_0 : decode cX10_knows 0 = .ok (.aload_n 0, 1) := by decide +kernel
theorem dX10_knows_1 : decode cX10_knows 1 = .ok (.iload_n 1, 1) := by decide +kernel
theorem dX10_knows_2 : decode cX10_knows 2 = .ok (.invokevirtual 196, 3) := by decide +kernel
theorem dX10_knows_5 : decode cX10_knows 5 = .ok (.ifCond .eq 21, 3) := by decide +kernel
theorem dX10_knows_8 : decode cX10_knows 8 = .ok (.aload_n 0, 1) := by decide +kernel
theorem dX10_knows_9 : decode cX10_knows 9 = .ok (.getfield 82, 3) := by decide +kernel
theorem dX10_knows_12 : decode cX10_knows 12 = .ok (.iload_n 2, 1) := by decide +kernel
theorem dX10_knows_13 : decode cX10_knows 13 = .ok (.invokevirtual 140, 3) := by decide +kernel
theorem dX10_knows_16 : decode cX10_knows 16 = .ok (.ifCond .eq 10, 3) := by decide +kernel
theorem dX10_knows_19 : decode cX10_knows 19 = .ok (.iload_n 3, 1) := by decide +kernel
theorem dX10_knows_20 : decode cX10_knows 20 = .ok (.invokestatic 128, 3) := by decide +kernel
theorem dX10_knows_23 : decode cX10_knows 23 = .ok (.ifCond .ne 5, 3) := by decide +kernel
theorem dX10_knows_26 : decode cX10_knows 26 = .ok (.iconst (-1), 1) := by decide +kernel
theorem dX10_knows_27 : decode cX10_knows 27 = .ok (.ireturn, 1) := by decide +kernel
theorem dX10_knows_28 : decode cX10_knows 28 = .ok (.aload_n 0, 1) := by decide +kernel
theorem dX10_knows_29 : decode cX10_knows 29 = .ok (.getfield 54, 3) := by decide +kernel
theorem dX10_knows_32 : decode cX10_knows 32 = .ok (.iconst 0, 1) := by decide +kernel
theorem dX10_knows_33 : decode cX10_knows 33 = .ok (.iload_n 1, 1) := by decide +kernel
theorem dX10_knows_34 : decode cX10_knows 34 = .ok (.iload_n 2, 1) := by decide +kernel
theorem dX10_knows_35 : decode cX10_knows 35 = .ok (.iload_n 3, 1) := by decide +kernel
theorem dX10_knows_36 : decode cX10_knows 36 = .ok (.iload_n 3, 1) := by decide +kernel
theorem dX10_knows_37 : decode cX10_knows 37 = .ok (.invokevirtual 199, 3) := by decide +kernel
theorem dX10_knows_40 : decode cX10_knows 40 = .ok (.ireturn, 1) := by decide +kernel
theorem dX10_danced_0 : decode cX10_danced 0 = .ok (.aload_n 0, 1) := by decide +kernel
theorem dX10_danced_1 : decode cX10_danced 1 = .ok (.iload_n 1, 1) := by decide +kernel
theorem dX10_danced_2 : decode cX10_danced 2 = .ok (.invokevirtual 196, 3) := by decide +kernel
theorem dX10_danced_5 : decode cX10_danced 5 = .ok (.ifCond .eq 21, 3) := by decide +kernel
theorem dX10_danced_8 : decode cX10_danced 8 = .ok (.aload_n 0, 1) := by decide +kernel
theorem dX10_danced_9 : decode cX10_danced 9 = .ok (.getfield 82, 3) := by decide +kernel
theorem dX10_danced_12 : decode cX10_danced 12 = .ok (.iload_n 2, 1) := by decide +kernel
theorem dX10_danced_13 : decode cX10_danced 13 = .ok (.invokevirtual 140, 3) := by decide +kernel
theorem dX10_danced_16 : decode cX10_danced 16 = .ok (.ifCond .eq 10, 3) := by decide +kernel
theorem dX10_danced_19 : decode cX10_danced 19 = .ok (.iload_n 3, 1) := by decide +kernel
theorem dX10_danced_20 : decode cX10_danced 20 = .ok (.invokestatic 128, 3) := by decide +kernel
theorem dX10_danced_23 : decode cX10_danced 23 = .ok (.ifCond .ne 5, 3) := by decide +kernel
theorem dX10_danced_26 : decode cX10_danced 26 = .ok (.iconst (-1), 1) := by decide +kernel
theorem dX10_danced_27 : decode cX10_danced 27 = .ok (.ireturn, 1) := by decide +kernel
theorem dX10_danced_28 : decode cX10_danced 28 = .ok (.aload_n 0, 1) := by decide +kernel
theorem dX10_danced_29 : decode cX10_danced 29 = .ok (.getfield 54, 3) := by decide +kernel
theorem dX10_danced_32 : decode cX10_danced 32 = .ok (.iconst 1, 1) := by decide +kernel
theorem dX10_danced_33 : decode cX10_danced 33 = .ok (.iload_n 1, 1) := by decide +kernel
theorem dX10_danced_34 : decode cX10_danced 34 = .ok (.iload_n 2, 1) := by decide +kernel
theorem dX10_danced_35 : decode cX10_danced 35 = .ok (.iload_n 3, 1) := by decide +kernel
theorem dX10_danced_36 : decode cX10_danced 36 = .ok (.iload_n 3, 1) := by decide +kernel
theorem dX10_danced_37 : decode cX10_danced 37 = .ok (.invokevirtual 199, 3) := by decide +kernel
theorem dX10_danced_40 : decode cX10_danced 40 = .ok (.ireturn, 1) := by decide +kernel
theorem dX10_out_0 : decode cX10_out 0 = .ok (.aload_n 0, 1) := by decide +kernel
theorem dX10_out_1 : decode cX10_out 1 = .ok (.iload_n 1, 1) := by decide +kernel
theorem dX10_out_2 : decode cX10_out 2 = .ok (.invokevirtual 196, 3) := by decide +kernel
theorem dX10_out_5 : decode cX10_out 5 = .ok (.ifCond .eq 22, 3) := by decide +kernel
theorem dX10_out_8 : decode cX10_out 8 = .ok (.iload_n 2, 1) := by decide +kernel
theorem dX10_out_9 : decode cX10_out 9 = .ok (.invokestatic 128, 3) := by decide +kernel
theorem dX10_out_12 : decode cX10_out 12 = .ok (.ifCond .eq 15, 3) := by decide +kernel
theorem dX10_out_15 : decode cX10_out 15 = .ok (.iload_n 3, 1) := by decide +kernel
theorem dX10_out_16 : decode cX10_out 16 = .ok (.invokestatic 128, 3) := by decide +kernel
theorem dX10_out_19 : decode cX10_out 19 = .ok (.ifCond .eq 8, 3) := by decide +kernel
theorem dX10_out_22 : decode cX10_out 22 = .ok (.iload_n 3, 1) := by decide +kernel
theorem dX10_out_23 : decode cX10_out 23 = .ok (.iload_n 2, 1) := by decide +kernel
theorem dX10_out_24 : decode cX10_out 24 = .ok (.if_icmp .ge 5, 3) := by decide +kernel
theorem dX10_out_27 : decode cX10_out 27 = .ok (.iconst (-1), 1) := by decide +kernel
theorem dX10_out_28 : decode cX10_out 28 = .ok (.ireturn, 1) := by decide +kernel
theorem dX10_out_29 : decode cX10_out 29 = .ok (.aload_n 0, 1) := by decide +kernel
theorem dX10_out_30 : decode cX10_out 30 = .ok (.getfield 54, 3) := by decide +kernel
theorem dX10_out_33 : decode cX10_out 33 = .ok (.iconst 2, 1) := by decide +kernel
theorem dX10_out_34 : decode cX10_out 34 = .ok (.iload_n 1, 1) := by decide +kernel
theorem dX10_out_35 : decode cX10_out 35 = .ok (.iconst 0, 1) := by decide +kernel
theorem dX10_out_36 : decode cX10_out 36 = .ok (.iload_n 2, 1) := by decide +kernel
theorem dX10_out_37 : decode cX10_out 37 = .ok (.iload_n 3, 1) := by decide +kernel
theorem dX10_out_38 : decode cX10_out 38 = .ok (.invokevirtual 199, 3) := by decide +kernel
theorem dX10_out_41 : decode cX10_out 41 = .ok (.ireturn, 1) := by decide +kernel
theorem dX10_leaves_0 : decode cX10_leaves 0 = .ok (.aload_n 0, 1) := by decide +kernel
theorem dX10_leaves_1 : decode cX10_leaves 1 = .ok (.iload_n 1, 1) := by decide +kernel
theorem dX10_leaves_2 : decode cX10_leaves 2 = .ok (.invokevirtual 196, 3) := by decide +kernel
theorem dX10_leaves_5 : decode cX10_leaves 5 = .ok (.ifCond .eq 10, 3) := by decide +kernel
theorem dX10_leaves_8 : decode cX10_leaves 8 = .ok (.iload_n 2, 1) := by decide +kernel
theorem dX10_leaves_9 : decode cX10_leaves 9 = .ok (.invokestatic 128, 3) := by decide +kernel
theorem dX10_leaves_12 : decode cX10_leaves 12 = .ok (.ifCond .ne 5, 3) := by decide +kernel
theorem dX10_leaves_15 : decode cX10_leaves 15 = .ok (.iconst (-1), 1) := by decide +kernel
theorem dX10_leaves_16 : decode cX10_leaves 16 = .ok (.ireturn, 1) := by decide +kernel
theorem dX10_leaves_17 : decode cX10_leaves 17 = .ok (.aload_n 0, 1) := by decide +kernel
theorem dX10_leaves_18 : decode cX10_leaves 18 = .ok (.getfield 54, 3) := by decide +kernel
theorem dX10_leaves_21 : decode cX10_leaves 21 = .ok (.iconst 3, 1) := by decide +kernel
theorem dX10_leaves_22 : decode cX10_leaves 22 = .ok (.iload_n 1, 1) := by decide +kernel
theorem dX10_leaves_23 : decode cX10_leaves 23 = .ok (.iconst 0, 1) := by decide +kernel
theorem dX10_leaves_24 : decode cX10_leaves 24 = .ok (.iload_n 2, 1) := by decide +kernel
theorem dX10_leaves_25 : decode cX10_leaves 25 = .ok (.iload_n 2, 1) := by decide +kernel
theorem dX10_leaves_26 : decode cX10_leaves 26 = .ok (.invokevirtual 199, 3) := by decide +kernel
theorem dX10_leaves_29 : decode cX10_leaves 29 = .ok (.ireturn, 1) := by decide +kernel
theorem dX10_film_0 : decode cX10_film 0 = .ok (.aload_n 0, 1) := by decide +kernel
theorem dX10_film_1 : decode cX10_film 1 = .ok (.getfield 82, 3) := by decide +kernel
theorem dX10_film_4 : decode cX10_film 4 = .ok (.iload_n 1, 1) := by decide +kernel
theorem dX10_film_5 : decode cX10_film 5 = .ok (.invokevirtual 193, 3) := by decide +kernel
theorem dX10_film_8 : decode cX10_film 8 = .ok (.ifCond .eq 28, 3) := by decide +kernel
theorem dX10_film_11 : decode cX10_film 11 = .ok (.iload_n 2, 1) := by decide +kernel
theorem dX10_film_12 : decode cX10_film 12 = .ok (.iconst 1, 1) := by decide +kernel
theorem dX10_film_13 : decode cX10_film 13 = .ok (.if_icmp .lt 23, 3) := by decide +kernel
theorem dX10_film_16 : decode cX10_film 16 = .ok (.iload_n 2, 1) := by decide +kernel
theorem dX10_film_17 : decode cX10_film 17 = .ok (.aload_n 0, 1) := by decide +kernel
theorem dX10_film_18 : decode cX10_film 18 = .ok (.getfield 82, 3) := by decide +kernel
theorem dX10_film_21 : decode cX10_film 21 = .ok (.getfield 147, 3) := by decide +kernel
theorem dX10_film_24 : decode cX10_film 24 = .ok (.iload_n 1, 1) := by decide +kernel
theorem dX10_film_25 : decode cX10_film 25 = .ok (.iaload, 1) := by decide +kernel
theorem dX10_film_26 : decode cX10_film 26 = .ok (.if_icmp .gt 10, 3) := by decide +kernel
theorem dX10_film_29 : decode cX10_film 29 = .ok (.iload_n 3, 1) := by decide +kernel
theorem dX10_film_30 : decode cX10_film 30 = .ok (.invokestatic 163, 3) := by decide +kernel
theorem dX10_film_33 : decode cX10_film 33 = .ok (.ifCond .ne 5, 3) := by decide +kernel
theorem dX10_film_36 : decode cX10_film 36 = .ok (.iconst (-1), 1) := by decide +kernel
theorem dX10_film_37 : decode cX10_film 37 = .ok (.ireturn, 1) := by decide +kernel
theorem dX10_film_38 : decode cX10_film 38 = .ok (.aload_n 0, 1) := by decide +kernel
theorem dX10_film_39 : decode cX10_film 39 = .ok (.getfield 54, 3) := by decide +kernel
theorem dX10_film_42 : decode cX10_film 42 = .ok (.iconst 4, 1) := by decide +kernel
theorem dX10_film_43 : decode cX10_film 43 = .ok (.iconst 0, 1) := by decide +kernel
theorem dX10_film_44 : decode cX10_film 44 = .ok (.iload_n 1, 1) := by decide +kernel
theorem dX10_film_45 : decode cX10_film 45 = .ok (.iload_n 2, 1) := by decide +kernel
theorem dX10_film_46 : decode cX10_film 46 = .ok (.iload_n 3, 1) := by decide +kernel
theorem dX10_film_47 : decode cX10_film 47 = .ok (.invokevirtual 199, 3) := by decide +kernel
theorem dX10_film_50 : decode cX10_film 50 = .ok (.ireturn, 1) := by decide +kernel
theorem dX10_untell_0 : decode cX10_untell 0 = .ok (.aload_n 0, 1) := by decide +kernel
theorem dX10_untell_1 : decode cX10_untell 1 = .ok (.getfield 54, 3) := by decide +kernel
theorem dX10_untell_4 : decode cX10_untell 4 = .ok (.iload_n 1, 1) := by decide +kernel
theorem dX10_untell_5 : decode cX10_untell 5 = .ok (.invokevirtual 203, 3) := by decide +kernel
theorem dX10_untell_8 : decode cX10_untell 8 = .ok (.ireturn, 1) := by decide +kernel
theorem dX10_later_0 : decode cX10_later 0 = .ok (.iload_n 1, 1) := by decide +kernel
theorem dX10_later_1 : decode cX10_later 1 = .ok (.ifCond .lt 24, 3) := by decide +kernel
theorem dX10_later_4 : decode cX10_later 4 = .ok (.iload_n 1, 1) := by decide +kernel
theorem dX10_later_5 : decode cX10_later 5 = .ok (.sipush 1000, 3) := by decide +kernel
theorem dX10_later_8 : decode cX10_later 8 = .ok (.if_icmp .gt 17, 3) := by decide +kernel
theorem dX10_later_11 : decode cX10_later 11 = .ok (.aload_n 0, 1) := by decide +kernel
theorem dX10_later_12 : decode cX10_later 12 = .ok (.getfield 54, 3) := by decide +kernel
theorem dX10_later_15 : decode cX10_later 15 = .ok (.getfield 206, 3) := by decide +kernel
theorem dX10_later_18 : decode cX10_later 18 = .ok (.iload_n 1, 1) := by decide +kernel
theorem dX10_later_19 : decode cX10_later 19 = .ok (.iadd, 1) := by decide +kernel
theorem dX10_later_20 : decode cX10_later 20 = .ok (.ldc 209, 2) := by decide +kernel
theorem dX10_later_22 : decode cX10_later 22 = .ok (.if_icmp .le 5, 3) := by decide +kernel
theorem dX10_later_25 : decode cX10_later 25 = .ok (.iconst (-1), 1) := by decide +kernel
theorem dX10_later_26 : decode cX10_later 26 = .ok (.ireturn, 1) := by decide +kernel
theorem dX10_later_27 : decode cX10_later 27 = .ok (.aload_n 0, 1) := by decide +kernel
theorem dX10_later_28 : decode cX10_later 28 = .ok (.getfield 54, 3) := by decide +kernel
theorem dX10_later_31 : decode cX10_later 31 = .ok (.dup, 1) := by decide +kernel
theorem dX10_later_32 : decode cX10_later 32 = .ok (.getfield 206, 3) := by decide +kernel
theorem dX10_later_35 : decode cX10_later 35 = .ok (.iload_n 1, 1) := by decide +kernel
theorem dX10_later_36 : decode cX10_later 36 = .ok (.iadd, 1) := by decide +kernel
theorem dX10_later_37 : decode cX10_later 37 = .ok (.putfield 206, 3) := by decide +kernel
theorem dX10_later_40 : decode cX10_later 40 = .ok (.aload_n 0, 1) := by decide +kernel
theorem dX10_later_41 : decode cX10_later 41 = .ok (.getfield 54, 3) := by decide +kernel
theorem dX10_later_44 : decode cX10_later 44 = .ok (.getfield 206, 3) := by decide +kernel
theorem dX10_later_47 : decode cX10_later 47 = .ok (.ireturn, 1) := by decide +kernel
theorem dX10_borne_0 : decode cX10_borne 0 = .ok (.aload_n 0, 1) := by decide +kernel
theorem dX10_borne_1 : decode cX10_borne 1 = .ok (.getfield 82, 3) := by decide +kernel
theorem dX10_borne_4 : decode cX10_borne 4 = .ok (.iload_n 1, 1) := by decide +kernel
theorem dX10_borne_5 : decode cX10_borne 5 = .ok (.invokevirtual 193, 3) := by decide +kernel
theorem dX10_borne_8 : decode cX10_borne 8 = .ok (.ifCond .eq 10, 3) := by decide +kernel
theorem dX10_borne_11 : decode cX10_borne 11 = .ok (.iload_n 2, 1) := by decide +kernel
theorem dX10_borne_12 : decode cX10_borne 12 = .ok (.invokestatic 160, 3) := by decide +kernel
theorem dX10_borne_15 : decode cX10_borne 15 = .ok (.ifCond .ne 5, 3) := by decide +kernel
theorem dX10_borne_18 : decode cX10_borne 18 = .ok (.iconst (-1), 1) := by decide +kernel
theorem dX10_borne_19 : decode cX10_borne 19 = .ok (.ireturn, 1) := by decide +kernel
theorem dX10_borne_20 : decode cX10_borne 20 = .ok (.iconst 0, 1) := by decide +kernel
theorem dX10_borne_21 : decode cX10_borne 21 = .ok (.istore 4, 2) := by decide +kernel
theorem dX10_borne_23 : decode cX10_borne 23 = .ok (.iconst 0, 1) := by decide +kernel
theorem dX10_borne_24 : decode cX10_borne 24 = .ok (.istore 5, 2) := by decide +kernel
theorem dX10_borne_26 : decode cX10_borne 26 = .ok (.iload 5, 2) := by decide +kernel
theorem dX10_borne_28 : decode cX10_borne 28 = .ok (.aload_n 0, 1) := by decide +kernel
theorem dX10_borne_29 : decode cX10_borne 29 = .ok (.getfield 54, 3) := by decide +kernel
theorem dX10_borne_32 : decode cX10_borne 32 = .ok (.getfield 119, 3) := by decide +kernel
theorem dX10_borne_35 : decode cX10_borne 35 = .ok (.if_icmp .ge 85, 3) := by decide +kernel
theorem dX10_borne_38 : decode cX10_borne 38 = .ok (.aload_n 0, 1) := by decide +kernel
theorem dX10_borne_39 : decode cX10_borne 39 = .ok (.getfield 54, 3) := by decide +kernel
theorem dX10_borne_42 : decode cX10_borne 42 = .ok (.getfield 210, 3) := by decide +kernel
theorem dX10_borne_45 : decode cX10_borne 45 = .ok (.iload 5, 2) := by decide +kernel
theorem dX10_borne_47 : decode cX10_borne 47 = .ok (.iaload, 1) := by decide +kernel
theorem dX10_borne_48 : decode cX10_borne 48 = .ok (.iconst 4, 1) := by decide +kernel
theorem dX10_borne_49 : decode cX10_borne 49 = .ok (.if_icmp .ne 65, 3) := by decide +kernel
theorem dX10_borne_52 : decode cX10_borne 52 = .ok (.aload_n 0, 1) := by decide +kernel
theorem dX10_borne_53 : decode cX10_borne 53 = .ok (.getfield 54, 3) := by decide +kernel
theorem dX10_borne_56 : decode cX10_borne 56 = .ok (.getfield 213, 3) := by decide +kernel
theorem dX10_borne_59 : decode cX10_borne 59 = .ok (.iload 5, 2) := by decide +kernel
theorem dX10_borne_61 : decode cX10_borne 61 = .ok (.iaload, 1) := by decide +kernel
theorem dX10_borne_62 : decode cX10_borne 62 = .ok (.iload_n 1, 1) := by decide +kernel
theorem dX10_borne_63 : decode cX10_borne 63 = .ok (.if_icmp .ne 51, 3) := by decide +kernel
theorem dX10_borne_66 : decode cX10_borne 66 = .ok (.aload_n 0, 1) := by decide +kernel
theorem dX10_borne_67 : decode cX10_borne 67 = .ok (.getfield 54, 3) := by decide +kernel
theorem dX10_borne_70 : decode cX10_borne 70 = .ok (.iload 5, 2) := by decide +kernel
theorem dX10_borne_72 : decode cX10_borne 72 = .ok (.iload_n 3, 1) := by decide +kernel
theorem dX10_borne_73 : decode cX10_borne 73 = .ok (.invokevirtual 216, 3) := by decide +kernel
theorem dX10_borne_76 : decode cX10_borne 76 = .ok (.ifCond .eq 38, 3) := by decide +kernel
theorem dX10_borne_79 : decode cX10_borne 79 = .ok (.aload_n 0, 1) := by decide +kernel
theorem dX10_borne_80 : decode cX10_borne 80 = .ok (.getfield 82, 3) := by decide +kernel
theorem dX10_borne_83 : decode cX10_borne 83 = .ok (.iload_n 1, 1) := by decide +kernel
theorem dX10_borne_84 : decode cX10_borne 84 = .ok (.aload_n 0, 1) := by decide +kernel
theorem dX10_borne_85 : decode cX10_borne 85 = .ok (.getfield 54, 3) := by decide +kernel
theorem dX10_borne_88 : decode cX10_borne 88 = .ok (.getfield 219, 3) := by decide +kernel
theorem dX10_borne_91 : decode cX10_borne 91 = .ok (.iload 5, 2) := by decide +kernel
theorem dX10_borne_93 : decode cX10_borne 93 = .ok (.iaload, 1) := by decide +kernel
theorem dX10_borne_94 : decode cX10_borne 94 = .ok (.iload_n 2, 1) := by decide +kernel
theorem dX10_borne_95 : decode cX10_borne 95 = .ok (.invokevirtual 166, 3) := by decide +kernel
theorem dX10_borne_98 : decode cX10_borne 98 = .ok (.aload_n 0, 1) := by decide +kernel
theorem dX10_borne_99 : decode cX10_borne 99 = .ok (.getfield 54, 3) := by decide +kernel
theorem dX10_borne_102 : decode cX10_borne 102 = .ok (.getfield 222, 3) := by decide +kernel
theorem dX10_borne_105 : decode cX10_borne 105 = .ok (.iload 5, 2) := by decide +kernel
theorem dX10_borne_107 : decode cX10_borne 107 = .ok (.iaload, 1) := by decide +kernel
theorem dX10_borne_108 : decode cX10_borne 108 = .ok (.if_icmp .ne 6, 3) := by decide +kernel
theorem dX10_borne_111 : decode cX10_borne 111 = .ok (.iinc 4 1, 3) := by decide +kernel
theorem dX10_borne_114 : decode cX10_borne 114 = .ok (.iinc 5 1, 3) := by decide +kernel
theorem dX10_borne_117 : decode cX10_borne 117 = .ok (.goto (-91), 3) := by decide +kernel
theorem dX10_borne_120 : decode cX10_borne 120 = .ok (.iload 4, 2) := by decide +kernel
theorem dX10_borne_122 : decode cX10_borne 122 = .ok (.ireturn, 1) := by decide +kernel
theorem dX10_asked_0 : decode cX10_asked 0 = .ok (.aload_n 0, 1) := by decide +kernel
theorem dX10_asked_1 : decode cX10_asked 1 = .ok (.iload_n 1, 1) := by decide +kernel
theorem dX10_asked_2 : decode cX10_asked 2 = .ok (.invokevirtual 196, 3) := by decide +kernel
theorem dX10_asked_5 : decode cX10_asked 5 = .ok (.ifCond .eq 21, 3) := by decide +kernel
theorem dX10_asked_8 : decode cX10_asked 8 = .ok (.aload_n 0, 1) := by decide +kernel
theorem dX10_asked_9 : decode cX10_asked 9 = .ok (.getfield 82, 3) := by decide +kernel
theorem dX10_asked_12 : decode cX10_asked 12 = .ok (.iload_n 2, 1) := by decide +kernel
theorem dX10_asked_13 : decode cX10_asked 13 = .ok (.invokevirtual 140, 3) := by decide +kernel
theorem dX10_asked_16 : decode cX10_asked 16 = .ok (.ifCond .eq 10, 3) := by decide +kernel
theorem dX10_asked_19 : decode cX10_asked 19 = .ok (.iload_n 3, 1) := by decide +kernel
theorem dX10_asked_20 : decode cX10_asked 20 = .ok (.invokestatic 128, 3) := by decide +kernel
theorem dX10_asked_23 : decode cX10_asked 23 = .ok (.ifCond .ne 5, 3) := by decide +kernel
theorem dX10_asked_26 : decode cX10_asked 26 = .ok (.iconst (-1), 1) := by decide +kernel
theorem dX10_asked_27 : decode cX10_asked 27 = .ok (.ireturn, 1) := by decide +kernel
theorem dX10_asked_28 : decode cX10_asked 28 = .ok (.aload_n 0, 1) := by decide +kernel
theorem dX10_asked_29 : decode cX10_asked 29 = .ok (.iload_n 3, 1) := by decide +kernel
theorem dX10_asked_30 : decode cX10_asked 30 = .ok (.iload 5, 2) := by decide +kernel
theorem dX10_asked_32 : decode cX10_asked 32 = .ok (.invokevirtual 225, 3) := by decide +kernel
theorem dX10_asked_35 : decode cX10_asked 35 = .ok (.iload 4, 2) := by decide +kernel
theorem dX10_asked_37 : decode cX10_asked 37 = .ok (.tableswitch 70 0 3 #[31, 41, 51, 61], 31) := by decide +kernel
theorem dX10_asked_68 : decode cX10_asked 68 = .ok (.aload_n 0, 1) := by decide +kernel
theorem dX10_asked_69 : decode cX10_asked 69 = .ok (.getfield 61, 3) := by decide +kernel
theorem dX10_asked_72 : decode cX10_asked 72 = .ok (.iload_n 1, 1) := by decide +kernel
theorem dX10_asked_73 : decode cX10_asked 73 = .ok (.iload_n 2, 1) := by decide +kernel
theorem dX10_asked_74 : decode cX10_asked 74 = .ok (.invokevirtual 229, 3) := by decide +kernel
theorem dX10_asked_77 : decode cX10_asked 77 = .ok (.ireturn, 1) := by decide +kernel
theorem dX10_asked_78 : decode cX10_asked 78 = .ok (.aload_n 0, 1) := by decide +kernel
theorem dX10_asked_79 : decode cX10_asked 79 = .ok (.getfield 61, 3) := by decide +kernel
theorem dX10_asked_82 : decode cX10_asked 82 = .ok (.iload_n 1, 1) := by decide +kernel
theorem dX10_asked_83 : decode cX10_asked 83 = .ok (.iload_n 2, 1) := by decide +kernel
theorem dX10_asked_84 : decode cX10_asked 84 = .ok (.invokevirtual 232, 3) := by decide +kernel
theorem dX10_asked_87 : decode cX10_asked 87 = .ok (.ireturn, 1) := by decide +kernel
theorem dX10_asked_88 : decode cX10_asked 88 = .ok (.aload_n 0, 1) := by decide +kernel
theorem dX10_asked_89 : decode cX10_asked 89 = .ok (.getfield 61, 3) := by decide +kernel
theorem dX10_asked_92 : decode cX10_asked 92 = .ok (.getfield 235, 3) := by decide +kernel
theorem dX10_asked_95 : decode cX10_asked 95 = .ok (.iload_n 1, 1) := by decide +kernel
theorem dX10_asked_96 : decode cX10_asked 96 = .ok (.iaload, 1) := by decide +kernel
theorem dX10_asked_97 : decode cX10_asked 97 = .ok (.ireturn, 1) := by decide +kernel
theorem dX10_asked_98 : decode cX10_asked 98 = .ok (.aload_n 0, 1) := by decide +kernel
theorem dX10_asked_99 : decode cX10_asked 99 = .ok (.getfield 61, 3) := by decide +kernel
theorem dX10_asked_102 : decode cX10_asked 102 = .ok (.iload_n 1, 1) := by decide +kernel
theorem dX10_asked_103 : decode cX10_asked 103 = .ok (.invokevirtual 238, 3) := by decide +kernel
theorem dX10_asked_106 : decode cX10_asked 106 = .ok (.ireturn, 1) := by decide +kernel
theorem dX10_asked_107 : decode cX10_asked 107 = .ok (.iconst (-1), 1) := by decide +kernel
theorem dX10_asked_108 : decode cX10_asked 108 = .ok (.ireturn, 1) := by decide +kernel
theorem dX10_can_0 : decode cX10_can 0 = .ok (.aload_n 0, 1) := by decide +kernel
theorem dX10_can_1 : decode cX10_can 1 = .ok (.iload_n 1, 1) := by decide +kernel
theorem dX10_can_2 : decode cX10_can 2 = .ok (.invokevirtual 196, 3) := by decide +kernel
theorem dX10_can_5 : decode cX10_can 5 = .ok (.ifCond .eq 21, 3) := by decide +kernel
theorem dX10_can_8 : decode cX10_can 8 = .ok (.aload_n 0, 1) := by decide +kernel
theorem dX10_can_9 : decode cX10_can 9 = .ok (.getfield 82, 3) := by decide +kernel
theorem dX10_can_12 : decode cX10_can 12 = .ok (.iload_n 2, 1) := by decide +kernel
theorem dX10_can_13 : decode cX10_can 13 = .ok (.invokevirtual 140, 3) := by decide +kernel
theorem dX10_can_16 : decode cX10_can 16 = .ok (.ifCond .eq 10, 3) := by decide +kernel
theorem dX10_can_19 : decode cX10_can 19 = .ok (.iload_n 3, 1) := by decide +kernel
theorem dX10_can_20 : decode cX10_can 20 = .ok (.invokestatic 128, 3) := by decide +kernel
theorem dX10_can_23 : decode cX10_can 23 = .ok (.ifCond .ne 5, 3) := by decide +kernel
theorem dX10_can_26 : decode cX10_can 26 = .ok (.iconst (-1), 1) := by decide +kernel
theorem dX10_can_27 : decode cX10_can 27 = .ok (.ireturn, 1) := by decide +kernel
theorem dX10_can_28 : decode cX10_can 28 = .ok (.aload_n 0, 1) := by decide +kernel
theorem dX10_can_29 : decode cX10_can 29 = .ok (.iload_n 3, 1) := by decide +kernel
theorem dX10_can_30 : decode cX10_can 30 = .ok (.iload 4, 2) := by decide +kernel
theorem dX10_can_32 : decode cX10_can 32 = .ok (.invokevirtual 225, 3) := by decide +kernel
theorem dX10_can_35 : decode cX10_can 35 = .ok (.aload_n 0, 1) := by decide +kernel
theorem dX10_can_36 : decode cX10_can 36 = .ok (.getfield 61, 3) := by decide +kernel
theorem dX10_can_39 : decode cX10_can 39 = .ok (.iload_n 1, 1) := by decide +kernel
theorem dX10_can_40 : decode cX10_can 40 = .ok (.iload_n 2, 1) := by decide +kernel
theorem dX10_can_41 : decode cX10_can 41 = .ok (.invokevirtual 242, 3) := by decide +kernel
theorem dX10_can_44 : decode cX10_can 44 = .ok (.ifCond .eq 7, 3) := by decide +kernel
theorem dX10_can_47 : decode cX10_can 47 = .ok (.iconst 1, 1) := by decide +kernel
theorem dX10_can_48 : decode cX10_can 48 = .ok (.goto 4, 3) := by decide +kernel
theorem dX10_can_51 : decode cX10_can 51 = .ok (.iconst 0, 1) := by decide +kernel
theorem dX10_can_52 : decode cX10_can 52 = .ok (.ireturn, 1) := by decide +kernel
theorem dX10_cost_0 : decode cX10_cost 0 = .ok (.aload_n 0, 1) := by decide +kernel
theorem dX10_cost_1 : decode cX10_cost 1 = .ok (.getfield 82, 3) := by decide +kernel
theorem dX10_cost_4 : decode cX10_cost 4 = .ok (.iload_n 1, 1) := by decide +kernel
theorem dX10_cost_5 : decode cX10_cost 5 = .ok (.invokevirtual 173, 3) := by decide +kernel
theorem dX10_cost_8 : decode cX10_cost 8 = .ok (.ifCond .eq 20, 3) := by decide +kernel
theorem dX10_cost_11 : decode cX10_cost 11 = .ok (.iload_n 2, 1) := by decide +kernel
theorem dX10_cost_12 : decode cX10_cost 12 = .ok (.invokestatic 128, 3) := by decide +kernel
theorem dX10_cost_15 : decode cX10_cost 15 = .ok (.ifCond .eq 13, 3) := by decide +kernel
theorem dX10_cost_18 : decode cX10_cost 18 = .ok (.aload_n 0, 1) := by decide +kernel
theorem dX10_cost_19 : decode cX10_cost 19 = .ok (.iload_n 1, 1) := by decide +kernel
theorem dX10_cost_20 : decode cX10_cost 20 = .ok (.iload_n 2, 1) := by decide +kernel
theorem dX10_cost_21 : decode cX10_cost 21 = .ok (.iload_n 3, 1) := by decide +kernel
theorem dX10_cost_22 : decode cX10_cost 22 = .ok (.invokevirtual 245, 3) := by decide +kernel
theorem dX10_cost_25 : decode cX10_cost 25 = .ok (.ifCond .ne 7, 3) := by decide +kernel
theorem dX10_cost_28 : decode cX10_cost 28 = .ok (.ldc2_w 249, 3) := by decide +kernel
theorem dX10_cost_31 : decode cX10_cost 31 = .ok (.lreturn, 1) := by decide +kernel
theorem dX10_cost_32 : decode cX10_cost 32 = .ok (.aload_n 0, 1) := by decide +kernel
theorem dX10_cost_33 : decode cX10_cost 33 = .ok (.getfield 68, 3) := by decide +kernel
theorem dX10_cost_36 : decode cX10_cost 36 = .ok (.getfield 251, 3) := by decide +kernel
theorem dX10_cost_39 : decode cX10_cost 39 = .ok (.lreturn, 1) := by decide +kernel
theorem dX10_cast_0 : decode cX10_cast 0 = .ok (.aload_n 0, 1) := by decide +kernel
theorem dX10_cast_1 : decode cX10_cast 1 = .ok (.getfield 82, 3) := by decide +kernel
theorem dX10_cast_4 : decode cX10_cast 4 = .ok (.iload_n 1, 1) := by decide +kernel
theorem dX10_cast_5 : decode cX10_cast 5 = .ok (.invokevirtual 140, 3) := by decide +kernel
theorem dX10_cast_8 : decode cX10_cast 8 = .ok (.ifCond .eq 28, 3) := by decide +kernel
theorem dX10_cast_11 : decode cX10_cast 11 = .ok (.iload_n 2, 1) := by decide +kernel
theorem dX10_cast_12 : decode cX10_cast 12 = .ok (.invokestatic 128, 3) := by decide +kernel
theorem dX10_cast_15 : decode cX10_cast 15 = .ok (.ifCond .eq 21, 3) := by decide +kernel
theorem dX10_cast_18 : decode cX10_cast 18 = .ok (.aload_n 0, 1) := by decide +kernel
theorem dX10_cast_19 : decode cX10_cast 19 = .ok (.aload_n 0, 1) := by decide +kernel
theorem dX10_cast_20 : decode cX10_cast 20 = .ok (.getfield 82, 3) := by decide +kernel
theorem dX10_cast_23 : decode cX10_cast 23 = .ok (.getfield 143, 3) := by decide +kernel
theorem dX10_cast_26 : decode cX10_cast 26 = .ok (.iload_n 1, 1) := by decide +kernel
theorem dX10_cast_27 : decode cX10_cast 27 = .ok (.iaload, 1) := by decide +kernel
theorem dX10_cast_28 : decode cX10_cast 28 = .ok (.iload_n 2, 1) := by decide +kernel
theorem dX10_cast_29 : decode cX10_cast 29 = .ok (.iload_n 3, 1) := by decide +kernel
theorem dX10_cast_30 : decode cX10_cast 30 = .ok (.invokevirtual 245, 3) := by decide +kernel
theorem dX10_cast_33 : decode cX10_cast 33 = .ok (.ifCond .ne 5, 3) := by decide +kernel
theorem dX10_cast_36 : decode cX10_cast 36 = .ok (.iconst (-1), 1) := by decide +kernel
theorem dX10_cast_37 : decode cX10_cast 37 = .ok (.ireturn, 1) := by decide +kernel
theorem dX10_cast_38 : decode cX10_cast 38 = .ok (.aload_n 0, 1) := by decide +kernel
theorem dX10_cast_39 : decode cX10_cast 39 = .ok (.getfield 68, 3) := by decide +kernel
theorem dX10_cast_42 : decode cX10_cast 42 = .ok (.aload_n 0, 1) := by decide +kernel
theorem dX10_cast_43 : decode cX10_cast 43 = .ok (.getfield 82, 3) := by decide +kernel
theorem dX10_cast_46 : decode cX10_cast 46 = .ok (.iload_n 1, 1) := by decide +kernel
theorem dX10_cast_47 : decode cX10_cast 47 = .ok (.invokevirtual 255, 3) := by decide +kernel
theorem dX10_cast_50 : decode cX10_cast 50 = .ok (.invokevirtual 258, 3) := by decide +kernel
theorem dX10_cast_53 : decode cX10_cast 53 = .ok (.ireturn, 1) := by decide +kernel
theorem dX10_covers_0 : decode cX10_covers 0 = .ok (.aload_n 0, 1) := by decide +kernel
theorem dX10_covers_1 : decode cX10_covers 1 = .ok (.getfield 82, 3) := by decide +kernel
theorem dX10_covers_4 : decode cX10_covers 4 = .ok (.iload_n 1, 1) := by decide +kernel
theorem dX10_covers_5 : decode cX10_covers 5 = .ok (.invokevirtual 140, 3) := by decide +kernel
theorem dX10_covers_8 : decode cX10_covers 8 = .ok (.ifCond .eq 10, 3) := by decide +kernel
theorem dX10_covers_11 : decode cX10_covers 11 = .ok (.iload_n 2, 1) := by decide +kernel
theorem dX10_covers_12 : decode cX10_covers 12 = .ok (.invokestatic 128, 3) := by decide +kernel
theorem dX10_covers_15 : decode cX10_covers 15 = .ok (.ifCond .ne 5, 3) := by decide +kernel
theorem dX10_covers_18 : decode cX10_covers 18 = .ok (.iconst (-1), 1) := by decide +kernel
theorem dX10_covers_19 : decode cX10_covers 19 = .ok (.ireturn, 1) := by decide +kernel
theorem dX10_covers_20 : decode cX10_covers 20 = .ok (.aload_n 0, 1) := by decide +kernel
theorem dX10_covers_21 : decode cX10_covers 21 = .ok (.aload_n 0, 1) := by decide +kernel
theorem dX10_covers_22 : decode cX10_covers 22 = .ok (.getfield 82, 3) := by decide +kernel
theorem dX10_covers_25 : decode cX10_covers 25 = .ok (.getfield 143, 3) := by decide +kernel
theorem dX10_covers_28 : decode cX10_covers 28 = .ok (.iload_n 1, 1) := by decide +kernel
theorem dX10_covers_29 : decode cX10_covers 29 = .ok (.iaload, 1) := by decide +kernel
theorem dX10_covers_30 : decode cX10_covers 30 = .ok (.iload_n 2, 1) := by decide +kernel
theorem dX10_covers_31 : decode cX10_covers 31 = .ok (.iload_n 3, 1) := by decide +kernel
theorem dX10_covers_32 : decode cX10_covers 32 = .ok (.invokevirtual 245, 3) := by decide +kernel
theorem dX10_covers_35 : decode cX10_covers 35 = .ok (.pop, 1) := by decide +kernel
theorem dX10_covers_36 : decode cX10_covers 36 = .ok (.aload_n 0, 1) := by decide +kernel
theorem dX10_covers_37 : decode cX10_covers 37 = .ok (.getfield 82, 3) := by decide +kernel
theorem dX10_covers_40 : decode cX10_covers 40 = .ok (.iload_n 1, 1) := by decide +kernel
theorem dX10_covers_41 : decode cX10_covers 41 = .ok (.invokevirtual 255, 3) := by decide +kernel
theorem dX10_covers_44 : decode cX10_covers 44 = .ok (.istore 4, 2) := by decide +kernel
theorem dX10_covers_46 : decode cX10_covers 46 = .ok (.iconst 0, 1) := by decide +kernel
theorem dX10_covers_47 : decode cX10_covers 47 = .ok (.istore 5, 2) := by decide +kernel
theorem dX10_covers_49 : decode cX10_covers 49 = .ok (.iconst 0, 1) := by decide +kernel
theorem dX10_covers_50 : decode cX10_covers 50 = .ok (.istore 6, 2) := by decide +kernel
theorem dX10_covers_52 : decode cX10_covers 52 = .ok (.iload 6, 2) := by decide +kernel
theorem dX10_covers_54 : decode cX10_covers 54 = .ok (.aload_n 0, 1) := by decide +kernel
theorem dX10_covers_55 : decode cX10_covers 55 = .ok (.getfield 93, 3) := by decide +kernel
theorem dX10_covers_58 : decode cX10_covers 58 = .ok (.if_icmp .ge 41, 3) := by decide +kernel
theorem dX10_covers_61 : decode cX10_covers 61 = .ok (.aload_n 0, 1) := by decide +kernel
theorem dX10_covers_62 : decode cX10_covers 62 = .ok (.getfield 68, 3) := by decide +kernel
theorem dX10_covers_65 : decode cX10_covers 65 = .ok (.iload 4, 2) := by decide +kernel
theorem dX10_covers_67 : decode cX10_covers 67 = .ok (.iload 6, 2) := by decide +kernel
theorem dX10_covers_69 : decode cX10_covers 69 = .ok (.invokevirtual 261, 3) := by decide +kernel
theorem dX10_covers_72 : decode cX10_covers 72 = .ok (.ifCond .eq 21, 3) := by decide +kernel
theorem dX10_covers_75 : decode cX10_covers 75 = .ok (.aload_n 0, 1) := by decide +kernel
theorem dX10_covers_76 : decode cX10_covers 76 = .ok (.getfield 68, 3) := by decide +kernel
theorem dX10_covers_79 : decode cX10_covers 79 = .ok (.invokevirtual 264, 3) := by decide +kernel
theorem dX10_covers_82 : decode cX10_covers 82 = .ok (.iconst 1, 1) := by decide +kernel
theorem dX10_covers_83 : decode cX10_covers 83 = .ok (.iload 6, 2) := by decide +kernel
theorem dX10_covers_85 : decode cX10_covers 85 = .ok (.ishl, 1) := by decide +kernel
theorem dX10_covers_86 : decode cX10_covers 86 = .ok (.iand, 1) := by decide +kernel
theorem dX10_covers_87 : decode cX10_covers 87 = .ok (.ifCond .ne 6, 3) := by decide +kernel
theorem dX10_covers_90 : decode cX10_covers 90 = .ok (.iinc 5 1, 3) := by decide +kernel
theorem dX10_covers_93 : decode cX10_covers 93 = .ok (.iinc 6 1, 3) := by decide +kernel
theorem dX10_covers_96 : decode cX10_covers 96 = .ok (.goto (-44), 3) := by decide +kernel
theorem dX10_covers_99 : decode cX10_covers 99 = .ok (.iload 5, 2) := by decide +kernel
theorem dX10_covers_101 : decode cX10_covers 101 = .ok (.ireturn, 1) := by decide +kernel
theorem dX10_fall_0 : decode cX10_fall 0 = .ok (.aload_n 0, 1) := by decide +kernel
theorem dX10_fall_1 : decode cX10_fall 1 = .ok (.getfield 82, 3) := by decide +kernel
theorem dX10_fall_4 : decode cX10_fall 4 = .ok (.iload_n 1, 1) := by decide +kernel
theorem dX10_fall_5 : decode cX10_fall 5 = .ok (.invokevirtual 173, 3) := by decide +kernel
theorem dX10_fall_8 : decode cX10_fall 8 = .ok (.ifCond .eq 30, 3) := by decide +kernel
theorem dX10_fall_11 : decode cX10_fall 11 = .ok (.aload_n 0, 1) := by decide +kernel
theorem dX10_fall_12 : decode cX10_fall 12 = .ok (.iload_n 2, 1) := by decide +kernel
theorem dX10_fall_13 : decode cX10_fall 13 = .ok (.invokevirtual 196, 3) := by decide +kernel
theorem dX10_fall_16 : decode cX10_fall 16 = .ok (.ifCond .eq 22, 3) := by decide +kernel
theorem dX10_fall_19 : decode cX10_fall 19 = .ok (.iload_n 3, 1) := by decide +kernel
theorem dX10_fall_20 : decode cX10_fall 20 = .ok (.invokestatic 128, 3) := by decide +kernel
theorem dX10_fall_23 : decode cX10_fall 23 = .ok (.ifCond .eq 15, 3) := by decide +kernel
theorem dX10_fall_26 : decode cX10_fall 26 = .ok (.aload_n 0, 1) := by decide +kernel
theorem dX10_fall_27 : decode cX10_fall 27 = .ok (.iload_n 1, 1) := by decide +kernel
theorem dX10_fall_28 : decode cX10_fall 28 = .ok (.iload_n 2, 1) := by decide +kernel
theorem dX10_fall_29 : decode cX10_fall 29 = .ok (.iload_n 3, 1) := by decide +kernel
theorem dX10_fall_30 : decode cX10_fall 30 = .ok (.iload 4, 2) := by decide +kernel
theorem dX10_fall_32 : decode cX10_fall 32 = .ok (.invokevirtual 268, 3) := by decide +kernel
theorem dX10_fall_35 : decode cX10_fall 35 = .ok (.ifCond .ne 5, 3) := by decide +kernel
theorem dX10_fall_38 : decode cX10_fall 38 = .ok (.iconst (-1), 1) := by decide +kernel
theorem dX10_fall_39 : decode cX10_fall 39 = .ok (.ireturn, 1) := by decide +kernel
theorem dX10_fall_40 : decode cX10_fall 40 = .ok (.aload_n 0, 1) := by decide +kernel
theorem dX10_fall_41 : decode cX10_fall 41 = .ok (.getfield 68, 3) := by decide +kernel
theorem dX10_fall_44 : decode cX10_fall 44 = .ok (.invokevirtual 272, 3) := by decide +kernel
theorem dX10_fall_47 : decode cX10_fall 47 = .ok (.ireturn, 1) := by decide +kernel
theorem dX10_falls_0 : decode cX10_falls 0 = .ok (.aload_n 0, 1) := by decide +kernel
theorem dX10_falls_1 : decode cX10_falls 1 = .ok (.getfield 82, 3) := by decide +kernel
theorem dX10_falls_4 : decode cX10_falls 4 = .ok (.iload_n 1, 1) := by decide +kernel
theorem dX10_falls_5 : decode cX10_falls 5 = .ok (.invokevirtual 140, 3) := by decide +kernel
theorem dX10_falls_8 : decode cX10_falls 8 = .ok (.ifCond .eq 38, 3) := by decide +kernel
theorem dX10_falls_11 : decode cX10_falls 11 = .ok (.aload_n 0, 1) := by decide +kernel
theorem dX10_falls_12 : decode cX10_falls 12 = .ok (.iload_n 2, 1) := by decide +kernel
theorem dX10_falls_13 : decode cX10_falls 13 = .ok (.invokevirtual 196, 3) := by decide +kernel
theorem dX10_falls_16 : decode cX10_falls 16 = .ok (.ifCond .eq 30, 3) := by decide +kernel
theorem dX10_falls_19 : decode cX10_falls 19 = .ok (.iload_n 3, 1) := by decide +kernel
theorem dX10_falls_20 : decode cX10_falls 20 = .ok (.invokestatic 128, 3) := by decide +kernel
theorem dX10_falls_23 : decode cX10_falls 23 = .ok (.ifCond .eq 23, 3) := by decide +kernel
theorem dX10_falls_26 : decode cX10_falls 26 = .ok (.aload_n 0, 1) := by decide +kernel
theorem dX10_falls_27 : decode cX10_falls 27 = .ok (.aload_n 0, 1) := by decide +kernel
theorem dX10_falls_28 : decode cX10_falls 28 = .ok (.getfield 82, 3) := by decide +kernel
theorem dX10_falls_31 : decode cX10_falls 31 = .ok (.getfield 143, 3) := by decide +kernel
theorem dX10_falls_34 : decode cX10_falls 34 = .ok (.iload_n 1, 1) := by decide +kernel
theorem dX10_falls_35 : decode cX10_falls 35 = .ok (.iaload, 1) := by decide +kernel
theorem dX10_falls_36 : decode cX10_falls 36 = .ok (.iload_n 2, 1) := by decide +kernel
theorem dX10_falls_37 : decode cX10_falls 37 = .ok (.iload_n 3, 1) := by decide +kernel
theorem dX10_falls_38 : decode cX10_falls 38 = .ok (.iload 4, 2) := by decide +kernel
theorem dX10_falls_40 : decode cX10_falls 40 = .ok (.invokevirtual 268, 3) := by decide +kernel
theorem dX10_falls_43 : decode cX10_falls 43 = .ok (.ifCond .ne 5, 3) := by decide +kernel
theorem dX10_falls_46 : decode cX10_falls 46 = .ok (.iconst (-1), 1) := by decide +kernel
theorem dX10_falls_47 : decode cX10_falls 47 = .ok (.ireturn, 1) := by decide +kernel
theorem dX10_falls_48 : decode cX10_falls 48 = .ok (.aload_n 0, 1) := by decide +kernel
theorem dX10_falls_49 : decode cX10_falls 49 = .ok (.getfield 68, 3) := by decide +kernel
theorem dX10_falls_52 : decode cX10_falls 52 = .ok (.aload_n 0, 1) := by decide +kernel
theorem dX10_falls_53 : decode cX10_falls 53 = .ok (.getfield 82, 3) := by decide +kernel
theorem dX10_falls_56 : decode cX10_falls 56 = .ok (.iload_n 1, 1) := by decide +kernel
theorem dX10_falls_57 : decode cX10_falls 57 = .ok (.invokevirtual 255, 3) := by decide +kernel
theorem dX10_falls_60 : decode cX10_falls 60 = .ok (.invokevirtual 258, 3) := by decide +kernel
theorem dX10_falls_63 : decode cX10_falls 63 = .ok (.ireturn, 1) := by decide +kernel
theorem dX10_learn_0 : decode cX10_learn 0 = .ok (.aload_n 0, 1) := by decide +kernel
theorem dX10_learn_1 : decode cX10_learn 1 = .ok (.iload_n 1, 1) := by decide +kernel
theorem dX10_learn_2 : decode cX10_learn 2 = .ok (.invokevirtual 196, 3) := by decide +kernel
theorem dX10_learn_5 : decode cX10_learn 5 = .ok (.ifCond .eq 21, 3) := by decide +kernel
theorem dX10_learn_8 : decode cX10_learn 8 = .ok (.aload_n 0, 1) := by decide +kernel
theorem dX10_learn_9 : decode cX10_learn 9 = .ok (.getfield 82, 3) := by decide +kernel
theorem dX10_learn_12 : decode cX10_learn 12 = .ok (.iload_n 2, 1) := by decide +kernel
theorem dX10_learn_13 : decode cX10_learn 13 = .ok (.invokevirtual 140, 3) := by decide +kernel
theorem dX10_learn_16 : decode cX10_learn 16 = .ok (.ifCond .eq 10, 3) := by decide +kernel
theorem dX10_learn_19 : decode cX10_learn 19 = .ok (.iload_n 3, 1) := by decide +kernel
theorem dX10_learn_20 : decode cX10_learn 20 = .ok (.invokestatic 128, 3) := by decide +kernel
theorem dX10_learn_23 : decode cX10_learn 23 = .ok (.ifCond .ne 5, 3) := by decide +kernel
theorem dX10_learn_26 : decode cX10_learn 26 = .ok (.iconst (-1), 1) := by decide +kernel
theorem dX10_learn_27 : decode cX10_learn 27 = .ok (.ireturn, 1) := by decide +kernel
theorem dX10_learn_28 : decode cX10_learn 28 = .ok (.aload_n 0, 1) := by decide +kernel
theorem dX10_learn_29 : decode cX10_learn 29 = .ok (.iload_n 3, 1) := by decide +kernel
theorem dX10_learn_30 : decode cX10_learn 30 = .ok (.iload 4, 2) := by decide +kernel
theorem dX10_learn_32 : decode cX10_learn 32 = .ok (.invokevirtual 225, 3) := by decide +kernel
theorem dX10_learn_35 : decode cX10_learn 35 = .ok (.aload_n 0, 1) := by decide +kernel
theorem dX10_learn_36 : decode cX10_learn 36 = .ok (.getfield 61, 3) := by decide +kernel
theorem dX10_learn_39 : decode cX10_learn 39 = .ok (.iload_n 1, 1) := by decide +kernel
theorem dX10_learn_40 : decode cX10_learn 40 = .ok (.iload_n 2, 1) := by decide +kernel
theorem dX10_learn_41 : decode cX10_learn 41 = .ok (.invokevirtual 275, 3) := by decide +kernel
theorem dX10_learn_44 : decode cX10_learn 44 = .ok (.ifCond .eq 5, 3) := by decide +kernel
theorem dX10_learn_47 : decode cX10_learn 47 = .ok (.iconst 0, 1) := by decide +kernel
theorem dX10_learn_48 : decode cX10_learn 48 = .ok (.ireturn, 1) := by decide +kernel
theorem dX10_learn_49 : decode cX10_learn 49 = .ok (.aload_n 0, 1) := by decide +kernel
theorem dX10_learn_50 : decode cX10_learn 50 = .ok (.getfield 61, 3) := by decide +kernel
theorem dX10_learn_53 : decode cX10_learn 53 = .ok (.iload_n 1, 1) := by decide +kernel
theorem dX10_learn_54 : decode cX10_learn 54 = .ok (.iload_n 2, 1) := by decide +kernel
theorem dX10_learn_55 : decode cX10_learn 55 = .ok (.invokevirtual 278, 3) := by decide +kernel
theorem dX10_learn_58 : decode cX10_learn 58 = .ok (.ifCond .eq 15, 3) := by decide +kernel
theorem dX10_learn_61 : decode cX10_learn 61 = .ok (.aload_n 0, 1) := by decide +kernel
theorem dX10_learn_62 : decode cX10_learn 62 = .ok (.getfield 61, 3) := by decide +kernel
theorem dX10_learn_65 : decode cX10_learn 65 = .ok (.iload_n 1, 1) := by decide +kernel
theorem dX10_learn_66 : decode cX10_learn 66 = .ok (.iload_n 2, 1) := by decide +kernel
theorem dX10_learn_67 : decode cX10_learn 67 = .ok (.invokevirtual 281, 3) := by decide +kernel
theorem dX10_learn_70 : decode cX10_learn 70 = .ok (.goto 4, 3) := by decide +kernel
theorem dX10_learn_73 : decode cX10_learn 73 = .ok (.iconst (-1), 1) := by decide +kernel
theorem dX10_learn_74 : decode cX10_learn 74 = .ok (.ireturn, 1) := by decide +kernel
theorem dX10_rehearse_0 : decode cX10_rehearse 0 = .ok (.aload_n 0, 1) := by decide +kernel
theorem dX10_rehearse_1 : decode cX10_rehearse 1 = .ok (.getfield 82, 3) := by decide +kernel
theorem dX10_rehearse_4 : decode cX10_rehearse 4 = .ok (.iload_n 1, 1) := by decide +kernel
theorem dX10_rehearse_5 : decode cX10_rehearse 5 = .ok (.invokevirtual 173, 3) := by decide +kernel
theorem dX10_rehearse_8 : decode cX10_rehearse 8 = .ok (.ifCond .eq 10, 3) := by decide +kernel
theorem dX10_rehearse_11 : decode cX10_rehearse 11 = .ok (.iload_n 2, 1) := by decide +kernel
theorem dX10_rehearse_12 : decode cX10_rehearse 12 = .ok (.invokestatic 128, 3) := by decide +kernel
theorem dX10_rehearse_15 : decode cX10_rehearse 15 = .ok (.ifCond .ne 5, 3) := by decide +kernel
theorem dX10_rehearse_18 : decode cX10_rehearse 18 = .ok (.iconst (-1), 1) := by decide +kernel
theorem dX10_rehearse_19 : decode cX10_rehearse 19 = .ok (.ireturn, 1) := by decide +kernel
theorem dX10_rehearse_20 : decode cX10_rehearse 20 = .ok (.aload_n 0, 1) := by decide +kernel
theorem dX10_rehearse_21 : decode cX10_rehearse 21 = .ok (.getfield 75, 3) := by decide +kernel
theorem dX10_rehearse_24 : decode cX10_rehearse 24 = .ok (.iload_n 1, 1) := by decide +kernel
theorem dX10_rehearse_25 : decode cX10_rehearse 25 = .ok (.iload_n 2, 1) := by decide +kernel
theorem dX10_rehearse_26 : decode cX10_rehearse 26 = .ok (.invokevirtual 284, 3) := by decide +kernel
theorem dX10_rehearse_29 : decode cX10_rehearse 29 = .ok (.ireturn, 1) := by decide +kernel
theorem dX10_rooms_0 : decode cX10_rooms 0 = .ok (.iload_n 1, 1) := by decide +kernel
theorem dX10_rooms_1 : decode cX10_rooms 1 = .ok (.iconst 1, 1) := by decide +kernel
theorem dX10_rooms_2 : decode cX10_rooms 2 = .ok (.if_icmp .lt 8, 3) := by decide +kernel
theorem dX10_rooms_5 : decode cX10_rooms 5 = .ok (.iload_n 1, 1) := by decide +kernel
theorem dX10_rooms_6 : decode cX10_rooms 6 = .ok (.iconst 5, 1) := by decide +kernel
theorem dX10_rooms_7 : decode cX10_rooms 7 = .ok (.if_icmp .le 5, 3) := by decide +kernel
theorem dX10_rooms_10 : decode cX10_rooms 10 = .ok (.iconst 0, 1) := by decide +kernel
theorem dX10_rooms_11 : decode cX10_rooms 11 = .ok (.ireturn, 1) := by decide +kernel
theorem dX10_rooms_12 : decode cX10_rooms 12 = .ok (.aload_n 0, 1) := by decide +kernel
theorem dX10_rooms_13 : decode cX10_rooms 13 = .ok (.getfield 75, 3) := by decide +kernel
theorem dX10_rooms_16 : decode cX10_rooms 16 = .ok (.iload_n 1, 1) := by decide +kernel
theorem dX10_rooms_17 : decode cX10_rooms 17 = .ok (.putfield 287, 3) := by decide +kernel
theorem dX10_rooms_20 : decode cX10_rooms 20 = .ok (.iconst 1, 1) := by decide +kernel
theorem dX10_rooms_21 : decode cX10_rooms 21 = .ok (.ireturn, 1) := by decide +kernel
theorem dX10_week_0 : decode cX10_week 0 = .ok (.iconst 0, 1) := by decide +kernel
theorem dX10_week_1 : decode cX10_week 1 = .ok (.istore_n 2, 1) := by decide +kernel
theorem dX10_week_2 : decode cX10_week 2 = .ok (.iload_n 2, 1) := by decide +kernel
theorem dX10_week_3 : decode cX10_week 3 = .ok (.aload_n 0, 1) := by decide +kernel
theorem dX10_week_4 : decode cX10_week 4 = .ok (.getfield 75, 3) := by decide +kernel
theorem dX10_week_7 : decode cX10_week 7 = .ok (.getfield 122, 3) := by decide +kernel
theorem dX10_week_10 : decode cX10_week 10 = .ok (.if_icmp .ge 57, 3) := by decide +kernel
theorem dX10_week_13 : decode cX10_week 13 = .ok (.aload_n 0, 1) := by decide +kernel
theorem dX10_week_14 : decode cX10_week 14 = .ok (.aload_n 0, 1) := by decide +kernel
theorem dX10_week_15 : decode cX10_week 15 = .ok (.getfield 75, 3) := by decide +kernel
theorem dX10_week_18 : decode cX10_week 18 = .ok (.getfield 290, 3) := by decide +kernel
theorem dX10_week_21 : decode cX10_week 21 = .ok (.iload_n 2, 1) := by decide +kernel
theorem dX10_week_22 : decode cX10_week 22 = .ok (.iaload, 1) := by decide +kernel
theorem dX10_week_23 : decode cX10_week 23 = .ok (.aload_n 0, 1) := by decide +kernel
theorem dX10_week_24 : decode cX10_week 24 = .ok (.getfield 75, 3) := by decide +kernel
theorem dX10_week_27 : decode cX10_week 27 = .ok (.getfield 293, 3) := by decide +kernel
theorem dX10_week_30 : decode cX10_week 30 = .ok (.iload_n 2, 1) := by decide +kernel
theorem dX10_week_31 : decode cX10_week 31 = .ok (.iaload, 1) := by decide +kernel
theorem dX10_week_32 : decode cX10_week 32 = .ok (.iload_n 1, 1) := by decide +kernel
theorem dX10_week_33 : decode cX10_week 33 = .ok (.invokevirtual 245, 3) := by decide +kernel
theorem dX10_week_36 : decode cX10_week 36 = .ok (.istore_n 3, 1) := by decide +kernel
theorem dX10_week_37 : decode cX10_week 37 = .ok (.aload_n 0, 1) := by decide +kernel
theorem dX10_week_38 : decode cX10_week 38 = .ok (.getfield 75, 3) := by decide +kernel
theorem dX10_week_41 : decode cX10_week 41 = .ok (.getfield 296, 3) := by decide +kernel
theorem dX10_week_44 : decode cX10_week 44 = .ok (.iload_n 2, 1) := by decide +kernel
theorem dX10_week_45 : decode cX10_week 45 = .ok (.iload_n 3, 1) := by decide +kernel
theorem dX10_week_46 : decode cX10_week 46 = .ok (.ifCond .eq 13, 3) := by decide +kernel
theorem dX10_week_49 : decode cX10_week 49 = .ok (.aload_n 0, 1) := by decide +kernel
theorem dX10_week_50 : decode cX10_week 50 = .ok (.getfield 68, 3) := by decide +kernel
theorem dX10_week_53 : decode cX10_week 53 = .ok (.invokevirtual 264, 3) := by decide +kernel
theorem dX10_week_56 : decode cX10_week 56 = .ok (.goto 4, 3) := by decide +kernel
theorem dX10_week_59 : decode cX10_week 59 = .ok (.iconst 0, 1) := by decide +kernel
theorem dX10_week_60 : decode cX10_week 60 = .ok (.iastore, 1) := by decide +kernel
theorem dX10_week_61 : decode cX10_week 61 = .ok (.iinc 2 1, 3) := by decide +kernel
theorem dX10_week_64 : decode cX10_week 64 = .ok (.goto (-62), 3) := by decide +kernel
theorem dX10_week_67 : decode cX10_week 67 = .ok (.aload_n 0, 1) := by decide +kernel
theorem dX10_week_68 : decode cX10_week 68 = .ok (.getfield 75, 3) := by decide +kernel
theorem dX10_week_71 : decode cX10_week 71 = .ok (.invokevirtual 299, 3) := by decide +kernel
theorem dX10_week_74 : decode cX10_week 74 = .ok (.ireturn, 1) := by decide +kernel
theorem dX10_hour_0 : decode cX10_hour 0 = .ok (.iload_n 1, 1) := by decide +kernel
theorem dX10_hour_1 : decode cX10_hour 1 = .ok (.ifCond .lt 14, 3) := by decide +kernel
theorem dX10_hour_4 : decode cX10_hour 4 = .ok (.iload_n 1, 1) := by decide +kernel
theorem dX10_hour_5 : decode cX10_hour 5 = .ok (.aload_n 0, 1) := by decide +kernel
theorem dX10_hour_6 : decode cX10_hour 6 = .ok (.getfield 75, 3) := by decide +kernel
theorem dX10_hour_9 : decode cX10_hour 9 = .ok (.getfield 122, 3) := by decide +kernel
theorem dX10_hour_12 : decode cX10_hour 12 = .ok (.if_icmp .lt 5, 3) := by decide +kernel
theorem dX10_hour_15 : decode cX10_hour 15 = .ok (.iconst (-1), 1) := by decide +kernel
theorem dX10_hour_16 : decode cX10_hour 16 = .ok (.ireturn, 1) := by decide +kernel
theorem dX10_hour_17 : decode cX10_hour 17 = .ok (.aload_n 0, 1) := by decide +kernel
theorem dX10_hour_18 : decode cX10_hour 18 = .ok (.iload_n 2, 1) := by decide +kernel
theorem dX10_hour_19 : decode cX10_hour 19 = .ok (.invokevirtual 302, 3) := by decide +kernel
theorem dX10_hour_22 : decode cX10_hour 22 = .ok (.pop, 1) := by decide +kernel
theorem dX10_hour_23 : decode cX10_hour 23 = .ok (.aload_n 0, 1) := by decide +kernel
theorem dX10_hour_24 : decode cX10_hour 24 = .ok (.getfield 75, 3) := by decide +kernel
theorem dX10_hour_27 : decode cX10_hour 27 = .ok (.getfield 305, 3) := by decide +kernel
theorem dX10_hour_30 : decode cX10_hour 30 = .ok (.iload_n 1, 1) := by decide +kernel
theorem dX10_hour_31 : decode cX10_hour 31 = .ok (.iaload, 1) := by decide +kernel
theorem dX10_hour_32 : decode cX10_hour 32 = .ok (.ireturn, 1) := by decide +kernel
theorem dX10_live_0 : decode cX10_live 0 = .ok (.iload_n 2, 1) := by decide +kernel
theorem dX10_live_1 : decode cX10_live 1 = .ok (.invokestatic 128, 3) := by decide +kernel
theorem dX10_live_4 : decode cX10_live 4 = .ok (.ifCond .eq 20, 3) := by decide +kernel
theorem dX10_live_7 : decode cX10_live 7 = .ok (.iload_n 1, 1) := by decide +kernel
theorem dX10_live_8 : decode cX10_live 8 = .ok (.ifCond .lt 16, 3) := by decide +kernel
theorem dX10_live_11 : decode cX10_live 11 = .ok (.iload_n 1, 1) := by decide +kernel
theorem dX10_live_12 : decode cX10_live 12 = .ok (.iconst 1, 1) := by decide +kernel
theorem dX10_live_13 : decode cX10_live 13 = .ok (.aload_n 0, 1) := by decide +kernel
theorem dX10_live_14 : decode cX10_live 14 = .ok (.getfield 82, 3) := by decide +kernel
theorem dX10_live_17 : decode cX10_live 17 = .ok (.getfield 308, 3) := by decide +kernel
theorem dX10_live_20 : decode cX10_live 20 = .ok (.ishl, 1) := by decide +kernel
theorem dX10_live_21 : decode cX10_live 21 = .ok (.if_icmp .lt 5, 3) := by decide +kernel
theorem dX10_live_24 : decode cX10_live 24 = .ok (.iconst (-1), 1) := by decide +kernel
theorem dX10_live_25 : decode cX10_live 25 = .ok (.ireturn, 1) := by decide +kernel
theorem dX10_live_26 : decode cX10_live 26 = .ok (.aload_n 0, 1) := by decide +kernel
theorem dX10_live_27 : decode cX10_live 27 = .ok (.iload_n 2, 1) := by decide +kernel
theorem dX10_live_28 : decode cX10_live 28 = .ok (.iload_n 3, 1) := by decide +kernel
theorem dX10_live_29 : decode cX10_live 29 = .ok (.invokevirtual 225, 3) := by decide +kernel
theorem dX10_live_32 : decode cX10_live 32 = .ok (.aload_n 0, 1) := by decide +kernel
theorem dX10_live_33 : decode cX10_live 33 = .ok (.getfield 61, 3) := by decide +kernel
theorem dX10_live_36 : decode cX10_live 36 = .ok (.iload_n 1, 1) := by decide +kernel
theorem dX10_live_37 : decode cX10_live 37 = .ok (.invokevirtual 311, 3) := by decide +kernel
theorem dX10_live_40 : decode cX10_live 40 = .ok (.ireturn, 1) := by decide +kernel
theorem dX10_note_0 : decode cX10_note 0 = .ok (.iload_n 2, 1) := by decide +kernel
theorem dX10_note_1 : decode cX10_note 1 = .ok (.invokestatic 128, 3) := by decide +kernel
theorem dX10_note_4 : decode cX10_note 4 = .ok (.ifCond .eq 13, 3) := by decide +kernel
theorem dX10_note_7 : decode cX10_note 7 = .ok (.iload_n 1, 1) := by decide +kernel
theorem dX10_note_8 : decode cX10_note 8 = .ok (.ifCond .lt 9, 3) := by decide +kernel
theorem dX10_note_11 : decode cX10_note 11 = .ok (.iload_n 1, 1) := by decide +kernel
theorem dX10_note_12 : decode cX10_note 12 = .ok (.bipush 12, 2) := by decide +kernel
theorem dX10_note_14 : decode cX10_note 14 = .ok (.if_icmp .le 5, 3) := by decide +kernel
theorem dX10_note_17 : decode cX10_note 17 = .ok (.iconst (-1), 1) := by decide +kernel
theorem dX10_note_18 : decode cX10_note 18 = .ok (.ireturn, 1) := by decide +kernel
theorem dX10_note_19 : decode cX10_note 19 = .ok (.aload_n 0, 1) := by decide +kernel
theorem dX10_note_20 : decode cX10_note 20 = .ok (.iload_n 2, 1) := by decide +kernel
theorem dX10_note_21 : decode cX10_note 21 = .ok (.iload_n 3, 1) := by decide +kernel
theorem dX10_note_22 : decode cX10_note 22 = .ok (.invokevirtual 225, 3) := by decide +kernel
theorem dX10_note_25 : decode cX10_note 25 = .ok (.aload_n 0, 1) := by decide +kernel
theorem dX10_note_26 : decode cX10_note 26 = .ok (.getfield 61, 3) := by decide +kernel
theorem dX10_note_29 : decode cX10_note 29 = .ok (.iload_n 1, 1) := by decide +kernel
theorem dX10_note_30 : decode cX10_note 30 = .ok (.invokevirtual 314, 3) := by decide +kernel
theorem dX10_note_33 : decode cX10_note 33 = .ok (.ireturn, 1) := by decide +kernel
theorem dX10_about_0 : decode cX10_about 0 = .ok (.iload_n 1, 1) := by decide +kernel
theorem dX10_about_1 : decode cX10_about 1 = .ok (.tableswitch 141 0 10 #[59, 67, 75, 80, 88, 93, 101, 109, 117, 125, 133], 59) := by decide +kernel
theorem dX10_about_60 : decode cX10_about 60 = .ok (.aload_n 0, 1) := by decide +kernel
theorem dX10_about_61 : decode cX10_about 61 = .ok (.getfield 82, 3) := by decide +kernel
theorem dX10_about_64 : decode cX10_about 64 = .ok (.getfield 317, 3) := by decide +kernel
theorem dX10_about_67 : decode cX10_about 67 = .ok (.ireturn, 1) := by decide +kernel
theorem dX10_about_68 : decode cX10_about 68 = .ok (.aload_n 0, 1) := by decide +kernel
theorem dX10_about_69 : decode cX10_about 69 = .ok (.getfield 82, 3) := by decide +kernel
theorem dX10_about_72 : decode cX10_about 72 = .ok (.getfield 308, 3) := by decide +kernel
theorem dX10_about_75 : decode cX10_about 75 = .ok (.ireturn, 1) := by decide +kernel
theorem dX10_about_76 : decode cX10_about 76 = .ok (.aload_n 0, 1) := by decide +kernel
theorem dX10_about_77 : decode cX10_about 77 = .ok (.getfield 93, 3) := by decide +kernel
theorem dX10_about_80 : decode cX10_about 80 = .ok (.ireturn, 1) := by decide +kernel
theorem dX10_about_81 : decode cX10_about 81 = .ok (.aload_n 0, 1) := by decide +kernel
theorem dX10_about_82 : decode cX10_about 82 = .ok (.getfield 54, 3) := by decide +kernel
theorem dX10_about_85 : decode cX10_about 85 = .ok (.getfield 119, 3) := by decide +kernel
theorem dX10_about_88 : decode cX10_about 88 = .ok (.ireturn, 1) := by decide +kernel
theorem dX10_about_89 : decode cX10_about 89 = .ok (.aload_n 0, 1) := by decide +kernel
theorem dX10_about_90 : decode cX10_about 90 = .ok (.getfield 89, 3) := by decide +kernel
theorem dX10_about_93 : decode cX10_about 93 = .ok (.ireturn, 1) := by decide +kernel
theorem dX10_about_94 : decode cX10_about 94 = .ok (.aload_n 0, 1) := by decide +kernel
theorem dX10_about_95 : decode cX10_about 95 = .ok (.getfield 75, 3) := by decide +kernel
theorem dX10_about_98 : decode cX10_about 98 = .ok (.getfield 122, 3) := by decide +kernel
theorem dX10_about_101 : decode cX10_about 101 = .ok (.ireturn, 1) := by decide +kernel
theorem dX10_about_102 : decode cX10_about 102 = .ok (.aload_n 0, 1) := by decide +kernel
theorem dX10_about_103 : decode cX10_about 103 = .ok (.getfield 54, 3) := by decide +kernel
theorem dX10_about_106 : decode cX10_about 106 = .ok (.getfield 206, 3) := by decide +kernel
theorem dX10_about_109 : decode cX10_about 109 = .ok (.ireturn, 1) := by decide +kernel
theorem dX10_about_110 : decode cX10_about 110 = .ok (.aload_n 0, 1) := by decide +kernel
theorem dX10_about_111 : decode cX10_about 111 = .ok (.getfield 10, 3) := by decide +kernel
theorem dX10_about_114 : decode cX10_about 114 = .ok (.getfield 102, 3) := by decide +kernel
theorem dX10_about_117 : decode cX10_about 117 = .ok (.ireturn, 1) := by decide +kernel
theorem dX10_about_118 : decode cX10_about 118 = .ok (.aload_n 0, 1) := by decide +kernel
theorem dX10_about_119 : decode cX10_about 119 = .ok (.getfield 82, 3) := by decide +kernel
theorem dX10_about_122 : decode cX10_about 122 = .ok (.getfield 320, 3) := by decide +kernel
theorem dX10_about_125 : decode cX10_about 125 = .ok (.ireturn, 1) := by decide +kernel
theorem dX10_about_126 : decode cX10_about 126 = .ok (.aload_n 0, 1) := by decide +kernel
theorem dX10_about_127 : decode cX10_about 127 = .ok (.getfield 82, 3) := by decide +kernel
theorem dX10_about_130 : decode cX10_about 130 = .ok (.getfield 323, 3) := by decide +kernel
theorem dX10_about_133 : decode cX10_about 133 = .ok (.ireturn, 1) := by decide +kernel
theorem dX10_about_134 : decode cX10_about 134 = .ok (.aload_n 0, 1) := by decide +kernel
theorem dX10_about_135 : decode cX10_about 135 = .ok (.getfield 82, 3) := by decide +kernel
theorem dX10_about_138 : decode cX10_about 138 = .ok (.getfield 326, 3) := by decide +kernel
theorem dX10_about_141 : decode cX10_about 141 = .ok (.ireturn, 1) := by decide +kernel
theorem dX10_about_142 : decode cX10_about 142 = .ok (.iconst (-1), 1) := by decide +kernel
theorem dX10_about_143 : decode cX10_about 143 = .ok (.ireturn, 1) := by decide +kernel
theorem dX10_isDay_0 : decode cX10_isDay 0 = .ok (.iload_n 0, 1) := by decide +kernel
theorem dX10_isDay_1 : decode cX10_isDay 1 = .ok (.ifCond .lt 14, 3) := by decide +kernel
theorem dX10_isDay_4 : decode cX10_isDay 4 = .ok (.iload_n 0, 1) := by decide +kernel
theorem dX10_isDay_5 : decode cX10_isDay 5 = .ok (.sipush 999, 3) := by decide +kernel
theorem dX10_isDay_8 : decode cX10_isDay 8 = .ok (.if_icmp .gt 7, 3) := by decide +kernel
theorem dX10_isDay_11 : decode cX10_isDay 11 = .ok (.iconst 1, 1) := by decide +kernel
theorem dX10_isDay_12 : decode cX10_isDay 12 = .ok (.goto 4, 3) := by decide +kernel
theorem dX10_isDay_15 : decode cX10_isDay 15 = .ok (.iconst 0, 1) := by decide +kernel
theorem dX10_isDay_16 : decode cX10_isDay 16 = .ok (.ireturn, 1) := by decide +kernel
theorem dX10_isReader_0 : decode cX10_isReader 0 = .ok (.iload_n 0, 1) := by decide +kernel
theorem dX10_isReader_1 : decode cX10_isReader 1 = .ok (.ifCond .lt 12, 3) := by decide +kernel
theorem dX10_isReader_4 : decode cX10_isReader 4 = .ok (.iload_n 0, 1) := by decide +kernel
theorem dX10_isReader_5 : decode cX10_isReader 5 = .ok (.iconst 2, 1) := by decide +kernel
theorem dX10_isReader_6 : decode cX10_isReader 6 = .ok (.if_icmp .ge 7, 3) := by decide +kernel
theorem dX10_isReader_9 : decode cX10_isReader 9 = .ok (.iconst 1, 1) := by decide +kernel
theorem dX10_isReader_10 : decode cX10_isReader 10 = .ok (.goto 4, 3) := by decide +kernel
theorem dX10_isReader_13 : decode cX10_isReader 13 = .ok (.iconst 0, 1) := by decide +kernel
theorem dX10_isReader_14 : decode cX10_isReader 14 = .ok (.ireturn, 1) := by decide +kernel
theorem dX10_isStep_0 : decode cX10_isStep 0 = .ok (.iload_n 0, 1) := by decide +kernel
theorem dX10_isStep_1 : decode cX10_isStep 1 = .ok (.ifCond .lt 13, 3) := by decide +kernel
theorem dX10_isStep_4 : decode cX10_isStep 4 = .ok (.iload_n 0, 1) := by decide +kernel
theorem dX10_isStep_5 : decode cX10_isStep 5 = .ok (.bipush 6, 2) := by decide +kernel
theorem dX10_isStep_7 : decode cX10_isStep 7 = .ok (.if_icmp .ge 7, 3) := by decide +kernel
theorem dX10_isStep_10 : decode cX10_isStep 10 = .ok (.iconst 1, 1) := by decide +kernel
theorem dX10_isStep_11 : decode cX10_isStep 11 = .ok (.goto 4, 3) := by decide +kernel
theorem dX10_isStep_14 : decode cX10_isStep 14 = .ok (.iconst 0, 1) := by decide +kernel
theorem dX10_isStep_15 : decode cX10_isStep 15 = .ok (.ireturn, 1) := by decide +kernel
theorem dX10_isWidth_0 : decode cX10_isWidth 0 = .ok (.iload_n 0, 1) := by decide +kernel
theorem dX10_isWidth_1 : decode cX10_isWidth 1 = .ok (.iconst 1, 1) := by decide +kernel
theorem dX10_isWidth_2 : decode cX10_isWidth 2 = .ok (.if_icmp .lt 13, 3) := by decide +kernel
theorem dX10_isWidth_5 : decode cX10_isWidth 5 = .ok (.iload_n 0, 1) := by decide +kernel
theorem dX10_isWidth_6 : decode cX10_isWidth 6 = .ok (.bipush 20, 2) := by decide +kernel
theorem dX10_isWidth_8 : decode cX10_isWidth 8 = .ok (.if_icmp .gt 7, 3) := by decide +kernel
theorem dX10_isWidth_11 : decode cX10_isWidth 11 = .ok (.iconst 1, 1) := by decide +kernel
theorem dX10_isWidth_12 : decode cX10_isWidth 12 = .ok (.goto 4, 3) := by decide +kernel
theorem dX10_isWidth_15 : decode cX10_isWidth 15 = .ok (.iconst 0, 1) := by decide +kernel
theorem dX10_isWidth_16 : decode cX10_isWidth 16 = .ok (.ireturn, 1) := by decide +kernel
theorem dX10_isBody_0 : decode cX10_isBody 0 = .ok (.iload_n 1, 1) := by decide +kernel
theorem dX10_isBody_1 : decode cX10_isBody 1 = .ok (.ifCond .lt 15, 3) := by decide +kernel
theorem dX10_isBody_4 : decode cX10_isBody 4 = .ok (.iload_n 1, 1) := by decide +kernel
theorem dX10_isBody_5 : decode cX10_isBody 5 = .ok (.aload_n 0, 1) := by decide +kernel
theorem dX10_isBody_6 : decode cX10_isBody 6 = .ok (.getfield 93, 3) := by decide +kernel
theorem dX10_isBody_9 : decode cX10_isBody 9 = .ok (.if_icmp .ge 7, 3) := by decide +kernel
theorem dX10_isBody_12 : decode cX10_isBody 12 = .ok (.iconst 1, 1) := by decide +kernel
theorem dX10_isBody_13 : decode cX10_isBody 13 = .ok (.goto 4, 3) := by decide +kernel
theorem dX10_isBody_16 : decode cX10_isBody 16 = .ok (.iconst 0, 1) := by decide +kernel
theorem dX10_isBody_17 : decode cX10_isBody 17 = .ok (.ireturn, 1) := by decide +kernel
theorem dX10_rulingInForce_0 : decode cX10_rulingInForce 0 = .ok (.aconst_null, 1) := by decide +kernel
theorem dX10_rulingInForce_1 : decode cX10_rulingInForce 1 = .ok (.astore_n 2, 1) := by decide +kernel
theorem dX10_rulingInForce_2 : decode cX10_rulingInForce 2 = .ok (.iconst 0, 1) := by decide +kernel
theorem dX10_rulingInForce_3 : decode cX10_rulingInForce 3 = .ok (.istore_n 3, 1) := by decide +kernel
theorem dX10_rulingInForce_4 : decode cX10_rulingInForce 4 = .ok (.iload_n 3, 1) := by decide +kernel
theorem dX10_rulingInForce_5 : decode cX10_rulingInForce 5 = .ok (.aload_n 0, 1) := by decide +kernel
theorem dX10_rulingInForce_6 : decode cX10_rulingInForce 6 = .ok (.getfield 89, 3) := by decide +kernel
theorem dX10_rulingInForce_9 : decode cX10_rulingInForce 9 = .ok (.if_icmp .ge 45, 3) := by decide +kernel
theorem dX10_rulingInForce_12 : decode cX10_rulingInForce 12 = .ok (.aload_n 0, 1) := by decide +kernel
theorem dX10_rulingInForce_13 : decode cX10_rulingInForce 13 = .ok (.getfield 46, 3) := by decide +kernel
theorem dX10_rulingInForce_16 : decode cX10_rulingInForce 16 = .ok (.iload_n 3, 1) := by decide +kernel
theorem dX10_rulingInForce_17 : decode cX10_rulingInForce 17 = .ok (.aaload, 1) := by decide +kernel
theorem dX10_rulingInForce_18 : decode cX10_rulingInForce 18 = .ok (.astore 4, 2) := by decide +kernel
theorem dX10_rulingInForce_20 : decode cX10_rulingInForce 20 = .ok (.aload 4, 2) := by decide +kernel
theorem dX10_rulingInForce_22 : decode cX10_rulingInForce 22 = .ok (.getfield 137, 3) := by decide +kernel
theorem dX10_rulingInForce_25 : decode cX10_rulingInForce 25 = .ok (.iload_n 1, 1) := by decide +kernel
theorem dX10_rulingInForce_26 : decode cX10_rulingInForce 26 = .ok (.if_icmp .gt 22, 3) := by decide +kernel
theorem dX10_rulingInForce_29 : decode cX10_rulingInForce 29 = .ok (.aload_n 2, 1) := by decide +kernel
theorem dX10_rulingInForce_30 : decode cX10_rulingInForce 30 = .ok (.ifnull 15, 3) := by decide +kernel
theorem dX10_rulingInForce_33 : decode cX10_rulingInForce 33 = .ok (.aload 4, 2) := by decide +kernel
theorem dX10_rulingInForce_35 : decode cX10_rulingInForce 35 = .ok (.getfield 137, 3) := by decide +kernel
theorem dX10_rulingInForce_38 : decode cX10_rulingInForce 38 = .ok (.aload_n 2, 1) := by decide +kernel
theorem dX10_rulingInForce_39 : decode cX10_rulingInForce 39 = .ok (.getfield 137, 3) := by decide +kernel
theorem dX10_rulingInForce_42 : decode cX10_rulingInForce 42 = .ok (.if_icmp .lt 6, 3) := by decide +kernel
theorem dX10_rulingInForce_45 : decode cX10_rulingInForce 45 = .ok (.aload 4, 2) := by decide +kernel
theorem dX10_rulingInForce_47 : decode cX10_rulingInForce 47 = .ok (.astore_n 2, 1) := by decide +kernel
theorem dX10_rulingInForce_48 : decode cX10_rulingInForce 48 = .ok (.iinc 3 1, 3) := by decide +kernel
theorem dX10_rulingInForce_51 : decode cX10_rulingInForce 51 = .ok (.goto (-47), 3) := by decide +kernel
theorem dX10_rulingInForce_54 : decode cX10_rulingInForce 54 = .ok (.aload_n 2, 1) := by decide +kernel
theorem dX10_rulingInForce_55 : decode cX10_rulingInForce 55 = .ok (.areturn, 1) := by decide +kernel
theorem dX10_openDay_0 : decode cX10_openDay 0 = .ok (.aload_n 0, 1) := by decide +kernel
theorem dX10_openDay_1 : decode cX10_openDay 1 = .ok (.getfield 61, 3) := by decide +kernel
theorem dX10_openDay_4 : decode cX10_openDay 4 = .ok (.aload_n 0, 1) := by decide +kernel
theorem dX10_openDay_5 : decode cX10_openDay 5 = .ok (.getfield 82, 3) := by decide +kernel
theorem dX10_openDay_8 : decode cX10_openDay 8 = .ok (.aload_n 0, 1) := by decide +kernel
theorem dX10_openDay_9 : decode cX10_openDay 9 = .ok (.iload_n 1, 1) := by decide +kernel
theorem dX10_openDay_10 : decode cX10_openDay 10 = .ok (.invokevirtual 329, 3) := by decide +kernel
theorem dX10_openDay_13 : decode cX10_openDay 13 = .ok (.aload_n 0, 1) := by decide +kernel
theorem dX10_openDay_14 : decode cX10_openDay 14 = .ok (.getfield 93, 3) := by decide +kernel
theorem dX10_openDay_17 : decode cX10_openDay 17 = .ok (.iload_n 1, 1) := by decide +kernel
theorem dX10_openDay_18 : decode cX10_openDay 18 = .ok (.invokevirtual 333, 3) := by decide +kernel
theorem dX10_openDay_21 : decode cX10_openDay 21 = .ok (.aload_n 0, 1) := by decide +kernel
theorem dX10_openDay_22 : decode cX10_openDay 22 = .ok (.getfield 61, 3) := by decide +kernel
theorem dX10_openDay_25 : decode cX10_openDay 25 = .ok (.aload_n 0, 1) := by decide +kernel
theorem dX10_openDay_26 : decode cX10_openDay 26 = .ok (.getfield 54, 3) := by decide +kernel
theorem dX10_openDay_29 : decode cX10_openDay 29 = .ok (.iload_n 2, 1) := by decide +kernel
theorem dX10_openDay_30 : decode cX10_openDay 30 = .ok (.invokevirtual 337, 3) := by decide +kernel
theorem dX10_openDay_33 : decode cX10_openDay 33 = .ok (.return_, 1) := by decide +kernel
theorem dX10_findCast_0 : decode cX10_findCast 0 = .ok (.aload_n 0, 1) := by decide +kernel
theorem dX10_findCast_1 : decode cX10_findCast 1 = .ok (.iload_n 2, 1) := by decide +kernel
theorem dX10_findCast_2 : decode cX10_findCast 2 = .ok (.iload_n 3, 1) := by decide +kernel
theorem dX10_findCast_3 : decode cX10_findCast 3 = .ok (.invokevirtual 225, 3) := by decide +kernel
theorem dX10_findCast_6 : decode cX10_findCast 6 = .ok (.aload_n 0, 1) := by decide +kernel
theorem dX10_findCast_7 : decode cX10_findCast 7 = .ok (.getfield 68, 3) := by decide +kernel
theorem dX10_findCast_10 : decode cX10_findCast 10 = .ok (.aload_n 0, 1) := by decide +kernel
theorem dX10_findCast_11 : decode cX10_findCast 11 = .ok (.getfield 61, 3) := by decide +kernel
theorem dX10_findCast_14 : decode cX10_findCast 14 = .ok (.iload_n 1, 1) := by decide +kernel
theorem dX10_findCast_15 : decode cX10_findCast 15 = .ok (.invokevirtual 341, 3) := by decide +kernel
theorem dX10_findCast_18 : decode cX10_findCast 18 = .ok (.aload_n 0, 1) := by decide +kernel
theorem dX10_findCast_19 : decode cX10_findCast 19 = .ok (.getfield 68, 3) := by decide +kernel
theorem dX10_findCast_22 : decode cX10_findCast 22 = .ok (.invokevirtual 345, 3) := by decide +kernel
theorem dX10_findCast_25 : decode cX10_findCast 25 = .ok (.ireturn, 1) := by decide +kernel
theorem dX10_findFall_0 : decode cX10_findFall 0 = .ok (.aload_n 0, 1) := by decide +kernel
theorem dX10_findFall_1 : decode cX10_findFall 1 = .ok (.iload_n 1, 1) := by decide +kernel
theorem dX10_findFall_2 : decode cX10_findFall 2 = .ok (.iload_n 3, 1) := by decide +kernel
theorem dX10_findFall_3 : decode cX10_findFall 3 = .ok (.iload 4, 2) := by decide +kernel
theorem dX10_findFall_5 : decode cX10_findFall 5 = .ok (.invokevirtual 245, 3) := by decide +kernel
theorem dX10_findFall_8 : decode cX10_findFall 8 = .ok (.ifCond .eq 18, 3) := by decide +kernel
theorem dX10_findFall_11 : decode cX10_findFall 11 = .ok (.aload_n 0, 1) := by decide +kernel
theorem dX10_findFall_12 : decode cX10_findFall 12 = .ok (.getfield 68, 3) := by decide +kernel
theorem dX10_findFall_15 : decode cX10_findFall 15 = .ok (.iload_n 2, 1) := by decide +kernel
theorem dX10_findFall_16 : decode cX10_findFall 16 = .ok (.invokevirtual 349, 3) := by decide +kernel
theorem dX10_findFall_19 : decode cX10_findFall 19 = .ok (.ifCond .eq 7, 3) := by decide +kernel
theorem dX10_findFall_22 : decode cX10_findFall 22 = .ok (.iconst 1, 1) := by decide +kernel
theorem dX10_findFall_23 : decode cX10_findFall 23 = .ok (.goto 4, 3) := by decide +kernel
theorem dX10_findFall_26 : decode cX10_findFall 26 = .ok (.iconst 0, 1) := by decide +kernel
theorem dX10_findFall_27 : decode cX10_findFall 27 = .ok (.ireturn, 1) := by decide +kernel
theorem dX11_init_0 : decode cX11_init 0 = .ok (.aload_n 0, 1) := by decide +kernel
theorem dX11_init_1 : decode cX11_init 1 = .ok (.invokespecial 1, 3) := by decide +kernel
theorem dX11_init_4 : decode cX11_init 4 = .ok (.aload_n 0, 1) := by decide +kernel
theorem dX11_init_5 : decode cX11_init 5 = .ok (.sipush 1420, 3) := by decide +kernel
theorem dX11_init_8 : decode cX11_init 8 = .ok (.newarray .byte, 2) := by decide +kernel
theorem dX11_init_10 : decode cX11_init 10 = .ok (.putfield 7, 3) := by decide +kernel
theorem dX11_init_13 : decode cX11_init 13 = .ok (.aload_n 0, 1) := by decide +kernel
theorem dX11_init_14 : decode cX11_init 14 = .ok (.sipush 1400, 3) := by decide +kernel
theorem dX11_init_17 : decode cX11_init 17 = .ok (.newarray .byte, 2) := by decide +kernel
theorem dX11_init_19 : decode cX11_init 19 = .ok (.putfield 13, 3) := by decide +kernel
theorem dX11_init_22 : decode cX11_init 22 = .ok (.aload_n 0, 1) := by decide +kernel
theorem dX11_init_23 : decode cX11_init 23 = .ok (.iconst (-1), 1) := by decide +kernel
theorem dX11_init_24 : decode cX11_init 24 = .ok (.putfield 16, 3) := by decide +kernel
theorem dX11_init_27 : decode cX11_init 27 = .ok (.aload_n 0, 1) := by decide +kernel
theorem dX11_init_28 : decode cX11_init 28 = .ok (.iconst 2, 1) := by decide +kernel
theorem dX11_init_29 : decode cX11_init 29 = .ok (.newarray .int, 2) := by decide +kernel
theorem dX11_init_31 : decode cX11_init 31 = .ok (.putfield 20, 3) := by decide +kernel
theorem dX11_init_34 : decode cX11_init 34 = .ok (.aload_n 0, 1) := by decide +kernel
theorem dX11_init_35 : decode cX11_init 35 = .ok (.iconst 2, 1) := by decide +kernel
theorem dX11_init_36 : decode cX11_init 36 = .ok (.newarray .int, 2) := by decide +kernel
theorem dX11_init_38 : decode cX11_init 38 = .ok (.putfield 24, 3) := by decide +kernel
theorem dX11_init_41 : decode cX11_init 41 = .ok (.aload_n 0, 1) := by decide +kernel
theorem dX11_init_42 : decode cX11_init 42 = .ok (.iconst 2, 1) := by decide +kernel
theorem dX11_init_43 : decode cX11_init 43 = .ok (.newarray .int, 2) := by decide +kernel
theorem dX11_init_45 : decode cX11_init 45 = .ok (.putfield 27, 3) := by decide +kernel
theorem dX11_init_48 : decode cX11_init 48 = .ok (.aload_n 0, 1) := by decide +kernel
theorem dX11_init_49 : decode cX11_init 49 = .ok (.iconst 2, 1) := by decide +kernel
theorem dX11_init_50 : decode cX11_init 50 = .ok (.newarray .int, 2) := by decide +kernel
theorem dX11_init_52 : decode cX11_init 52 = .ok (.putfield 30, 3) := by decide +kernel
theorem dX11_init_55 : decode cX11_init 55 = .ok (.aload_n 0, 1) := by decide +kernel
theorem dX11_init_56 : decode cX11_init 56 = .ok (.iconst 2, 1) := by decide +kernel
theorem dX11_init_57 : decode cX11_init 57 = .ok (.newarray .int, 2) := by decide +kernel
theorem dX11_init_59 : decode cX11_init 59 = .ok (.dup, 1) := by decide +kernel
theorem dX11_init_60 : decode cX11_init 60 = .ok (.iconst 0, 1) := by decide +kernel
theorem dX11_init_61 : decode cX11_init 61 = .ok (.bipush 10, 2) := by decide +kernel
theorem dX11_init_63 : decode cX11_init 63 = .ok (.iastore, 1) := by decide +kernel
theorem dX11_init_64 : decode cX11_init 64 = .ok (.dup, 1) := by decide +kernel
theorem dX11_init_65 : decode cX11_init 65 = .ok (.iconst 1, 1) := by decide +kernel
theorem dX11_init_66 : decode cX11_init 66 = .ok (.bipush 10, 2) := by decide +kernel
theorem dX11_init_68 : decode cX11_init 68 = .ok (.iastore, 1) := by decide +kernel
theorem dX11_init_69 : decode cX11_init 69 = .ok (.putfield 33, 3) := by decide +kernel
theorem dX11_init_72 : decode cX11_init 72 = .ok (.aload_n 0, 1) := by decide +kernel
theorem dX11_init_73 : decode cX11_init 73 = .ok (.iconst 2, 1) := by decide +kernel
theorem dX11_init_74 : decode cX11_init 74 = .ok (.newarray .int, 2) := by decide +kernel
theorem dX11_init_76 : decode cX11_init 76 = .ok (.dup, 1) := by decide +kernel
theorem dX11_init_77 : decode cX11_init 77 = .ok (.iconst 0, 1) := by decide +kernel
theorem dX11_init_78 : decode cX11_init 78 = .ok (.bipush 10, 2) := by decide +kernel
theorem dX11_init_80 : decode cX11_init 80 = .ok (.iastore, 1) := by decide +kernel
theorem dX11_init_81 : decode cX11_init 81 = .ok (.dup, 1) := by decide +kernel
theorem dX11_init_82 : decode cX11_init 82 = .ok (.iconst 1, 1) := by decide +kernel
theorem dX11_init_83 : decode cX11_init 83 = .ok (.bipush 10, 2) := by decide +kernel
theorem dX11_init_85 : decode cX11_init 85 = .ok (.iastore, 1) := by decide +kernel
theorem dX11_init_86 : decode cX11_init 86 = .ok (.putfield 36, 3) := by decide +kernel
theorem dX11_init_89 : decode cX11_init 89 = .ok (.aload_n 0, 1) := by decide +kernel
theorem dX11_init_90 : decode cX11_init 90 = .ok (.iconst 2, 1) := by decide +kernel
theorem dX11_init_91 : decode cX11_init 91 = .ok (.newarray .int, 2) := by decide +kernel
theorem dX11_init_93 : decode cX11_init 93 = .ok (.putfield 39, 3) := by decide +kernel
theorem dX11_init_96 : decode cX11_init 96 = .ok (.aload_n 0, 1) := by decide +kernel
theorem dX11_init_97 : decode cX11_init 97 = .ok (.bipush 24, 2) := by decide +kernel
theorem dX11_init_99 : decode cX11_init 99 = .ok (.newarray .int, 2) := by decide +kernel
theorem dX11_init_101 : decode cX11_init 101 = .ok (.putfield 42, 3) := by decide +kernel
theorem dX11_init_104 : decode cX11_init 104 = .ok (.aload_n 0, 1) := by decide +kernel
theorem dX11_init_105 : decode cX11_init 105 = .ok (.bipush 24, 2) := by decide +kernel
theorem dX11_init_107 : decode cX11_init 107 = .ok (.newarray .int, 2) := by decide +kernel
theorem dX11_init_109 : decode cX11_init 109 = .ok (.putfield 45, 3) := by decide +kernel
theorem dX11_init_112 : decode cX11_init 112 = .ok (.aload_n 0, 1) := by decide +kernel
theorem dX11_init_113 : decode cX11_init 113 = .ok (.bipush 24, 2) := by decide +kernel
theorem dX11_init_115 : decode cX11_init 115 = .ok (.newarray .int, 2) := by decide +kernel
theorem dX11_init_117 : decode cX11_init 117 = .ok (.putfield 48, 3) := by decide +kernel
theorem dX11_init_120 : decode cX11_init 120 = .ok (.aload_n 0, 1) := by decide +kernel
theorem dX11_init_121 : decode cX11_init 121 = .ok (.bipush 24, 2) := by decide +kernel
theorem dX11_init_123 : decode cX11_init 123 = .ok (.newarray .int, 2) := by decide +kernel
theorem dX11_init_125 : decode cX11_init 125 = .ok (.putfield 51, 3) := by decide +kernel
theorem dX11_init_128 : decode cX11_init 128 = .ok (.aload_n 0, 1) := by decide +kernel
theorem dX11_init_129 : decode cX11_init 129 = .ok (.sipush 768, 3) := by decide +kernel
theorem dX11_init_132 : decode cX11_init 132 = .ok (.newarray .int, 2) := by decide +kernel
theorem dX11_init_134 : decode cX11_init 134 = .ok (.putfield 54, 3) := by decide +kernel
theorem dX11_init_137 : decode cX11_init 137 = .ok (.aload_n 0, 1) := by decide +kernel
theorem dX11_init_138 : decode cX11_init 138 = .ok (.bipush 8, 2) := by decide +kernel
theorem dX11_init_140 : decode cX11_init 140 = .ok (.newarray .int, 2) := by decide +kernel
theorem dX11_init_142 : decode cX11_init 142 = .ok (.putfield 57, 3) := by decide +kernel
theorem dX11_init_145 : decode cX11_init 145 = .ok (.aload_n 0, 1) := by decide +kernel
theorem dX11_init_146 : decode cX11_init 146 = .ok (.bipush 24, 2) := by decide +kernel
theorem dX11_init_148 : decode cX11_init 148 = .ok (.newarray .boolean, 2) := by decide +kernel
theorem dX11_init_150 : decode cX11_init 150 = .ok (.putfield 60, 3) := by decide +kernel
theorem dX11_init_153 : decode cX11_init 153 = .ok (.aload_n 0, 1) := by decide +kernel
theorem dX11_init_154 : decode cX11_init 154 = .ok (.iconst 2, 1) := by decide +kernel
theorem dX11_init_155 : decode cX11_init 155 = .ok (.newarray .boolean, 2) := by decide +kernel
theorem dX11_init_157 : decode cX11_init 157 = .ok (.putfield 64, 3) := by decide +kernel
theorem dX11_init_160 : decode cX11_init 160 = .ok (.aload_n 0, 1) := by decide +kernel
theorem dX11_init_161 : decode cX11_init 161 = .ok (.bipush 32, 2) := by decide +kernel
theorem dX11_init_163 : decode cX11_init 163 = .ok (.newarray .long, 2) := by decide +kernel
theorem dX11_init_165 : decode cX11_init 165 = .ok (.putfield 67, 3) := by decide +kernel
theorem dX11_init_168 : decode cX11_init 168 = .ok (.aload_n 0, 1) := by decide +kernel
theorem dX11_init_169 : decode cX11_init 169 = .ok (.bipush 16, 2) := by decide +kernel
theorem dX11_init_171 : decode cX11_init 171 = .ok (.newarray .int, 2) := by decide +kernel
theorem dX11_init_173 : decode cX11_init 173 = .ok (.dup, 1) := by decide +kernel
theorem dX11_init_174 : decode cX11_init 174 = .ok (.iconst 0, 1) := by decide +kernel
theorem dX11_init_175 : decode cX11_init 175 = .ok (.iconst 0, 1) := by decide +kernel
theorem dX11_init_176 : decode cX11_init 176 = .ok (.iastore, 1) := by decide +kernel
theorem dX11_init_177 : decode cX11_init 177 = .ok (.dup, 1) := by decide +kernel
theorem dX11_init_178 : decode cX11_init 178 = .ok (.iconst 1, 1) := by decide +kernel
theorem dX11_init_179 : decode cX11_init 179 = .ok (.iconst 1, 1) := by decide +kernel
theorem dX11_init_180 : decode cX11_init 180 = .ok (.iastore, 1) := by decide +kernel
theorem dX11_init_181 : decode cX11_init 181 = .ok (.dup, 1) := by decide +kernel
theorem dX11_init_182 : decode cX11_init 182 = .ok (.iconst 2, 1) := by decide +kernel
theorem dX11_init_183 : decode cX11_init 183 = .ok (.iconst 2, 1) := by decide +kernel
theorem dX11_init_184 : decode cX11_init 184 = .ok (.iastore, 1) := by decide +kernel
theorem dX11_init_185 : decode cX11_init 185 = .ok (.dup, 1) := by decide +kernel
theorem dX11_init_186 : decode cX11_init 186 = .ok (.iconst 3, 1) := by decide +kernel
theorem dX11_init_187 : decode cX11_init 187 = .ok (.iconst 3, 1) := by decide +kernel
theorem dX11_init_188 : decode cX11_init 188 = .ok (.iastore, 1) := by decide +kernel
theorem dX11_init_189 : decode cX11_init 189 = .ok (.dup, 1) := by decide +kernel
theorem dX11_init_190 : decode cX11_init 190 = .ok (.iconst 4, 1) := by decide +kernel
theorem dX11_init_191 : decode cX11_init 191 = .ok (.iconst 4, 1) := by decide +kernel
theorem dX11_init_192 : decode cX11_init 192 = .ok (.iastore, 1) := by decide +kernel
theorem dX11_init_193 : decode cX11_init 193 = .ok (.dup, 1) := by decide +kernel
theorem dX11_init_194 : decode cX11_init 194 = .ok (.iconst 5, 1) := by decide +kernel
theorem dX11_init_195 : decode cX11_init 195 = .ok (.iconst 5, 1) := by decide +kernel
theorem dX11_init_196 : decode cX11_init 196 = .ok (.iastore, 1) := by decide +kernel
theorem dX11_init_197 : decode cX11_init 197 = .ok (.dup, 1) := by decide +kernel
theorem dX11_init_198 : decode cX11_init 198 = .ok (.bipush 6, 2) := by decide +kernel
theorem dX11_init_200 : decode cX11_init 200 = .ok (.iconst 4, 1) := by decide +kernel
theorem dX11_init_201 : decode cX11_init 201 = .ok (.iastore, 1) := by decide +kernel
theorem dX11_init_202 : decode cX11_init 202 = .ok (.dup, 1) := by decide +kernel
theorem dX11_init_203 : decode cX11_init 203 = .ok (.bipush 7, 2) := by decide +kernel
theorem dX11_init_205 : decode cX11_init 205 = .ok (.iconst 4, 1) := by decide +kernel
theorem dX11_init_206 : decode cX11_init 206 = .ok (.iastore, 1) := by decide +kernel
theorem dX11_init_207 : decode cX11_init 207 = .ok (.dup, 1) := by decide +kernel
theorem dX11_init_208 : decode cX11_init 208 = .ok (.bipush 8, 2) := by decide +kernel
theorem dX11_init_210 : decode cX11_init 210 = .ok (.iconst 0, 1) := by decide +kernel
theorem dX11_init_211 : decode cX11_init 211 = .ok (.iastore, 1) := by decide +kernel
theorem dX11_init_212 : decode cX11_init 212 = .ok (.dup, 1) := by decide +kernel
theorem dX11_init_213 : decode cX11_init 213 = .ok (.bipush 9, 2) := by decide +kernel
theorem dX11_init_215 : decode cX11_init 215 = .ok (.iconst 1, 1) := by decide +kernel
theorem dX11_init_216 : decode cX11_init 216 = .ok (.iastore, 1) := by decide +kernel
theorem dX11_init_217 : decode cX11_init 217 = .ok (.dup, 1) := by decide +kernel
theorem dX11_init_218 : decode cX11_init 218 = .ok (.bipush 10, 2) := by decide +kernel
theorem dX11_init_220 : decode cX11_init 220 = .ok (.iconst 2, 1) := by decide +kernel
theorem dX11_init_221 : decode cX11_init 221 = .ok (.iastore, 1) := by decide +kernel
theorem dX11_init_222 : decode cX11_init 222 = .ok (.dup, 1) := by decide +kernel
theorem dX11_init_223 : decode cX11_init 223 = .ok (.bipush 11, 2) := by decide +kernel
theorem dX11_init_225 : decode cX11_init 225 = .ok (.iconst 3, 1) := by decide +kernel
theorem dX11_init_226 : decode cX11_init 226 = .ok (.iastore, 1) := by decide +kernel
theorem dX11_init_227 : decode cX11_init 227 = .ok (.dup, 1) := by decide +kernel
theorem dX11_init_228 : decode cX11_init 228 = .ok (.bipush 12, 2) := by decide +kernel
theorem dX11_init_230 : decode cX11_init 230 = .ok (.iconst 4, 1) := by decide +kernel
theorem dX11_init_231 : decode cX11_init 231 = .ok (.iastore, 1) := by decide +kernel
theorem dX11_init_232 : decode cX11_init 232 = .ok (.dup, 1) := by decide +kernel
theorem dX11_init_233 : decode cX11_init 233 = .ok (.bipush 13, 2) := by decide +kernel
theorem dX11_init_235 : decode cX11_init 235 = .ok (.iconst 5, 1) := by decide +kernel
theorem dX11_init_236 : decode cX11_init 236 = .ok (.iastore, 1) := by decide +kernel
theorem dX11_init_237 : decode cX11_init 237 = .ok (.dup, 1) := by decide +kernel
theorem dX11_init_238 : decode cX11_init 238 = .ok (.bipush 14, 2) := by decide +kernel
theorem dX11_init_240 : decode cX11_init 240 = .ok (.iconst 4, 1) := by decide +kernel
theorem dX11_init_241 : decode cX11_init 241 = .ok (.iastore, 1) := by decide +kernel
theorem dX11_init_242 : decode cX11_init 242 = .ok (.dup, 1) := by decide +kernel
theorem dX11_init_243 : decode cX11_init 243 = .ok (.bipush 15, 2) := by decide +kernel
theorem dX11_init_245 : decode cX11_init 245 = .ok (.iconst 4, 1) := by decide +kernel
theorem dX11_init_246 : decode cX11_init 246 = .ok (.iastore, 1) := by decide +kernel
theorem dX11_init_247 : decode cX11_init 247 = .ok (.putfield 71, 3) := by decide +kernel
theorem dX11_init_250 : decode cX11_init 250 = .ok (.aload_n 0, 1) := by decide +kernel
theorem dX11_init_251 : decode cX11_init 251 = .ok (.bipush 7, 2) := by decide +kernel
theorem dX11_init_253 : decode cX11_init 253 = .ok (.newarray .int, 2) := by decide +kernel
theorem dX11_init_255 : decode cX11_init 255 = .ok (.putfield 74, 3) := by decide +kernel
theorem dX11_init_258 : decode cX11_init 258 = .ok (.aload_n 0, 1) := by decide +kernel
theorem dX11_init_259 : decode cX11_init 259 = .ok (.bipush 21, 2) := by decide +kernel
theorem dX11_init_261 : decode cX11_init 261 = .ok (.newarray .int, 2) := by decide +kernel
theorem dX11_init_263 : decode cX11_init 263 = .ok (.putfield 77, 3) := by decide +kernel
theorem dX11_init_266 : decode cX11_init 266 = .ok (.aload_n 0, 1) := by decide +kernel
theorem dX11_init_267 : decode cX11_init 267 = .ok (.bipush 21, 2) := by decide +kernel
theorem dX11_init_269 : decode cX11_init 269 = .ok (.newarray .int, 2) := by decide +kernel
theorem dX11_init_271 : decode cX11_init 271 = .ok (.putfield 80, 3) := by decide +kernel
theorem dX11_init_274 : decode cX11_init 274 = .ok (.aload_n 0, 1) := by decide +kernel
theorem dX11_init_275 : decode cX11_init 275 = .ok (.sipush 4200, 3) := by decide +kernel
theorem dX11_init_278 : decode cX11_init 278 = .ok (.newarray .int, 2) := by decide +kernel
theorem dX11_init_280 : decode cX11_init 280 = .ok (.putfield 83, 3) := by decide +kernel
theorem dX11_init_283 : decode cX11_init 283 = .ok (.aload_n 0, 1) := by decide +kernel
theorem dX11_init_284 : decode cX11_init 284 = .ok (.sipush 4200, 3) := by decide +kernel
theorem dX11_init_287 : decode cX11_init 287 = .ok (.newarray .int, 2) := by decide +kernel
theorem dX11_init_289 : decode cX11_init 289 = .ok (.putfield 86, 3) := by decide +kernel
theorem dX11_init_292 : decode cX11_init 292 = .ok (.aload_n 0, 1) := by decide +kernel
theorem dX11_init_293 : decode cX11_init 293 = .ok (.bipush 80, 2) := by decide +kernel
theorem dX11_init_295 : decode cX11_init 295 = .ok (.newarray .int, 2) := by decide +kernel
theorem dX11_init_297 : decode cX11_init 297 = .ok (.putfield 89, 3) := by decide +kernel
theorem dX11_init_300 : decode cX11_init 300 = .ok (.aload_n 0, 1) := by decide +kernel
theorem dX11_init_301 : decode cX11_init 301 = .ok (.bipush 80, 2) := by decide +kernel
theorem dX11_init_303 : decode cX11_init 303 = .ok (.newarray .int, 2) := by decide +kernel
theorem dX11_init_305 : decode cX11_init 305 = .ok (.putfield 92, 3) := by decide +kernel
theorem dX11_init_308 : decode cX11_init 308 = .ok (.aload_n 0, 1) := by decide +kernel
theorem dX11_init_309 : decode cX11_init 309 = .ok (.bipush 90, 2) := by decide +kernel
theorem dX11_init_311 : decode cX11_init 311 = .ok (.newarray .int, 2) := by decide +kernel
theorem dX11_init_313 : decode cX11_init 313 = .ok (.putfield 95, 3) := by decide +kernel
theorem dX11_init_316 : decode cX11_init 316 = .ok (.aload_n 0, 1) := by decide +kernel
theorem dX11_init_317 : decode cX11_init 317 = .ok (.bipush 21, 2) := by decide +kernel
theorem dX11_init_319 : decode cX11_init 319 = .ok (.newarray .boolean, 2) := by decide +kernel
theorem dX11_init_321 : decode cX11_init 321 = .ok (.putfield 98, 3) := by decide +kernel
theorem dX11_init_324 : decode cX11_init 324 = .ok (.aload_n 0, 1) := by decide +kernel
theorem dX11_init_325 : decode cX11_init 325 = .ok (.sipush 200, 3) := by decide +kernel
theorem dX11_init_328 : decode cX11_init 328 = .ok (.newarray .int, 2) := by decide +kernel
theorem dX11_init_330 : decode cX11_init 330 = .ok (.putfield 101, 3) := by decide +kernel
theorem dX11_init_333 : decode cX11_init 333 = .ok (.aload_n 0, 1) := by decide +kernel
theorem dX11_init_334 : decode cX11_init 334 = .ok (.sipush 200, 3) := by decide +kernel
theorem dX11_init_337 : decode cX11_init 337 = .ok (.newarray .int, 2) := by decide +kernel
theorem dX11_init_339 : decode cX11_init 339 = .ok (.putfield 104, 3) := by decide +kernel
theorem dX11_init_342 : decode cX11_init 342 = .ok (.aload_n 0, 1) := by decide +kernel
theorem dX11_init_343 : decode cX11_init 343 = .ok (.sipush 200, 3) := by decide +kernel
theorem dX11_init_346 : decode cX11_init 346 = .ok (.newarray .int, 2) := by decide +kernel
theorem dX11_init_348 : decode cX11_init 348 = .ok (.putfield 107, 3) := by decide +kernel
theorem dX11_init_351 : decode cX11_init 351 = .ok (.aload_n 0, 1) := by decide +kernel
theorem dX11_init_352 : decode cX11_init 352 = .ok (.sipush 200, 3) := by decide +kernel
theorem dX11_init_355 : decode cX11_init 355 = .ok (.newarray .int, 2) := by decide +kernel
theorem dX11_init_357 : decode cX11_init 357 = .ok (.putfield 110, 3) := by decide +kernel
theorem dX11_init_360 : decode cX11_init 360 = .ok (.aload_n 0, 1) := by decide +kernel
theorem dX11_init_361 : decode cX11_init 361 = .ok (.sipush 200, 3) := by decide +kernel
theorem dX11_init_364 : decode cX11_init 364 = .ok (.newarray .int, 2) := by decide +kernel
theorem dX11_init_366 : decode cX11_init 366 = .ok (.putfield 113, 3) := by decide +kernel
theorem dX11_init_369 : decode cX11_init 369 = .ok (.aload_n 0, 1) := by decide +kernel
theorem dX11_init_370 : decode cX11_init 370 = .ok (.sipush 200, 3) := by decide +kernel
theorem dX11_init_373 : decode cX11_init 373 = .ok (.newarray .int, 2) := by decide +kernel
theorem dX11_init_375 : decode cX11_init 375 = .ok (.putfield 116, 3) := by decide +kernel
theorem dX11_init_378 : decode cX11_init 378 = .ok (.aload_n 0, 1) := by decide +kernel
theorem dX11_init_379 : decode cX11_init 379 = .ok (.bipush 120, 2) := by decide +kernel
theorem dX11_init_381 : decode cX11_init 381 = .ok (.newarray .boolean, 2) := by decide +kernel
theorem dX11_init_383 : decode cX11_init 383 = .ok (.putfield 119, 3) := by decide +kernel
theorem dX11_init_386 : decode cX11_init 386 = .ok (.aload_n 0, 1) := by decide +kernel
theorem dX11_init_387 : decode cX11_init 387 = .ok (.bipush 120, 2) := by decide +kernel
theorem dX11_init_389 : decode cX11_init 389 = .ok (.newarray .int, 2) := by decide +kernel
theorem dX11_init_391 : decode cX11_init 391 = .ok (.putfield 122, 3) := by decide +kernel
theorem dX11_init_394 : decode cX11_init 394 = .ok (.aload_n 0, 1) := by decide +kernel
theorem dX11_init_395 : decode cX11_init 395 = .ok (.bipush 12, 2) := by decide +kernel
theorem dX11_init_397 : decode cX11_init 397 = .ok (.newarray .int, 2) := by decide +kernel
theorem dX11_init_399 : decode cX11_init 399 = .ok (.putfield 125, 3) := by decide +kernel
theorem dX11_init_402 : decode cX11_init 402 = .ok (.aload_n 0, 1) := by decide +kernel
theorem dX11_init_403 : decode cX11_init 403 = .ok (.bipush 12, 2) := by decide +kernel
theorem dX11_init_405 : decode cX11_init 405 = .ok (.newarray .int, 2) := by decide +kernel
theorem dX11_init_407 : decode cX11_init 407 = .ok (.putfield 128, 3) := by decide +kernel
theorem dX11_init_410 : decode cX11_init 410 = .ok (.aload_n 0, 1) := by decide +kernel
theorem dX11_init_411 : decode cX11_init 411 = .ok (.bipush 8, 2) := by decide +kernel
theorem dX11_init_413 : decode cX11_init 413 = .ok (.newarray .int, 2) := by decide +kernel
theorem dX11_init_415 : decode cX11_init 415 = .ok (.putfield 131, 3) := by decide +kernel
theorem dX11_init_418 : decode cX11_init 418 = .ok (.aload_n 0, 1) := by decide +kernel
theorem dX11_init_419 : decode cX11_init 419 = .ok (.sipush 8192, 3) := by decide +kernel
theorem dX11_init_422 : decode cX11_init 422 = .ok (.newarray .int, 2) := by decide +kernel
theorem dX11_init_424 : decode cX11_init 424 = .ok (.putfield 134, 3) := by decide +kernel
theorem dX11_init_427 : decode cX11_init 427 = .ok (.aload_n 0, 1) := by decide +kernel
theorem dX11_init_428 : decode cX11_init 428 = .ok (.sipush 9216, 3) := by decide +kernel
theorem dX11_init_431 : decode cX11_init 431 = .ok (.newarray .long, 2) := by decide +kernel
theorem dX11_init_433 : decode cX11_init 433 = .ok (.putfield 137, 3) := by decide +kernel
theorem dX11_init_436 : decode cX11_init 436 = .ok (.aload_n 0, 1) := by decide +kernel
theorem dX11_init_437 : decode cX11_init 437 = .ok (.sipush 9216, 3) := by decide +kernel
theorem dX11_init_440 : decode cX11_init 440 = .ok (.newarray .int, 2) := by decide +kernel
theorem dX11_init_442 : decode cX11_init 442 = .ok (.putfield 140, 3) := by decide +kernel
theorem dX11_init_445 : decode cX11_init 445 = .ok (.aload_n 0, 1) := by decide +kernel
theorem dX11_init_446 : decode cX11_init 446 = .ok (.bipush 9, 2) := by decide +kernel
theorem dX11_init_448 : decode cX11_init 448 = .ok (.newarray .int, 2) := by decide +kernel
theorem dX11_init_450 : decode cX11_init 450 = .ok (.putfield 143, 3) := by decide +kernel
theorem dX11_init_453 : decode cX11_init 453 = .ok (.aload_n 0, 1) := by decide +kernel
theorem dX11_init_454 : decode cX11_init 454 = .ok (.bipush 9, 2) := by decide +kernel
theorem dX11_init_456 : decode cX11_init 456 = .ok (.newarray .int, 2) := by decide +kernel
theorem dX11_init_458 : decode cX11_init 458 = .ok (.putfield 146, 3) := by decide +kernel
theorem dX11_init_461 : decode cX11_init 461 = .ok (.aload_n 0, 1) := by decide +kernel
theorem dX11_init_462 : decode cX11_init 462 = .ok (.bipush 9, 2) := by decide +kernel
theorem dX11_init_464 : decode cX11_init 464 = .ok (.newarray .int, 2) := by decide +kernel
theorem dX11_init_466 : decode cX11_init 466 = .ok (.putfield 149, 3) := by decide +kernel
theorem dX11_init_469 : decode cX11_init 469 = .ok (.aload_n 0, 1) := by decide +kernel
theorem dX11_init_470 : decode cX11_init 470 = .ok (.bipush 9, 2) := by decide +kernel
theorem dX11_init_472 : decode cX11_init 472 = .ok (.newarray .int, 2) := by decide +kernel
theorem dX11_init_474 : decode cX11_init 474 = .ok (.putfield 152, 3) := by decide +kernel
theorem dX11_init_477 : decode cX11_init 477 = .ok (.aload_n 0, 1) := by decide +kernel
theorem dX11_init_478 : decode cX11_init 478 = .ok (.bipush 9, 2) := by decide +kernel
theorem dX11_init_480 : decode cX11_init 480 = .ok (.newarray .int, 2) := by decide +kernel
theorem dX11_init_482 : decode cX11_init 482 = .ok (.putfield 155, 3) := by decide +kernel
theorem dX11_init_485 : decode cX11_init 485 = .ok (.aload_n 0, 1) := by decide +kernel
theorem dX11_init_486 : decode cX11_init 486 = .ok (.bipush 9, 2) := by decide +kernel
theorem dX11_init_488 : decode cX11_init 488 = .ok (.newarray .int, 2) := by decide +kernel
theorem dX11_init_490 : decode cX11_init 490 = .ok (.putfield 158, 3) := by decide +kernel
theorem dX11_init_493 : decode cX11_init 493 = .ok (.aload_n 0, 1) := by decide +kernel
theorem dX11_init_494 : decode cX11_init 494 = .ok (.iconst 2, 1) := by decide +kernel
theorem dX11_init_495 : decode cX11_init 495 = .ok (.putfield 161, 3) := by decide +kernel
theorem dX11_init_498 : decode cX11_init 498 = .ok (.return_, 1) := by decide +kernel
theorem dX11_sign_0 : decode cX11_sign 0 = .ok (.iload_n 1, 1) := by decide +kernel
theorem dX11_sign_1 : decode cX11_sign 1 = .ok (.aload_n 0, 1) := by decide +kernel
theorem dX11_sign_2 : decode cX11_sign 2 = .ok (.getfield 164, 3) := by decide +kernel
theorem dX11_sign_5 : decode cX11_sign 5 = .ok (.if_icmp .ge 16, 3) := by decide +kernel
theorem dX11_sign_8 : decode cX11_sign 8 = .ok (.aload_n 0, 1) := by decide +kernel
theorem dX11_sign_9 : decode cX11_sign 9 = .ok (.getfield 13, 3) := by decide +kernel
theorem dX11_sign_12 : decode cX11_sign 12 = .ok (.iload_n 1, 1) := by decide +kernel
theorem dX11_sign_13 : decode cX11_sign 13 = .ok (.baload, 1) := by decide +kernel
theorem dX11_sign_14 : decode cX11_sign 14 = .ok (.sipush 255, 3) := by decide +kernel
theorem dX11_sign_17 : decode cX11_sign 17 = .ok (.iand, 1) := by decide +kernel
theorem dX11_sign_18 : decode cX11_sign 18 = .ok (.goto 4, 3) := by decide +kernel
theorem dX11_sign_21 : decode cX11_sign 21 = .ok (.iconst 0, 1) := by decide +kernel
theorem dX11_sign_22 : decode cX11_sign 22 = .ok (.ireturn, 1) := by decide +kernel
theorem dX11_isLetter_0 : decode cX11_isLetter 0 = .ok (.iload_n 0, 1) := by decide +kernel
theorem dX11_isLetter_1 : decode cX11_isLetter 1 = .ok (.bipush 97, 2) := by decide +kernel
theorem dX11_isLetter_3 : decode cX11_isLetter 3 = .ok (.if_icmp .lt 13, 3) := by decide +kernel
theorem dX11_isLetter_6 : decode cX11_isLetter 6 = .ok (.iload_n 0, 1) := by decide +kernel
theorem dX11_isLetter_7 : decode cX11_isLetter 7 = .ok (.bipush 122, 2) := by decide +kernel
theorem dX11_isLetter_9 : decode cX11_isLetter 9 = .ok (.if_icmp .gt 7, 3) := by decide +kernel
theorem dX11_isLetter_12 : decode cX11_isLetter 12 = .ok (.iconst 1, 1) := by decide +kernel
theorem dX11_isLetter_13 : decode cX11_isLetter 13 = .ok (.goto 4, 3) := by decide +kernel
theorem dX11_isLetter_16 : decode cX11_isLetter 16 = .ok (.iconst 0, 1) := by decide +kernel
theorem dX11_isLetter_17 : decode cX11_isLetter 17 = .ok (.ireturn, 1) := by decide +kernel
theorem dX11_isDigit_0 : decode cX11_isDigit 0 = .ok (.iload_n 0, 1) := by decide +kernel
theorem dX11_isDigit_1 : decode cX11_isDigit 1 = .ok (.bipush 48, 2) := by decide +kernel
theorem dX11_isDigit_3 : decode cX11_isDigit 3 = .ok (.if_icmp .lt 13, 3) := by decide +kernel
theorem dX11_isDigit_6 : decode cX11_isDigit 6 = .ok (.iload_n 0, 1) := by decide +kernel
theorem dX11_isDigit_7 : decode cX11_isDigit 7 = .ok (.bipush 57, 2) := by decide +kernel
theorem dX11_isDigit_9 : decode cX11_isDigit 9 = .ok (.if_icmp .gt 7, 3) := by decide +kernel
theorem dX11_isDigit_12 : decode cX11_isDigit 12 = .ok (.iconst 1, 1) := by decide +kernel
theorem dX11_isDigit_13 : decode cX11_isDigit 13 = .ok (.goto 4, 3) := by decide +kernel
theorem dX11_isDigit_16 : decode cX11_isDigit 16 = .ok (.iconst 0, 1) := by decide +kernel
theorem dX11_isDigit_17 : decode cX11_isDigit 17 = .ok (.ireturn, 1) := by decide +kernel
theorem dX11_fails_0 : decode cX11_fails 0 = .ok (.aload_n 0, 1) := by decide +kernel
theorem dX11_fails_1 : decode cX11_fails 1 = .ok (.getfield 167, 3) := by decide +kernel
theorem dX11_fails_4 : decode cX11_fails 4 = .ok (.ifCond .le 4, 3) := by decide +kernel
theorem dX11_fails_7 : decode cX11_fails 7 = .ok (.return_, 1) := by decide +kernel
theorem dX11_fails_8 : decode cX11_fails 8 = .ok (.aload_n 0, 1) := by decide +kernel
theorem dX11_fails_9 : decode cX11_fails 9 = .ok (.iload_n 1, 1) := by decide +kernel
theorem dX11_fails_10 : decode cX11_fails 10 = .ok (.putfield 167, 3) := by decide +kernel
theorem dX11_fails_13 : decode cX11_fails 13 = .ok (.aload_n 0, 1) := by decide +kernel
theorem dX11_fails_14 : decode cX11_fails 14 = .ok (.iload_n 2, 1) := by decide +kernel
theorem dX11_fails_15 : decode cX11_fails 15 = .ok (.putfield 16, 3) := by decide +kernel
theorem dX11_fails_18 : decode cX11_fails 18 = .ok (.return_, 1) := by decide +kernel
theorem dX11_isGood_0 : decode cX11_isGood 0 = .ok (.aload_n 0, 1) := by decide +kernel
theorem dX11_isGood_1 : decode cX11_isGood 1 = .ok (.getfield 167, 3) := by decide +kernel
theorem dX11_isGood_4 : decode cX11_isGood 4 = .ok (.ifCond .ne 7, 3) := by decide +kernel
theorem dX11_isGood_7 : decode cX11_isGood 7 = .ok (.iconst 1, 1) := by decide +kernel
theorem dX11_isGood_8 : decode cX11_isGood 8 = .ok (.goto 4, 3) := by decide +kernel
theorem dX11_isGood_11 : decode cX11_isGood 11 = .ok (.iconst 0, 1) := by decide +kernel
theorem dX11_isGood_12 : decode cX11_isGood 12 = .ok (.ireturn, 1) := by decide +kernel
theorem dX11_isKept_0 : decode cX11_isKept 0 = .ok (.lload_n 0, 1) := by decide +kernel
theorem dX11_isKept_1 : decode cX11_isKept 1 = .ok (.ldc2_w 170, 3) := by decide +kernel
theorem dX11_isKept_4 : decode cX11_isKept 4 = .ok (.lcmp, 1) := by decide +kernel
theorem dX11_isKept_5 : decode cX11_isKept 5 = .ok (.ifCond .eq 83, 3) := by decide +kernel
theorem dX11_isKept_8 : decode cX11_isKept 8 = .ok (.lload_n 0, 1) := by decide +kernel
theorem dX11_isKept_9 : decode cX11_isKept 9 = .ok (.ldc2_w 172, 3) := by decide +kernel
theorem dX11_isKept_12 : decode cX11_isKept 12 = .ok (.lcmp, 1) := by decide +kernel
theorem dX11_isKept_13 : decode cX11_isKept 13 = .ok (.ifCond .eq 75, 3) := by decide +kernel
theorem dX11_isKept_16 : decode cX11_isKept 16 = .ok (.lload_n 0, 1) := by decide +kernel
theorem dX11_isKept_17 : decode cX11_isKept 17 = .ok (.ldc2_w 174, 3) := by decide +kernel
theorem dX11_isKept_20 : decode cX11_isKept 20 = .ok (.lcmp, 1) := by decide +kernel
theorem dX11_isKept_21 : decode cX11_isKept 21 = .ok (.ifCond .eq 67, 3) := by decide +kernel
theorem dX11_isKept_24 : decode cX11_isKept 24 = .ok (.lload_n 0, 1) := by decide +kernel
theorem dX11_isKept_25 : decode cX11_isKept 25 = .ok (.ldc2_w 176, 3) := by decide +kernel
theorem dX11_isKept_28 : decode cX11_isKept 28 = .ok (.lcmp, 1) := by decide +kernel
theorem dX11_isKept_29 : decode cX11_isKept 29 = .ok (.ifCond .eq 59, 3) := by decide +kernel
theorem dX11_isKept_32 : decode cX11_isKept 32 = .ok (.lload_n 0, 1) := by decide +kernel
theorem dX11_isKept_33 : decode cX11_isKept 33 = .ok (.ldc2_w 178, 3) := by decide +kernel
theorem dX11_isKept_36 : decode cX11_isKept 36 = .ok (.lcmp, 1) := by decide +kernel
theorem dX11_isKept_37 : decode cX11_isKept 37 = .ok (.ifCond .eq 51, 3) := by decide +kernel
theorem dX11_isKept_40 : decode cX11_isKept 40 = .ok (.lload_n 0, 1) := by decide +kernel
theorem dX11_isKept_41 : decode cX11_isKept 41 = .ok (.ldc2_w 180, 3) := by decide +kernel
theorem dX11_isKept_44 : decode cX11_isKept 44 = .ok (.lcmp, 1) := by decide +kernel
theorem dX11_isKept_45 : decode cX11_isKept 45 = .ok (.ifCond .eq 43, 3) := by decide +kernel
theorem dX11_isKept_48 : decode cX11_isKept 48 = .ok (.lload_n 0, 1) := by decide +kernel
theorem dX11_isKept_49 : decode cX11_isKept 49 = .ok (.ldc2_w 182, 3) := by decide +kernel
theorem dX11_isKept_52 : decode cX11_isKept 52 = .ok (.lcmp, 1) := by decide +kernel
theorem dX11_isKept_53 : decode cX11_isKept 53 = .ok (.ifCond .eq 35, 3) := by decide +kernel
theorem dX11_isKept_56 : decode cX11_isKept 56 = .ok (.lload_n 0, 1) := by decide +kernel
theorem dX11_isKept_57 : decode cX11_isKept 57 = .ok (.ldc2_w 184, 3) := by decide +kernel
theorem dX11_isKept_60 : decode cX11_isKept 60 = .ok (.lcmp, 1) := by decide +kernel
theorem dX11_isKept_61 : decode cX11_isKept 61 = .ok (.ifCond .eq 27, 3) := by decide +kernel
theorem dX11_isKept_64 : decode cX11_isKept 64 = .ok (.lload_n 0, 1) := by decide +kernel
theorem dX11_isKept_65 : decode cX11_isKept 65 = .ok (.ldc2_w 186, 3) := by decide +kernel
theorem dX11_isKept_68 : decode cX11_isKept 68 = .ok (.lcmp, 1) := by decide +kernel
theorem dX11_isKept_69 : decode cX11_isKept 69 = .ok (.ifCond .eq 19, 3) := by decide +kernel
theorem dX11_isKept_72 : decode cX11_isKept 72 = .ok (.lload_n 0, 1) := by decide +kernel
theorem dX11_isKept_73 : decode cX11_isKept 73 = .ok (.ldc2_w 188, 3) := by decide +kernel
theorem dX11_isKept_76 : decode cX11_isKept 76 = .ok (.lcmp, 1) := by decide +kernel
theorem dX11_isKept_77 : decode cX11_isKept 77 = .ok (.ifCond .eq 11, 3) := by decide +kernel
theorem dX11_isKept_80 : decode cX11_isKept 80 = .ok (.lload_n 0, 1) := by decide +kernel
theorem dX11_isKept_81 : decode cX11_isKept 81 = .ok (.ldc2_w 190, 3) := by decide +kernel
theorem dX11_isKept_84 : decode cX11_isKept 84 = .ok (.lcmp, 1) := by decide +kernel
theorem dX11_isKept_85 : decode cX11_isKept 85 = .ok (.ifCond .ne 7, 3) := by decide +kernel
theorem dX11_isKept_88 : decode cX11_isKept 88 = .ok (.iconst 1, 1) := by decide +kernel
theorem dX11_isKept_89 : decode cX11_isKept 89 = .ok (.goto 4, 3) := by decide +kernel
theorem dX11_isKept_92 : decode cX11_isKept 92 = .ok (.iconst 0, 1) := by decide +kernel
theorem dX11_isKept_93 : decode cX11_isKept 93 = .ok (.istore_n 2, 1) := by decide +kernel
theorem dX11_isKept_94 : decode cX11_isKept 94 = .ok (.iload_n 2, 1) := by decide +kernel
theorem dX11_isKept_95 : decode cX11_isKept 95 = .ok (.ifCond .ne 83, 3) := by decide +kernel
theorem dX11_isKept_98 : decode cX11_isKept 98 = .ok (.lload_n 0, 1) := by decide +kernel
theorem dX11_isKept_99 : decode cX11_isKept 99 = .ok (.ldc2_w 192, 3) := by decide +kernel
theorem dX11_isKept_102 : decode cX11_isKept 102 = .ok (.lcmp, 1) := by decide +kernel
theorem dX11_isKept_103 : decode cX11_isKept 103 = .ok (.ifCond .eq 75, 3) := by decide +kernel
theorem dX11_isKept_106 : decode cX11_isKept 106 = .ok (.lload_n 0, 1) := by decide +kernel
theorem dX11_isKept_107 : decode cX11_isKept 107 = .ok (.ldc2_w 194, 3) := by decide +kernel
theorem dX11_isKept_110 : decode cX11_isKept 110 = .ok (.lcmp, 1) := by decide +kernel
theorem dX11_isKept_111 : decode cX11_isKept 111 = .ok (.ifCond .eq 67, 3) := by decide +kernel
theorem dX11_isKept_114 : decode cX11_isKept 114 = .ok (.lload_n 0, 1) := by decide +kernel
theorem dX11_isKept_115 : decode cX11_isKept 115 = .ok (.ldc2_w 196, 3) := by decide +kernel
theorem dX11_isKept_118 : decode cX11_isKept 118 = .ok (.lcmp, 1) := by decide +kernel
theorem dX11_isKept_119 : decode cX11_isKept 119 = .ok (.ifCond .eq 59, 3) := by decide +kernel
theorem dX11_isKept_122 : decode cX11_isKept 122 = .ok (.lload_n 0, 1) := by decide +kernel
theorem dX11_isKept_123 : decode cX11_isKept 123 = .ok (.ldc2_w 198, 3) := by decide +kernel
theorem dX11_isKept_126 : decode cX11_isKept 126 = .ok (.lcmp, 1) := by decide +kernel
theorem dX11_isKept_127 : decode cX11_isKept 127 = .ok (.ifCond .eq 51, 3) := by decide +kernel
theorem dX11_isKept_130 : decode cX11_isKept 130 = .ok (.lload_n 0, 1) := by decide +kernel
theorem dX11_isKept_131 : decode cX11_isKept 131 = .ok (.ldc2_w 200, 3) := by decide +kernel
theorem dX11_isKept_134 : decode cX11_isKept 134 = .ok (.lcmp, 1) := by decide +kernel
theorem dX11_isKept_135 : decode cX11_isKept 135 = .ok (.ifCond .eq 43, 3) := by decide +kernel
theorem dX11_isKept_138 : decode cX11_isKept 138 = .ok (.lload_n 0, 1) := by decide +kernel
theorem dX11_isKept_139 : decode cX11_isKept 139 = .ok (.ldc2_w 202, 3) := by decide +kernel
theorem dX11_isKept_142 : decode cX11_isKept 142 = .ok (.lcmp, 1) := by decide +kernel
theorem dX11_isKept_143 : decode cX11_isKept 143 = .ok (.ifCond .eq 35, 3) := by decide +kernel
theorem dX11_isKept_146 : decode cX11_isKept 146 = .ok (.lload_n 0, 1) := by decide +kernel
theorem dX11_isKept_147 : decode cX11_isKept 147 = .ok (.ldc2_w 204, 3) := by decide +kernel
theorem dX11_isKept_150 : decode cX11_isKept 150 = .ok (.lcmp, 1) := by decide +kernel
theorem dX11_isKept_151 : decode cX11_isKept 151 = .ok (.ifCond .eq 27, 3) := by decide +kernel
theorem dX11_isKept_154 : decode cX11_isKept 154 = .ok (.lload_n 0, 1) := by decide +kernel
theorem dX11_isKept_155 : decode cX11_isKept 155 = .ok (.ldc2_w 206, 3) := by decide +kernel
theorem dX11_isKept_158 : decode cX11_isKept 158 = .ok (.lcmp, 1) := by decide +kernel
theorem dX11_isKept_159 : decode cX11_isKept 159 = .ok (.ifCond .eq 19, 3) := by decide +kernel
theorem dX11_isKept_162 : decode cX11_isKept 162 = .ok (.lload_n 0, 1) := by decide +kernel
theorem dX11_isKept_163 : decode cX11_isKept 163 = .ok (.ldc2_w 208, 3) := by decide +kernel
theorem dX11_isKept_166 : decode cX11_isKept 166 = .ok (.lcmp, 1) := by decide +kernel
theorem dX11_isKept_167 : decode cX11_isKept 167 = .ok (.ifCond .eq 11, 3) := by decide +kernel
theorem dX11_isKept_170 : decode cX11_isKept 170 = .ok (.lload_n 0, 1) := by decide +kernel
theorem dX11_isKept_171 : decode cX11_isKept 171 = .ok (.ldc2_w 210, 3) := by decide +kernel
theorem dX11_isKept_174 : decode cX11_isKept 174 = .ok (.lcmp, 1) := by decide +kernel
theorem dX11_isKept_175 : decode cX11_isKept 175 = .ok (.ifCond .ne 7, 3) := by decide +kernel
theorem dX11_isKept_178 : decode cX11_isKept 178 = .ok (.iconst 1, 1) := by decide +kernel
theorem dX11_isKept_179 : decode cX11_isKept 179 = .ok (.goto 4, 3) := by decide +kernel
theorem dX11_isKept_182 : decode cX11_isKept 182 = .ok (.iconst 0, 1) := by decide +kernel
theorem dX11_isKept_183 : decode cX11_isKept 183 = .ok (.ireturn, 1) := by decide +kernel
theorem dX11_isSign_0 : decode cX11_isSign 0 = .ok (.iload_n 0, 1) := by decide +kernel
theorem dX11_isSign_1 : decode cX11_isSign 1 = .ok (.bipush 59, 2) := by decide +kernel
theorem dX11_isSign_3 : decode cX11_isSign 3 = .ok (.if_icmp .eq 51, 3) := by decide +kernel
theorem dX11_isSign_6 : decode cX11_isSign 6 = .ok (.iload_n 0, 1) := by decide +kernel
theorem dX11_isSign_7 : decode cX11_isSign 7 = .ok (.bipush 40, 2) := by decide +kernel
theorem dX11_isSign_9 : decode cX11_isSign 9 = .ok (.if_icmp .eq 45, 3) := by decide +kernel
theorem dX11_isSign_12 : decode cX11_isSign 12 = .ok (.iload_n 0, 1) := by decide +kernel
theorem dX11_isSign_13 : decode cX11_isSign 13 = .ok (.bipush 41, 2) := by decide +kernel
theorem dX11_isSign_15 : decode cX11_isSign 15 = .ok (.if_icmp .eq 39, 3) := by decide +kernel
theorem dX11_isSign_18 : decode cX11_isSign 18 = .ok (.iload_n 0, 1) := by decide +kernel
theorem dX11_isSign_19 : decode cX11_isSign 19 = .ok (.bipush 60, 2) := by decide +kernel
theorem dX11_isSign_21 : decode cX11_isSign 21 = .ok (.if_icmp .eq 33, 3) := by decide +kernel
theorem dX11_isSign_24 : decode cX11_isSign 24 = .ok (.iload_n 0, 1) := by decide +kernel
theorem dX11_isSign_25 : decode cX11_isSign 25 = .ok (.bipush 62, 2) := by decide +kernel
theorem dX11_isSign_27 : decode cX11_isSign 27 = .ok (.if_icmp .eq 27, 3) := by decide +kernel
theorem dX11_isSign_30 : decode cX11_isSign 30 = .ok (.iload_n 0, 1) := by decide +kernel
theorem dX11_isSign_31 : decode cX11_isSign 31 = .ok (.bipush 61, 2) := by decide +kernel
theorem dX11_isSign_33 : decode cX11_isSign 33 = .ok (.if_icmp .eq 21, 3) := by decide +kernel
theorem dX11_isSign_36 : decode cX11_isSign 36 = .ok (.iload_n 0, 1) := by decide +kernel
theorem dX11_isSign_37 : decode cX11_isSign 37 = .ok (.bipush 43, 2) := by decide +kernel
theorem dX11_isSign_39 : decode cX11_isSign 39 = .ok (.if_icmp .eq 15, 3) := by decide +kernel
theorem dX11_isSign_42 : decode cX11_isSign 42 = .ok (.iload_n 0, 1) := by decide +kernel
theorem dX11_isSign_43 : decode cX11_isSign 43 = .ok (.bipush 45, 2) := by decide +kernel
theorem dX11_isSign_45 : decode cX11_isSign 45 = .ok (.if_icmp .eq 9, 3) := by decide +kernel
theorem dX11_isSign_48 : decode cX11_isSign 48 = .ok (.iload_n 0, 1) := by decide +kernel
theorem dX11_isSign_49 : decode cX11_isSign 49 = .ok (.bipush 42, 2) := by decide +kernel
theorem dX11_isSign_51 : decode cX11_isSign 51 = .ok (.if_icmp .ne 7, 3) := by decide +kernel
theorem dX11_isSign_54 : decode cX11_isSign 54 = .ok (.iconst 1, 1) := by decide +kernel
theorem dX11_isSign_55 : decode cX11_isSign 55 = .ok (.goto 4, 3) := by decide +kernel
theorem dX11_isSign_58 : decode cX11_isSign 58 = .ok (.iconst 0, 1) := by decide +kernel
theorem dX11_isSign_59 : decode cX11_isSign 59 = .ok (.ireturn, 1) := by decide +kernel
theorem dX11_next_0 : decode cX11_next 0 = .ok (.aload_n 0, 1) := by decide +kernel
theorem dX11_next_1 : decode cX11_next 1 = .ok (.aload_n 0, 1) := by decide +kernel
theorem dX11_next_2 : decode cX11_next 2 = .ok (.getfield 212, 3) := by decide +kernel
theorem dX11_next_5 : decode cX11_next 5 = .ok (.putfield 215, 3) := by decide +kernel
theorem dX11_next_8 : decode cX11_next 8 = .ok (.aload_n 0, 1) := by decide +kernel
theorem dX11_next_9 : decode cX11_next 9 = .ok (.getfield 215, 3) := by decide +kernel
theorem dX11_next_12 : decode cX11_next 12 = .ok (.aload_n 0, 1) := by decide +kernel
theorem dX11_next_13 : decode cX11_next 13 = .ok (.getfield 164, 3) := by decide +kernel
theorem dX11_next_16 : decode cX11_next 16 = .ok (.if_icmp .ge 42, 3) := by decide +kernel
theorem dX11_next_19 : decode cX11_next 19 = .ok (.aload_n 0, 1) := by decide +kernel
theorem dX11_next_20 : decode cX11_next 20 = .ok (.aload_n 0, 1) := by decide +kernel
theorem dX11_next_21 : decode cX11_next 21 = .ok (.getfield 215, 3) := by decide +kernel
theorem dX11_next_24 : decode cX11_next 24 = .ok (.invokevirtual 218, 3) := by decide +kernel
theorem dX11_next_27 : decode cX11_next 27 = .ok (.bipush 32, 2) := by decide +kernel
theorem dX11_next_29 : decode cX11_next 29 = .ok (.if_icmp .eq 16, 3) := by decide +kernel
theorem dX11_next_32 : decode cX11_next 32 = .ok (.aload_n 0, 1) := by decide +kernel
theorem dX11_next_33 : decode cX11_next 33 = .ok (.aload_n 0, 1) := by decide +kernel
theorem dX11_next_34 : decode cX11_next 34 = .ok (.getfield 215, 3) := by decide +kernel
theorem dX11_next_37 : decode cX11_next 37 = .ok (.invokevirtual 218, 3) := by decide +kernel
theorem dX11_next_40 : decode cX11_next 40 = .ok (.bipush 10, 2) := by decide +kernel
theorem dX11_next_42 : decode cX11_next 42 = .ok (.if_icmp .ne 16, 3) := by decide +kernel
theorem dX11_next_45 : decode cX11_next 45 = .ok (.aload_n 0, 1) := by decide +kernel
theorem dX11_next_46 : decode cX11_next 46 = .ok (.dup, 1) := by decide +kernel
theorem dX11_next_47 : decode cX11_next 47 = .ok (.getfield 215, 3) := by decide +kernel
theorem dX11_next_50 : decode cX11_next 50 = .ok (.iconst 1, 1) := by decide +kernel
theorem dX11_next_51 : decode cX11_next 51 = .ok (.iadd, 1) := by decide +kernel
theorem dX11_next_52 : decode cX11_next 52 = .ok (.putfield 215, 3) := by decide +kernel
theorem dX11_next_55 : decode cX11_next 55 = .ok (.goto (-47), 3) := by decide +kernel
theorem dX11_next_58 : decode cX11_next 58 = .ok (.aload_n 0, 1) := by decide +kernel
theorem dX11_next_59 : decode cX11_next 59 = .ok (.aload_n 0, 1) := by decide +kernel
theorem dX11_next_60 : decode cX11_next 60 = .ok (.getfield 215, 3) := by decide +kernel
theorem dX11_next_63 : decode cX11_next 63 = .ok (.invokevirtual 218, 3) := by decide +kernel
theorem dX11_next_66 : decode cX11_next 66 = .ok (.istore_n 1, 1) := by decide +kernel
theorem dX11_next_67 : decode cX11_next 67 = .ok (.aload_n 0, 1) := by decide +kernel
theorem dX11_next_68 : decode cX11_next 68 = .ok (.aload_n 0, 1) := by decide +kernel
theorem dX11_next_69 : decode cX11_next 69 = .ok (.getfield 215, 3) := by decide +kernel
theorem dX11_next_72 : decode cX11_next 72 = .ok (.iconst 1, 1) := by decide +kernel
theorem dX11_next_73 : decode cX11_next 73 = .ok (.iadd, 1) := by decide +kernel
theorem dX11_next_74 : decode cX11_next 74 = .ok (.putfield 212, 3) := by decide +kernel
theorem dX11_next_77 : decode cX11_next 77 = .ok (.aload_n 0, 1) := by decide +kernel
theorem dX11_next_78 : decode cX11_next 78 = .ok (.getfield 215, 3) := by decide +kernel
theorem dX11_next_81 : decode cX11_next 81 = .ok (.aload_n 0, 1) := by decide +kernel
theorem dX11_next_82 : decode cX11_next 82 = .ok (.getfield 164, 3) := by decide +kernel
theorem dX11_next_85 : decode cX11_next 85 = .ok (.if_icmp .lt 27, 3) := by decide +kernel
theorem dX11_next_88 : decode cX11_next 88 = .ok (.aload_n 0, 1) := by decide +kernel
theorem dX11_next_89 : decode cX11_next 89 = .ok (.iconst 0, 1) := by decide +kernel
theorem dX11_next_90 : decode cX11_next 90 = .ok (.putfield 222, 3) := by decide +kernel
theorem dX11_next_93 : decode cX11_next 93 = .ok (.aload_n 0, 1) := by decide +kernel
theorem dX11_next_94 : decode cX11_next 94 = .ok (.aload_n 0, 1) := by decide +kernel
theorem dX11_next_95 : decode cX11_next 95 = .ok (.getfield 164, 3) := by decide +kernel
theorem dX11_next_98 : decode cX11_next 98 = .ok (.putfield 215, 3) := by decide +kernel
theorem dX11_next_101 : decode cX11_next 101 = .ok (.aload_n 0, 1) := by decide +kernel
theorem dX11_next_102 : decode cX11_next 102 = .ok (.aload_n 0, 1) := by decide +kernel
theorem dX11_next_103 : decode cX11_next 103 = .ok (.getfield 164, 3) := by decide +kernel
theorem dX11_next_106 : decode cX11_next 106 = .ok (.putfield 212, 3) := by decide +kernel
theorem dX11_next_109 : decode cX11_next 109 = .ok (.goto 268, 3) := by decide +kernel
theorem dX11_next_112 : decode cX11_next 112 = .ok (.iload_n 1, 1) := by decide +kernel
theorem dX11_next_113 : decode cX11_next 113 = .ok (.invokestatic 225, 3) := by decide +kernel
theorem dX11_next_116 : decode cX11_next 116 = .ok (.ifCond .eq 123, 3) := by decide +kernel
theorem dX11_next_119 : decode cX11_next 119 = .ok (.aload_n 0, 1) := by decide +kernel
theorem dX11_next_120 : decode cX11_next 120 = .ok (.aload_n 0, 1) := by decide +kernel
theorem dX11_next_121 : decode cX11_next 121 = .ok (.getfield 212, 3) := by decide +kernel
theorem dX11_next_124 : decode cX11_next 124 = .ok (.invokevirtual 218, 3) := by decide +kernel
theorem dX11_next_127 : decode cX11_next 127 = .ok (.invokestatic 225, 3) := by decide +kernel
theorem dX11_next_130 : decode cX11_next 130 = .ok (.ifCond .eq 16, 3) := by decide +kernel
theorem dX11_next_133 : decode cX11_next 133 = .ok (.aload_n 0, 1) := by decide +kernel
theorem dX11_next_134 : decode cX11_next 134 = .ok (.dup, 1) := by decide +kernel
theorem dX11_next_135 : decode cX11_next 135 = .ok (.getfield 212, 3) := by decide +kernel
theorem dX11_next_138 : decode cX11_next 138 = .ok (.iconst 1, 1) := by decide +kernel
theorem dX11_next_139 : decode cX11_next 139 = .ok (.iadd, 1) := by decide +kernel
theorem dX11_next_140 : decode cX11_next 140 = .ok (.putfield 212, 3) := by decide +kernel
theorem dX11_next_143 : decode cX11_next 143 = .ok (.goto (-24), 3) := by decide +kernel
theorem dX11_next_146 : decode cX11_next 146 = .ok (.aload_n 0, 1) := by decide +kernel
theorem dX11_next_147 : decode cX11_next 147 = .ok (.lconst 0, 1) := by decide +kernel
theorem dX11_next_148 : decode cX11_next 148 = .ok (.putfield 229, 3) := by decide +kernel
theorem dX11_next_151 : decode cX11_next 151 = .ok (.aload_n 0, 1) := by decide +kernel
theorem dX11_next_152 : decode cX11_next 152 = .ok (.getfield 215, 3) := by decide +kernel
theorem dX11_next_155 : decode cX11_next 155 = .ok (.istore_n 2, 1) := by decide +kernel
theorem dX11_next_156 : decode cX11_next 156 = .ok (.iload_n 2, 1) := by decide +kernel
theorem dX11_next_157 : decode cX11_next 157 = .ok (.aload_n 0, 1) := by decide +kernel
theorem dX11_next_158 : decode cX11_next 158 = .ok (.getfield 212, 3) := by decide +kernel
theorem dX11_next_161 : decode cX11_next 161 = .ok (.if_icmp .ge 38, 3) := by decide +kernel
theorem dX11_next_164 : decode cX11_next 164 = .ok (.iload_n 2, 1) := by decide +kernel
theorem dX11_next_165 : decode cX11_next 165 = .ok (.aload_n 0, 1) := by decide +kernel
theorem dX11_next_166 : decode cX11_next 166 = .ok (.getfield 215, 3) := by decide +kernel
theorem dX11_next_169 : decode cX11_next 169 = .ok (.bipush 8, 2) := by decide +kernel
theorem dX11_next_171 : decode cX11_next 171 = .ok (.iadd, 1) := by decide +kernel
theorem dX11_next_172 : decode cX11_next 172 = .ok (.if_icmp .ge 27, 3) := by decide +kernel
theorem dX11_next_175 : decode cX11_next 175 = .ok (.aload_n 0, 1) := by decide +kernel
theorem dX11_next_176 : decode cX11_next 176 = .ok (.aload_n 0, 1) := by decide +kernel
theorem dX11_next_177 : decode cX11_next 177 = .ok (.getfield 229, 3) := by decide +kernel
theorem dX11_next_180 : decode cX11_next 180 = .ok (.bipush 8, 2) := by decide +kernel
theorem dX11_next_182 : decode cX11_next 182 = .ok (.lshl, 1) := by decide +kernel
theorem dX11_next_183 : decode cX11_next 183 = .ok (.aload_n 0, 1) := by decide +kernel
theorem dX11_next_184 : decode cX11_next 184 = .ok (.iload_n 2, 1) := by decide +kernel
theorem dX11_next_185 : decode cX11_next 185 = .ok (.invokevirtual 218, 3) := by decide +kernel
theorem dX11_next_188 : decode cX11_next 188 = .ok (.i2l, 1) := by decide +kernel
theorem dX11_next_189 : decode cX11_next 189 = .ok (.lor, 1) := by decide +kernel
theorem dX11_next_190 : decode cX11_next 190 = .ok (.putfield 229, 3) := by decide +kernel
theorem dX11_next_193 : decode cX11_next 193 = .ok (.iinc 2 1, 3) := by decide +kernel
theorem dX11_next_196 : decode cX11_next 196 = .ok (.goto (-40), 3) := by decide +kernel
theorem dX11_next_199 : decode cX11_next 199 = .ok (.aload_n 0, 1) := by decide +kernel
theorem dX11_next_200 : decode cX11_next 200 = .ok (.aload_n 0, 1) := by decide +kernel
theorem dX11_next_201 : decode cX11_next 201 = .ok (.getfield 212, 3) := by decide +kernel
theorem dX11_next_204 : decode cX11_next 204 = .ok (.aload_n 0, 1) := by decide +kernel
theorem dX11_next_205 : decode cX11_next 205 = .ok (.getfield 215, 3) := by decide +kernel
theorem dX11_next_208 : decode cX11_next 208 = .ok (.isub, 1) := by decide +kernel
theorem dX11_next_209 : decode cX11_next 209 = .ok (.bipush 8, 2) := by decide +kernel
theorem dX11_next_211 : decode cX11_next 211 = .ok (.if_icmp .le 7, 3) := by decide +kernel
theorem dX11_next_214 : decode cX11_next 214 = .ok (.iconst 1, 1) := by decide +kernel
theorem dX11_next_215 : decode cX11_next 215 = .ok (.goto 18, 3) := by decide +kernel
theorem dX11_next_218 : decode cX11_next 218 = .ok (.aload_n 0, 1) := by decide +kernel
theorem dX11_next_219 : decode cX11_next 219 = .ok (.getfield 229, 3) := by decide +kernel
theorem dX11_next_222 : decode cX11_next 222 = .ok (.invokestatic 233, 3) := by decide +kernel
theorem dX11_next_225 : decode cX11_next 225 = .ok (.ifCond .eq 7, 3) := by decide +kernel
theorem dX11_next_228 : decode cX11_next 228 = .ok (.iconst 3, 1) := by decide +kernel
theorem dX11_next_229 : decode cX11_next 229 = .ok (.goto 4, 3) := by decide +kernel
theorem dX11_next_232 : decode cX11_next 232 = .ok (.iconst 2, 1) := by decide +kernel
theorem dX11_next_233 : decode cX11_next 233 = .ok (.putfield 222, 3) := by decide +kernel
theorem dX11_next_236 : decode cX11_next 236 = .ok (.goto 141, 3) := by decide +kernel
theorem dX11_next_239 : decode cX11_next 239 = .ok (.iload_n 1, 1) := by decide +kernel
theorem dX11_next_240 : decode cX11_next 240 = .ok (.invokestatic 237, 3) := by decide +kernel
theorem dX11_next_243 : decode cX11_next 243 = .ok (.ifCond .eq 118, 3) := by decide +kernel
theorem dX11_next_246 : decode cX11_next 246 = .ok (.aload_n 0, 1) := by decide +kernel
theorem dX11_next_247 : decode cX11_next 247 = .ok (.iconst 0, 1) := by decide +kernel
theorem dX11_next_248 : decode cX11_next 248 = .ok (.putfield 240, 3) := by decide +kernel
theorem dX11_next_251 : decode cX11_next 251 = .ok (.aload_n 0, 1) := by decide +kernel
theorem dX11_next_252 : decode cX11_next 252 = .ok (.aload_n 0, 1) := by decide +kernel
theorem dX11_next_253 : decode cX11_next 253 = .ok (.getfield 215, 3) := by decide +kernel
theorem dX11_next_256 : decode cX11_next 256 = .ok (.putfield 212, 3) := by decide +kernel
theorem dX11_next_259 : decode cX11_next 259 = .ok (.aload_n 0, 1) := by decide +kernel
theorem dX11_next_260 : decode cX11_next 260 = .ok (.aload_n 0, 1) := by decide +kernel
theorem dX11_next_261 : decode cX11_next 261 = .ok (.getfield 212, 3) := by decide +kernel
theorem dX11_next_264 : decode cX11_next 264 = .ok (.invokevirtual 218, 3) := by decide +kernel
theorem dX11_next_267 : decode cX11_next 267 = .ok (.invokestatic 237, 3) := by decide +kernel
theorem dX11_next_270 : decode cX11_next 270 = .ok (.ifCond .eq 52, 3) := by decide +kernel
theorem dX11_next_273 : decode cX11_next 273 = .ok (.aload_n 0, 1) := by decide +kernel
theorem dX11_next_274 : decode cX11_next 274 = .ok (.getfield 212, 3) := by decide +kernel
theorem dX11_next_277 : decode cX11_next 277 = .ok (.aload_n 0, 1) := by decide +kernel
theorem dX11_next_278 : decode cX11_next 278 = .ok (.getfield 215, 3) := by decide +kernel
theorem dX11_next_281 : decode cX11_next 281 = .ok (.isub, 1) := by decide +kernel
theorem dX11_next_282 : decode cX11_next 282 = .ok (.iconst 4, 1) := by decide +kernel
theorem dX11_next_283 : decode cX11_next 283 = .ok (.if_icmp .ge 26, 3) := by decide +kernel
theorem dX11_next_286 : decode cX11_next 286 = .ok (.aload_n 0, 1) := by decide +kernel
theorem dX11_next_287 : decode cX11_next 287 = .ok (.bipush 10, 2) := by decide +kernel
theorem dX11_next_289 : decode cX11_next 289 = .ok (.aload_n 0, 1) := by decide +kernel
theorem dX11_next_290 : decode cX11_next 290 = .ok (.getfield 240, 3) := by decide +kernel
theorem dX11_next_293 : decode cX11_next 293 = .ok (.imul, 1) := by decide +kernel
theorem dX11_next_294 : decode cX11_next 294 = .ok (.aload_n 0, 1) := by decide +kernel
theorem dX11_next_295 : decode cX11_next 295 = .ok (.aload_n 0, 1) := by decide +kernel
theorem dX11_next_296 : decode cX11_next 296 = .ok (.getfield 212, 3) := by decide +kernel
theorem dX11_next_299 : decode cX11_next 299 = .ok (.invokevirtual 218, 3) := by decide +kernel
theorem dX11_next_302 : decode cX11_next 302 = .ok (.iadd, 1) := by decide +kernel
theorem dX11_next_303 : decode cX11_next 303 = .ok (.bipush 48, 2) := by decide +kernel
theorem dX11_next_305 : decode cX11_next 305 = .ok (.isub, 1) := by decide +kernel
theorem dX11_next_306 : decode cX11_next 306 = .ok (.putfield 240, 3) := by decide +kernel
theorem dX11_next_309 : decode cX11_next 309 = .ok (.aload_n 0, 1) := by decide +kernel
theorem dX11_next_310 : decode cX11_next 310 = .ok (.dup, 1) := by decide +kernel
theorem dX11_next_311 : decode cX11_next 311 = .ok (.getfield 212, 3) := by decide +kernel
theorem dX11_next_314 : decode cX11_next 314 = .ok (.iconst 1, 1) := by decide +kernel
theorem dX11_next_315 : decode cX11_next 315 = .ok (.iadd, 1) := by decide +kernel
theorem dX11_next_316 : decode cX11_next 316 = .ok (.putfield 212, 3) := by decide +kernel
theorem dX11_next_319 : decode cX11_next 319 = .ok (.goto (-60), 3) := by decide +kernel
theorem dX11_next_322 : decode cX11_next 322 = .ok (.aload_n 0, 1) := by decide +kernel
theorem dX11_next_323 : decode cX11_next 323 = .ok (.aload_n 0, 1) := by decide +kernel
theorem dX11_next_324 : decode cX11_next 324 = .ok (.getfield 212, 3) := by decide +kernel
theorem dX11_next_327 : decode cX11_next 327 = .ok (.aload_n 0, 1) := by decide +kernel
theorem dX11_next_328 : decode cX11_next 328 = .ok (.getfield 215, 3) := by decide +kernel
theorem dX11_next_331 : decode cX11_next 331 = .ok (.isub, 1) := by decide +kernel
theorem dX11_next_332 : decode cX11_next 332 = .ok (.iconst 4, 1) := by decide +kernel
theorem dX11_next_333 : decode cX11_next 333 = .ok (.if_icmp .gt 17, 3) := by decide +kernel
theorem dX11_next_336 : decode cX11_next 336 = .ok (.aload_n 0, 1) := by decide +kernel
theorem dX11_next_337 : decode cX11_next 337 = .ok (.aload_n 0, 1) := by decide +kernel
theorem dX11_next_338 : decode cX11_next 338 = .ok (.getfield 212, 3) := by decide +kernel
theorem dX11_next_341 : decode cX11_next 341 = .ok (.invokevirtual 218, 3) := by decide +kernel
theorem dX11_next_344 : decode cX11_next 344 = .ok (.invokestatic 225, 3) := by decide +kernel
theorem dX11_next_347 : decode cX11_next 347 = .ok (.ifCond .eq 7, 3) := by decide +kernel
theorem dX11_next_350 : decode cX11_next 350 = .ok (.iconst 1, 1) := by decide +kernel
theorem dX11_next_351 : decode cX11_next 351 = .ok (.goto 4, 3) := by decide +kernel
theorem dX11_next_354 : decode cX11_next 354 = .ok (.iconst 4, 1) := by decide +kernel
theorem dX11_next_355 : decode cX11_next 355 = .ok (.putfield 222, 3) := by decide +kernel
theorem dX11_next_358 : decode cX11_next 358 = .ok (.goto 19, 3) := by decide +kernel
theorem dX11_next_361 : decode cX11_next 361 = .ok (.aload_n 0, 1) := by decide +kernel
theorem dX11_next_362 : decode cX11_next 362 = .ok (.iload_n 1, 1) := by decide +kernel
theorem dX11_next_363 : decode cX11_next 363 = .ok (.invokestatic 243, 3) := by decide +kernel
theorem dX11_next_366 : decode cX11_next 366 = .ok (.ifCond .eq 7, 3) := by decide +kernel
theorem dX11_next_369 : decode cX11_next 369 = .ok (.iconst 5, 1) := by decide +kernel
theorem dX11_next_370 : decode cX11_next 370 = .ok (.goto 4, 3) := by decide +kernel
theorem dX11_next_373 : decode cX11_next 373 = .ok (.iconst 1, 1) := by decide +kernel
theorem dX11_next_374 : decode cX11_next 374 = .ok (.putfield 222, 3) := by decide +kernel
theorem dX11_next_377 : decode cX11_next 377 = .ok (.return_, 1) := by decide +kernel
theorem dX11_is_0 : decode cX11_is 0 = .ok (.aload_n 0, 1) := by decide +kernel
theorem dX11_is_1 : decode cX11_is 1 = .ok (.getfield 222, 3) := by decide +kernel
theorem dX11_is_4 : decode cX11_is 4 = .ok (.iconst 5, 1) := by decide +kernel
theorem dX11_is_5 : decode cX11_is 5 = .ok (.if_icmp .ne 19, 3) := by decide +kernel
theorem dX11_is_8 : decode cX11_is 8 = .ok (.aload_n 0, 1) := by decide +kernel
theorem dX11_is_9 : decode cX11_is 9 = .ok (.aload_n 0, 1) := by decide +kernel
theorem dX11_is_10 : decode cX11_is 10 = .ok (.getfield 215, 3) := by decide +kernel
theorem dX11_is_13 : decode cX11_is 13 = .ok (.invokevirtual 218, 3) := by decide +kernel
theorem dX11_is_16 : decode cX11_is 16 = .ok (.iload_n 1, 1) := by decide +kernel
theorem dX11_is_17 : decode cX11_is 17 = .ok (.if_icmp .ne 7, 3) := by decide +kernel
theorem dX11_is_20 : decode cX11_is 20 = .ok (.iconst 1, 1) := by decide +kernel
theorem dX11_is_21 : decode cX11_is 21 = .ok (.goto 4, 3) := by decide +kernel
theorem dX11_is_24 : decode cX11_is 24 = .ok (.iconst 0, 1) := by decide +kernel
theorem dX11_is_25 : decode cX11_is 25 = .ok (.ireturn, 1) := by decide +kernel
theorem dX11_isWord_0 : decode cX11_isWord 0 = .ok (.aload_n 0, 1) := by decide +kernel
theorem dX11_isWord_1 : decode cX11_isWord 1 = .ok (.getfield 222, 3) := by decide +kernel
theorem dX11_isWord_4 : decode cX11_isWord 4 = .ok (.iconst 3, 1) := by decide +kernel
theorem dX11_isWord_5 : decode cX11_isWord 5 = .ok (.if_icmp .ne 16, 3) := by decide +kernel
theorem dX11_isWord_8 : decode cX11_isWord 8 = .ok (.aload_n 0, 1) := by decide +kernel
theorem dX11_isWord_9 : decode cX11_isWord 9 = .ok (.getfield 229, 3) := by decide +kernel
theorem dX11_isWord_12 : decode cX11_isWord 12 = .ok (.lload_n 1, 1) := by decide +kernel
theorem dX11_isWord_13 : decode cX11_isWord 13 = .ok (.lcmp, 1) := by decide +kernel
theorem dX11_isWord_14 : decode cX11_isWord 14 = .ok (.ifCond .ne 7, 3) := by decide +kernel
theorem dX11_isWord_17 : decode cX11_isWord 17 = .ok (.iconst 1, 1) := by decide +kernel
theorem dX11_isWord_18 : decode cX11_isWord 18 = .ok (.goto 4, 3) := by decide +kernel
theorem dX11_isWord_21 : decode cX11_isWord 21 = .ok (.iconst 0, 1) := by decide +kernel
theorem dX11_isWord_22 : decode cX11_isWord 22 = .ok (.ireturn, 1) := by decide +kernel
theorem dX11_wrong_0 : decode cX11_wrong 0 = .ok (.aload_n 0, 1) := by decide +kernel
theorem dX11_wrong_1 : decode cX11_wrong 1 = .ok (.aload_n 0, 1) := by decide +kernel
theorem dX11_wrong_2 : decode cX11_wrong 2 = .ok (.getfield 222, 3) := by decide +kernel
theorem dX11_wrong_5 : decode cX11_wrong 5 = .ok (.iconst 1, 1) := by decide +kernel
theorem dX11_wrong_6 : decode cX11_wrong 6 = .ok (.if_icmp .ne 7, 3) := by decide +kernel
theorem dX11_wrong_9 : decode cX11_wrong 9 = .ok (.iconst 1, 1) := by decide +kernel
theorem dX11_wrong_10 : decode cX11_wrong 10 = .ok (.goto 4, 3) := by decide +kernel
theorem dX11_wrong_13 : decode cX11_wrong 13 = .ok (.iconst 2, 1) := by decide +kernel
theorem dX11_wrong_14 : decode cX11_wrong 14 = .ok (.aload_n 0, 1) := by decide +kernel
theorem dX11_wrong_15 : decode cX11_wrong 15 = .ok (.getfield 215, 3) := by decide +kernel
theorem dX11_wrong_18 : decode cX11_wrong 18 = .ok (.invokevirtual 246, 3) := by decide +kernel
theorem dX11_wrong_21 : decode cX11_wrong 21 = .ok (.return_, 1) := by decide +kernel
theorem dX11_must_0 : decode cX11_must 0 = .ok (.aload_n 0, 1) := by decide +kernel
theorem dX11_must_1 : decode cX11_must 1 = .ok (.invokevirtual 250, 3) := by decide +kernel
theorem dX11_must_4 : decode cX11_must 4 = .ok (.ifCond .ne 4, 3) := by decide +kernel
theorem dX11_must_7 : decode cX11_must 7 = .ok (.return_, 1) := by decide +kernel
theorem dX11_must_8 : decode cX11_must 8 = .ok (.iload_n 1, 1) := by decide +kernel
theorem dX11_must_9 : decode cX11_must 9 = .ok (.ifCond .eq 10, 3) := by decide +kernel
theorem dX11_must_12 : decode cX11_must 12 = .ok (.aload_n 0, 1) := by decide +kernel
theorem dX11_must_13 : decode cX11_must 13 = .ok (.invokevirtual 254, 3) := by decide +kernel
theorem dX11_must_16 : decode cX11_must 16 = .ok (.goto 7, 3) := by decide +kernel
theorem dX11_must_19 : decode cX11_must 19 = .ok (.aload_n 0, 1) := by decide +kernel
theorem dX11_must_20 : decode cX11_must 20 = .ok (.invokevirtual 257, 3) := by decide +kernel
theorem dX11_must_23 : decode cX11_must 23 = .ok (.return_, 1) := by decide +kernel
theorem dX11_numeral_0 : decode cX11_numeral 0 = .ok (.aload_n 0, 1) := by decide +kernel
theorem dX11_numeral_1 : decode cX11_numeral 1 = .ok (.invokevirtual 250, 3) := by decide +kernel
theorem dX11_numeral_4 : decode cX11_numeral 4 = .ok (.ifCond .ne 5, 3) := by decide +kernel
theorem dX11_numeral_7 : decode cX11_numeral 7 = .ok (.iload_n 1, 1) := by decide +kernel
theorem dX11_numeral_8 : decode cX11_numeral 8 = .ok (.ireturn, 1) := by decide +kernel
theorem dX11_numeral_9 : decode cX11_numeral 9 = .ok (.aload_n 0, 1) := by decide +kernel
theorem dX11_numeral_10 : decode cX11_numeral 10 = .ok (.getfield 222, 3) := by decide +kernel
theorem dX11_numeral_13 : decode cX11_numeral 13 = .ok (.iconst 4, 1) := by decide +kernel
theorem dX11_numeral_14 : decode cX11_numeral 14 = .ok (.if_icmp .eq 7, 3) := by decide +kernel
theorem dX11_numeral_17 : decode cX11_numeral 17 = .ok (.aload_n 0, 1) := by decide +kernel
theorem dX11_numeral_18 : decode cX11_numeral 18 = .ok (.invokevirtual 257, 3) := by decide +kernel
theorem dX11_numeral_21 : decode cX11_numeral 21 = .ok (.aload_n 0, 1) := by decide +kernel
theorem dX11_numeral_22 : decode cX11_numeral 22 = .ok (.invokevirtual 250, 3) := by decide +kernel
theorem dX11_numeral_25 : decode cX11_numeral 25 = .ok (.ifCond .eq 28, 3) := by decide +kernel
theorem dX11_numeral_28 : decode cX11_numeral 28 = .ok (.aload_n 0, 1) := by decide +kernel
theorem dX11_numeral_29 : decode cX11_numeral 29 = .ok (.getfield 240, 3) := by decide +kernel
theorem dX11_numeral_32 : decode cX11_numeral 32 = .ok (.iload_n 1, 1) := by decide +kernel
theorem dX11_numeral_33 : decode cX11_numeral 33 = .ok (.if_icmp .lt 11, 3) := by decide +kernel
theorem dX11_numeral_36 : decode cX11_numeral 36 = .ok (.aload_n 0, 1) := by decide +kernel
theorem dX11_numeral_37 : decode cX11_numeral 37 = .ok (.getfield 240, 3) := by decide +kernel
theorem dX11_numeral_40 : decode cX11_numeral 40 = .ok (.iload_n 2, 1) := by decide +kernel
theorem dX11_numeral_41 : decode cX11_numeral 41 = .ok (.if_icmp .le 12, 3) := by decide +kernel
theorem dX11_numeral_44 : decode cX11_numeral 44 = .ok (.aload_n 0, 1) := by decide +kernel
theorem dX11_numeral_45 : decode cX11_numeral 45 = .ok (.iconst 4, 1) := by decide +kernel
theorem dX11_numeral_46 : decode cX11_numeral 46 = .ok (.aload_n 0, 1) := by decide +kernel
theorem dX11_numeral_47 : decode cX11_numeral 47 = .ok (.getfield 215, 3) := by decide +kernel
theorem dX11_numeral_50 : decode cX11_numeral 50 = .ok (.invokevirtual 246, 3) := by decide +kernel
theorem dX11_numeral_53 : decode cX11_numeral 53 = .ok (.aload_n 0, 1) := by decide +kernel
theorem dX11_numeral_54 : decode cX11_numeral 54 = .ok (.getfield 240, 3) := by decide +kernel
theorem dX11_numeral_57 : decode cX11_numeral 57 = .ok (.istore_n 3, 1) := by decide +kernel
theorem dX11_numeral_58 : decode cX11_numeral 58 = .ok (.aload_n 0, 1) := by decide +kernel
theorem dX11_numeral_59 : decode cX11_numeral 59 = .ok (.invokevirtual 250, 3) := by decide +kernel
theorem dX11_numeral_62 : decode cX11_numeral 62 = .ok (.ifCond .eq 7, 3) := by decide +kernel
theorem dX11_numeral_65 : decode cX11_numeral 65 = .ok (.aload_n 0, 1) := by decide +kernel
theorem dX11_numeral_66 : decode cX11_numeral 66 = .ok (.invokevirtual 254, 3) := by decide +kernel
theorem dX11_numeral_69 : decode cX11_numeral 69 = .ok (.aload_n 0, 1) := by decide +kernel
theorem dX11_numeral_70 : decode cX11_numeral 70 = .ok (.invokevirtual 250, 3) := by decide +kernel
theorem dX11_numeral_73 : decode cX11_numeral 73 = .ok (.ifCond .eq 7, 3) := by decide +kernel
theorem dX11_numeral_76 : decode cX11_numeral 76 = .ok (.iload_n 3, 1) := by decide +kernel
theorem dX11_numeral_77 : decode cX11_numeral 77 = .ok (.goto 4, 3) := by decide +kernel
theorem dX11_numeral_80 : decode cX11_numeral 80 = .ok (.iload_n 1, 1) := by decide +kernel
theorem dX11_numeral_81 : decode cX11_numeral 81 = .ok (.ireturn, 1) := by decide +kernel
theorem dX11_takeTape_0 : decode cX11_takeTape 0 = .ok (.aload_n 0, 1) := by decide +kernel
theorem dX11_takeTape_1 : decode cX11_takeTape 1 = .ok (.iconst 0, 1) := by decide +kernel
theorem dX11_takeTape_2 : decode cX11_takeTape 2 = .ok (.putfield 167, 3) := by decide +kernel
theorem dX11_takeTape_5 : decode cX11_takeTape 5 = .ok (.aload_n 0, 1) := by decide +kernel
theorem dX11_takeTape_6 : decode cX11_takeTape 6 = .ok (.iconst (-1), 1) := by decide +kernel
theorem dX11_takeTape_7 : decode cX11_takeTape 7 = .ok (.putfield 16, 3) := by decide +kernel
theorem dX11_takeTape_10 : decode cX11_takeTape 10 = .ok (.aload_n 0, 1) := by decide +kernel
theorem dX11_takeTape_11 : decode cX11_takeTape 11 = .ok (.aload_n 0, 1) := by decide +kernel
theorem dX11_takeTape_12 : decode cX11_takeTape 12 = .ok (.getfield 260, 3) := by decide +kernel
theorem dX11_takeTape_15 : decode cX11_takeTape 15 = .ok (.putfield 164, 3) := by decide +kernel
theorem dX11_takeTape_18 : decode cX11_takeTape 18 = .ok (.iconst 0, 1) := by decide +kernel
theorem dX11_takeTape_19 : decode cX11_takeTape 19 = .ok (.istore_n 1, 1) := by decide +kernel
theorem dX11_takeTape_20 : decode cX11_takeTape 20 = .ok (.iload_n 1, 1) := by decide +kernel
theorem dX11_takeTape_21 : decode cX11_takeTape 21 = .ok (.aload_n 0, 1) := by decide +kernel
theorem dX11_takeTape_22 : decode cX11_takeTape 22 = .ok (.getfield 164, 3) := by decide +kernel
theorem dX11_takeTape_25 : decode cX11_takeTape 25 = .ok (.if_icmp .ge 21, 3) := by decide +kernel
theorem dX11_takeTape_28 : decode cX11_takeTape 28 = .ok (.aload_n 0, 1) := by decide +kernel
theorem dX11_takeTape_29 : decode cX11_takeTape 29 = .ok (.getfield 13, 3) := by decide +kernel
theorem dX11_takeTape_32 : decode cX11_takeTape 32 = .ok (.iload_n 1, 1) := by decide +kernel
theorem dX11_takeTape_33 : decode cX11_takeTape 33 = .ok (.aload_n 0, 1) := by decide +kernel
theorem dX11_takeTape_34 : decode cX11_takeTape 34 = .ok (.getfield 7, 3) := by decide +kernel
theorem dX11_takeTape_37 : decode cX11_takeTape 37 = .ok (.iload_n 1, 1) := by decide +kernel
theorem dX11_takeTape_38 : decode cX11_takeTape 38 = .ok (.baload, 1) := by decide +kernel
theorem dX11_takeTape_39 : decode cX11_takeTape 39 = .ok (.bastore, 1) := by decide +kernel
theorem dX11_takeTape_40 : decode cX11_takeTape 40 = .ok (.iinc 1 1, 3) := by decide +kernel
theorem dX11_takeTape_43 : decode cX11_takeTape 43 = .ok (.goto (-23), 3) := by decide +kernel
theorem dX11_takeTape_46 : decode cX11_takeTape 46 = .ok (.aload_n 0, 1) := by decide +kernel
theorem dX11_takeTape_47 : decode cX11_takeTape 47 = .ok (.iconst 0, 1) := by decide +kernel
theorem dX11_takeTape_48 : decode cX11_takeTape 48 = .ok (.putfield 260, 3) := by decide +kernel
theorem dX11_takeTape_51 : decode cX11_takeTape 51 = .ok (.aload_n 0, 1) := by decide +kernel
theorem dX11_takeTape_52 : decode cX11_takeTape 52 = .ok (.iconst 0, 1) := by decide +kernel
theorem dX11_takeTape_53 : decode cX11_takeTape 53 = .ok (.putfield 212, 3) := by decide +kernel
theorem dX11_takeTape_56 : decode cX11_takeTape 56 = .ok (.return_, 1) := by decide +kernel
theorem dX11_works_0 : decode cX11_works 0 = .ok (.aload_n 0, 1) := by decide +kernel
theorem dX11_works_1 : decode cX11_works 1 = .ok (.invokevirtual 263, 3) := by decide +kernel
theorem dX11_works_4 : decode cX11_works 4 = .ok (.aload_n 0, 1) := by decide +kernel
theorem dX11_works_5 : decode cX11_works 5 = .ok (.iconst 1, 1) := by decide +kernel
theorem dX11_works_6 : decode cX11_works 6 = .ok (.aload_n 0, 1) := by decide +kernel
theorem dX11_works_7 : decode cX11_works 7 = .ok (.getfield 266, 3) := by decide +kernel
theorem dX11_works_10 : decode cX11_works 10 = .ok (.isub, 1) := by decide +kernel
theorem dX11_works_11 : decode cX11_works 11 = .ok (.putfield 269, 3) := by decide +kernel
theorem dX11_works_14 : decode cX11_works 14 = .ok (.aload_n 0, 1) := by decide +kernel
theorem dX11_works_15 : decode cX11_works 15 = .ok (.getfield 20, 3) := by decide +kernel
theorem dX11_works_18 : decode cX11_works 18 = .ok (.aload_n 0, 1) := by decide +kernel
theorem dX11_works_19 : decode cX11_works 19 = .ok (.getfield 269, 3) := by decide +kernel
theorem dX11_works_22 : decode cX11_works 22 = .ok (.iconst 0, 1) := by decide +kernel
theorem dX11_works_23 : decode cX11_works 23 = .ok (.iastore, 1) := by decide +kernel
theorem dX11_works_24 : decode cX11_works 24 = .ok (.aload_n 0, 1) := by decide +kernel
theorem dX11_works_25 : decode cX11_works 25 = .ok (.getfield 24, 3) := by decide +kernel
theorem dX11_works_28 : decode cX11_works 28 = .ok (.aload_n 0, 1) := by decide +kernel
theorem dX11_works_29 : decode cX11_works 29 = .ok (.getfield 269, 3) := by decide +kernel
theorem dX11_works_32 : decode cX11_works 32 = .ok (.iconst 0, 1) := by decide +kernel
theorem dX11_works_33 : decode cX11_works 33 = .ok (.iastore, 1) := by decide +kernel
theorem dX11_works_34 : decode cX11_works 34 = .ok (.aload_n 0, 1) := by decide +kernel
theorem dX11_works_35 : decode cX11_works 35 = .ok (.getfield 27, 3) := by decide +kernel
theorem dX11_works_38 : decode cX11_works 38 = .ok (.aload_n 0, 1) := by decide +kernel
theorem dX11_works_39 : decode cX11_works 39 = .ok (.getfield 269, 3) := by decide +kernel
theorem dX11_works_42 : decode cX11_works 42 = .ok (.iconst 0, 1) := by decide +kernel
theorem dX11_works_43 : decode cX11_works 43 = .ok (.iastore, 1) := by decide +kernel
theorem dX11_works_44 : decode cX11_works 44 = .ok (.aload_n 0, 1) := by decide +kernel
theorem dX11_works_45 : decode cX11_works 45 = .ok (.getfield 30, 3) := by decide +kernel
theorem dX11_works_48 : decode cX11_works 48 = .ok (.aload_n 0, 1) := by decide +kernel
theorem dX11_works_49 : decode cX11_works 49 = .ok (.getfield 269, 3) := by decide +kernel
theorem dX11_works_52 : decode cX11_works 52 = .ok (.iconst 0, 1) := by decide +kernel
theorem dX11_works_53 : decode cX11_works 53 = .ok (.iastore, 1) := by decide +kernel
theorem dX11_works_54 : decode cX11_works 54 = .ok (.aload_n 0, 1) := by decide +kernel
theorem dX11_works_55 : decode cX11_works 55 = .ok (.getfield 64, 3) := by decide +kernel
theorem dX11_works_58 : decode cX11_works 58 = .ok (.aload_n 0, 1) := by decide +kernel
theorem dX11_works_59 : decode cX11_works 59 = .ok (.getfield 269, 3) := by decide +kernel
theorem dX11_works_62 : decode cX11_works 62 = .ok (.iconst 0, 1) := by decide +kernel
theorem dX11_works_63 : decode cX11_works 63 = .ok (.bastore, 1) := by decide +kernel
theorem dX11_works_64 : decode cX11_works 64 = .ok (.aload_n 0, 1) := by decide +kernel
theorem dX11_works_65 : decode cX11_works 65 = .ok (.getfield 33, 3) := by decide +kernel
theorem dX11_works_68 : decode cX11_works 68 = .ok (.aload_n 0, 1) := by decide +kernel
theorem dX11_works_69 : decode cX11_works 69 = .ok (.getfield 269, 3) := by decide +kernel
theorem dX11_works_72 : decode cX11_works 72 = .ok (.bipush 10, 2) := by decide +kernel
theorem dX11_works_74 : decode cX11_works 74 = .ok (.iastore, 1) := by decide +kernel
theorem dX11_works_75 : decode cX11_works 75 = .ok (.aload_n 0, 1) := by decide +kernel
theorem dX11_works_76 : decode cX11_works 76 = .ok (.getfield 36, 3) := by decide +kernel
theorem dX11_works_79 : decode cX11_works 79 = .ok (.aload_n 0, 1) := by decide +kernel
theorem dX11_works_80 : decode cX11_works 80 = .ok (.getfield 269, 3) := by decide +kernel
theorem dX11_works_83 : decode cX11_works 83 = .ok (.bipush 10, 2) := by decide +kernel
theorem dX11_works_85 : decode cX11_works 85 = .ok (.iastore, 1) := by decide +kernel
theorem dX11_works_86 : decode cX11_works 86 = .ok (.aload_n 0, 1) := by decide +kernel
theorem dX11_works_87 : decode cX11_works 87 = .ok (.getfield 39, 3) := by decide +kernel
theorem dX11_works_90 : decode cX11_works 90 = .ok (.aload_n 0, 1) := by decide +kernel
theorem dX11_works_91 : decode cX11_works 91 = .ok (.getfield 269, 3) := by decide +kernel
theorem dX11_works_94 : decode cX11_works 94 = .ok (.iconst 0, 1) := by decide +kernel
theorem dX11_works_95 : decode cX11_works 95 = .ok (.iastore, 1) := by decide +kernel
theorem dX11_works_96 : decode cX11_works 96 = .ok (.iconst 0, 1) := by decide +kernel
theorem dX11_works_97 : decode cX11_works 97 = .ok (.istore_n 1, 1) := by decide +kernel
theorem dX11_works_98 : decode cX11_works 98 = .ok (.iload_n 1, 1) := by decide +kernel
theorem dX11_works_99 : decode cX11_works 99 = .ok (.iconst 4, 1) := by decide +kernel
theorem dX11_works_100 : decode cX11_works 100 = .ok (.if_icmp .ge 23, 3) := by decide +kernel
theorem dX11_works_103 : decode cX11_works 103 = .ok (.aload_n 0, 1) := by decide +kernel
theorem dX11_works_104 : decode cX11_works 104 = .ok (.getfield 57, 3) := by decide +kernel
theorem dX11_works_107 : decode cX11_works 107 = .ok (.iconst 4, 1) := by decide +kernel
theorem dX11_works_108 : decode cX11_works 108 = .ok (.aload_n 0, 1) := by decide +kernel
theorem dX11_works_109 : decode cX11_works 109 = .ok (.getfield 269, 3) := by decide +kernel
theorem dX11_works_112 : decode cX11_works 112 = .ok (.imul, 1) := by decide +kernel
theorem dX11_works_113 : decode cX11_works 113 = .ok (.iload_n 1, 1) := by decide +kernel
theorem dX11_works_114 : decode cX11_works 114 = .ok (.iadd, 1) := by decide +kernel
theorem dX11_works_115 : decode cX11_works 115 = .ok (.iconst 0, 1) := by decide +kernel
theorem dX11_works_116 : decode cX11_works 116 = .ok (.iastore, 1) := by decide +kernel
theorem dX11_works_117 : decode cX11_works 117 = .ok (.iinc 1 1, 3) := by decide +kernel
theorem dX11_works_120 : decode cX11_works 120 = .ok (.goto (-22), 3) := by decide +kernel
theorem dX11_works_123 : decode cX11_works 123 = .ok (.aload_n 0, 1) := by decide +kernel
theorem dX11_works_124 : decode cX11_works 124 = .ok (.invokevirtual 254, 3) := by decide +kernel
theorem dX11_works_127 : decode cX11_works 127 = .ok (.aload_n 0, 1) := by decide +kernel
theorem dX11_works_128 : decode cX11_works 128 = .ok (.invokevirtual 250, 3) := by decide +kernel
theorem dX11_works_131 : decode cX11_works 131 = .ok (.ifCond .eq 17, 3) := by decide +kernel
theorem dX11_works_134 : decode cX11_works 134 = .ok (.aload_n 0, 1) := by decide +kernel
theorem dX11_works_135 : decode cX11_works 135 = .ok (.getfield 222, 3) := by decide +kernel
theorem dX11_works_138 : decode cX11_works 138 = .ok (.ifCond .eq 10, 3) := by decide +kernel
theorem dX11_works_141 : decode cX11_works 141 = .ok (.aload_n 0, 1) := by decide +kernel
theorem dX11_works_142 : decode cX11_works 142 = .ok (.invokevirtual 272, 3) := by decide +kernel
theorem dX11_works_145 : decode cX11_works 145 = .ok (.goto (-18), 3) := by decide +kernel
theorem dX11_works_148 : decode cX11_works 148 = .ok (.aload_n 0, 1) := by decide +kernel
theorem dX11_works_149 : decode cX11_works 149 = .ok (.invokevirtual 250, 3) := by decide +kernel
theorem dX11_works_152 : decode cX11_works 152 = .ok (.ifCond .ne 5, 3) := by decide +kernel
theorem dX11_works_155 : decode cX11_works 155 = .ok (.iconst (-1), 1) := by decide +kernel
theorem dX11_works_156 : decode cX11_works 156 = .ok (.ireturn, 1) := by decide +kernel
theorem dX11_works_157 : decode cX11_works 157 = .ok (.aload_n 0, 1) := by decide +kernel
theorem dX11_works_158 : decode cX11_works 158 = .ok (.aload_n 0, 1) := by decide +kernel
theorem dX11_works_159 : decode cX11_works 159 = .ok (.getfield 269, 3) := by decide +kernel
theorem dX11_works_162 : decode cX11_works 162 = .ok (.putfield 266, 3) := by decide +kernel
theorem dX11_works_165 : decode cX11_works 165 = .ok (.aload_n 0, 1) := by decide +kernel
theorem dX11_works_166 : decode cX11_works 166 = .ok (.iconst 0, 1) := by decide +kernel
theorem dX11_works_167 : decode cX11_works 167 = .ok (.putfield 275, 3) := by decide +kernel
theorem dX11_works_170 : decode cX11_works 170 = .ok (.aload_n 0, 1) := by decide +kernel
theorem dX11_works_171 : decode cX11_works 171 = .ok (.iconst 0, 1) := by decide +kernel
theorem dX11_works_172 : decode cX11_works 172 = .ok (.putfield 278, 3) := by decide +kernel
theorem dX11_works_175 : decode cX11_works 175 = .ok (.aload_n 0, 1) := by decide +kernel
theorem dX11_works_176 : decode cX11_works 176 = .ok (.getfield 20, 3) := by decide +kernel
theorem dX11_works_179 : decode cX11_works 179 = .ok (.aload_n 0, 1) := by decide +kernel
theorem dX11_works_180 : decode cX11_works 180 = .ok (.getfield 266, 3) := by decide +kernel
theorem dX11_works_183 : decode cX11_works 183 = .ok (.iaload, 1) := by decide +kernel
theorem dX11_works_184 : decode cX11_works 184 = .ok (.ireturn, 1) := by decide +kernel
theorem dX11_isFull_0 : decode cX11_isFull 0 = .ok (.iload_n 1, 1) := by decide +kernel
theorem dX11_isFull_1 : decode cX11_isFull 1 = .ok (.ifCond .eq 13, 3) := by decide +kernel
theorem dX11_isFull_4 : decode cX11_isFull 4 = .ok (.aload_n 0, 1) := by decide +kernel
theorem dX11_isFull_5 : decode cX11_isFull 5 = .ok (.getfield 64, 3) := by decide +kernel
theorem dX11_isFull_8 : decode cX11_isFull 8 = .ok (.aload_n 0, 1) := by decide +kernel
theorem dX11_isFull_9 : decode cX11_isFull 9 = .ok (.getfield 269, 3) := by decide +kernel
theorem dX11_isFull_12 : decode cX11_isFull 12 = .ok (.baload, 1) := by decide +kernel
theorem dX11_isFull_13 : decode cX11_isFull 13 = .ok (.ireturn, 1) := by decide +kernel
theorem dX11_isFull_14 : decode cX11_isFull 14 = .ok (.iload_n 2, 1) := by decide +kernel
theorem dX11_isFull_15 : decode cX11_isFull 15 = .ok (.ifCond .eq 22, 3) := by decide +kernel
theorem dX11_isFull_18 : decode cX11_isFull 18 = .ok (.aload_n 0, 1) := by decide +kernel
theorem dX11_isFull_19 : decode cX11_isFull 19 = .ok (.getfield 24, 3) := by decide +kernel
theorem dX11_isFull_22 : decode cX11_isFull 22 = .ok (.aload_n 0, 1) := by decide +kernel
theorem dX11_isFull_23 : decode cX11_isFull 23 = .ok (.getfield 269, 3) := by decide +kernel
theorem dX11_isFull_26 : decode cX11_isFull 26 = .ok (.iaload, 1) := by decide +kernel
theorem dX11_isFull_27 : decode cX11_isFull 27 = .ok (.iconst 4, 1) := by decide +kernel
theorem dX11_isFull_28 : decode cX11_isFull 28 = .ok (.if_icmp .ne 7, 3) := by decide +kernel
theorem dX11_isFull_31 : decode cX11_isFull 31 = .ok (.iconst 1, 1) := by decide +kernel
theorem dX11_isFull_32 : decode cX11_isFull 32 = .ok (.goto 4, 3) := by decide +kernel
theorem dX11_isFull_35 : decode cX11_isFull 35 = .ok (.iconst 0, 1) := by decide +kernel
theorem dX11_isFull_36 : decode cX11_isFull 36 = .ok (.ireturn, 1) := by decide +kernel
theorem dX11_isFull_37 : decode cX11_isFull 37 = .ok (.aload_n 0, 1) := by decide +kernel
theorem dX11_isFull_38 : decode cX11_isFull 38 = .ok (.ldc2_w 176, 3) := by decide +kernel
theorem dX11_isFull_41 : decode cX11_isFull 41 = .ok (.invokevirtual 281, 3) := by decide +kernel
theorem dX11_isFull_44 : decode cX11_isFull 44 = .ok (.ifCond .ne 13, 3) := by decide +kernel
theorem dX11_isFull_47 : decode cX11_isFull 47 = .ok (.aload_n 0, 1) := by decide +kernel
theorem dX11_isFull_48 : decode cX11_isFull 48 = .ok (.ldc2_w 178, 3) := by decide +kernel
theorem dX11_isFull_51 : decode cX11_isFull 51 = .ok (.invokevirtual 281, 3) := by decide +kernel
theorem dX11_isFull_54 : decode cX11_isFull 54 = .ok (.ifCond .eq 57, 3) := by decide +kernel
theorem dX11_isFull_57 : decode cX11_isFull 57 = .ok (.aload_n 0, 1) := by decide +kernel
theorem dX11_isFull_58 : decode cX11_isFull 58 = .ok (.getfield 24, 3) := by decide +kernel
theorem dX11_isFull_61 : decode cX11_isFull 61 = .ok (.aload_n 0, 1) := by decide +kernel
theorem dX11_isFull_62 : decode cX11_isFull 62 = .ok (.getfield 269, 3) := by decide +kernel
theorem dX11_isFull_65 : decode cX11_isFull 65 = .ok (.iaload, 1) := by decide +kernel
theorem dX11_isFull_66 : decode cX11_isFull 66 = .ok (.ifCond .eq 45, 3) := by decide +kernel
theorem dX11_isFull_69 : decode cX11_isFull 69 = .ok (.aload_n 0, 1) := by decide +kernel
theorem dX11_isFull_70 : decode cX11_isFull 70 = .ok (.getfield 27, 3) := by decide +kernel
theorem dX11_isFull_73 : decode cX11_isFull 73 = .ok (.aload_n 0, 1) := by decide +kernel
theorem dX11_isFull_74 : decode cX11_isFull 74 = .ok (.getfield 269, 3) := by decide +kernel
theorem dX11_isFull_77 : decode cX11_isFull 77 = .ok (.iaload, 1) := by decide +kernel
theorem dX11_isFull_78 : decode cX11_isFull 78 = .ok (.bipush 12, 2) := by decide +kernel
theorem dX11_isFull_80 : decode cX11_isFull 80 = .ok (.if_icmp .eq 31, 3) := by decide +kernel
theorem dX11_isFull_83 : decode cX11_isFull 83 = .ok (.aload_n 0, 1) := by decide +kernel
theorem dX11_isFull_84 : decode cX11_isFull 84 = .ok (.getfield 57, 3) := by decide +kernel
theorem dX11_isFull_87 : decode cX11_isFull 87 = .ok (.iconst 4, 1) := by decide +kernel
theorem dX11_isFull_88 : decode cX11_isFull 88 = .ok (.aload_n 0, 1) := by decide +kernel
theorem dX11_isFull_89 : decode cX11_isFull 89 = .ok (.getfield 269, 3) := by decide +kernel
theorem dX11_isFull_92 : decode cX11_isFull 92 = .ok (.imul, 1) := by decide +kernel
theorem dX11_isFull_93 : decode cX11_isFull 93 = .ok (.aload_n 0, 1) := by decide +kernel
theorem dX11_isFull_94 : decode cX11_isFull 94 = .ok (.getfield 24, 3) := by decide +kernel
theorem dX11_isFull_97 : decode cX11_isFull 97 = .ok (.aload_n 0, 1) := by decide +kernel
theorem dX11_isFull_98 : decode cX11_isFull 98 = .ok (.getfield 269, 3) := by decide +kernel
theorem dX11_isFull_101 : decode cX11_isFull 101 = .ok (.iaload, 1) := by decide +kernel
theorem dX11_isFull_102 : decode cX11_isFull 102 = .ok (.iadd, 1) := by decide +kernel
theorem dX11_isFull_103 : decode cX11_isFull 103 = .ok (.iconst 1, 1) := by decide +kernel
theorem dX11_isFull_104 : decode cX11_isFull 104 = .ok (.isub, 1) := by decide +kernel
theorem dX11_isFull_105 : decode cX11_isFull 105 = .ok (.iaload, 1) := by decide +kernel
theorem dX11_isFull_106 : decode cX11_isFull 106 = .ok (.bipush 8, 2) := by decide +kernel
theorem dX11_isFull_108 : decode cX11_isFull 108 = .ok (.if_icmp .ne 7, 3) := by decide +kernel
theorem dX11_isFull_111 : decode cX11_isFull 111 = .ok (.iconst 1, 1) := by decide +kernel
theorem dX11_isFull_112 : decode cX11_isFull 112 = .ok (.goto 4, 3) := by decide +kernel
theorem dX11_isFull_115 : decode cX11_isFull 115 = .ok (.iconst 0, 1) := by decide +kernel
theorem dX11_isFull_116 : decode cX11_isFull 116 = .ok (.ireturn, 1) := by decide +kernel
theorem dX11_readWorks_0 : decode cX11_readWorks 0 = .ok (.aload_n 0, 1) := by decide +kernel
theorem dX11_readWorks_1 : decode cX11_readWorks 1 = .ok (.ldc2_w 170, 3) := by decide +kernel
theorem dX11_readWorks_4 : decode cX11_readWorks 4 = .ok (.invokevirtual 281, 3) := by decide +kernel
theorem dX11_readWorks_7 : decode cX11_readWorks 7 = .ok (.istore_n 1, 1) := by decide +kernel
theorem dX11_readWorks_8 : decode cX11_readWorks 8 = .ok (.aload_n 0, 1) := by decide +kernel
theorem dX11_readWorks_9 : decode cX11_readWorks 9 = .ok (.ldc2_w 174, 3) := by decide +kernel
theorem dX11_readWorks_12 : decode cX11_readWorks 12 = .ok (.invokevirtual 281, 3) := by decide +kernel
theorem dX11_readWorks_15 : decode cX11_readWorks 15 = .ok (.istore_n 2, 1) := by decide +kernel
theorem dX11_readWorks_16 : decode cX11_readWorks 16 = .ok (.aload_n 0, 1) := by decide +kernel
theorem dX11_readWorks_17 : decode cX11_readWorks 17 = .ok (.ldc2_w 178, 3) := by decide +kernel
theorem dX11_readWorks_20 : decode cX11_readWorks 20 = .ok (.invokevirtual 281, 3) := by decide +kernel
theorem dX11_readWorks_23 : decode cX11_readWorks 23 = .ok (.istore_n 3, 1) := by decide +kernel
theorem dX11_readWorks_24 : decode cX11_readWorks 24 = .ok (.aload_n 0, 1) := by decide +kernel
theorem dX11_readWorks_25 : decode cX11_readWorks 25 = .ok (.iload_n 1, 1) := by decide +kernel
theorem dX11_readWorks_26 : decode cX11_readWorks 26 = .ok (.iload_n 2, 1) := by decide +kernel
theorem dX11_readWorks_27 : decode cX11_readWorks 27 = .ok (.invokevirtual 284, 3) := by decide +kernel
theorem dX11_readWorks_30 : decode cX11_readWorks 30 = .ok (.ifCond .eq 7, 3) := by decide +kernel
theorem dX11_readWorks_33 : decode cX11_readWorks 33 = .ok (.aload_n 0, 1) := by decide +kernel
theorem dX11_readWorks_34 : decode cX11_readWorks 34 = .ok (.invokevirtual 257, 3) := by decide +kernel
theorem dX11_readWorks_37 : decode cX11_readWorks 37 = .ok (.aload_n 0, 1) := by decide +kernel
theorem dX11_readWorks_38 : decode cX11_readWorks 38 = .ok (.invokevirtual 250, 3) := by decide +kernel
theorem dX11_readWorks_41 : decode cX11_readWorks 41 = .ok (.ifCond .ne 4, 3) := by decide +kernel
theorem dX11_readWorks_44 : decode cX11_readWorks 44 = .ok (.return_, 1) := by decide +kernel
theorem dX11_readWorks_45 : decode cX11_readWorks 45 = .ok (.aload_n 0, 1) := by decide +kernel
theorem dX11_readWorks_46 : decode cX11_readWorks 46 = .ok (.invokevirtual 254, 3) := by decide +kernel
theorem dX11_readWorks_49 : decode cX11_readWorks 49 = .ok (.iload_n 1, 1) := by decide +kernel
theorem dX11_readWorks_50 : decode cX11_readWorks 50 = .ok (.ifCond .eq 10, 3) := by decide +kernel
theorem dX11_readWorks_53 : decode cX11_readWorks 53 = .ok (.aload_n 0, 1) := by decide +kernel
theorem dX11_readWorks_54 : decode cX11_readWorks 54 = .ok (.invokevirtual 288, 3) := by decide +kernel
theorem dX11_readWorks_57 : decode cX11_readWorks 57 = .ok (.goto 19, 3) := by decide +kernel
theorem dX11_readWorks_60 : decode cX11_readWorks 60 = .ok (.iload_n 2, 1) := by decide +kernel
theorem dX11_readWorks_61 : decode cX11_readWorks 61 = .ok (.ifCond .eq 10, 3) := by decide +kernel
theorem dX11_readWorks_64 : decode cX11_readWorks 64 = .ok (.aload_n 0, 1) := by decide +kernel
theorem dX11_readWorks_65 : decode cX11_readWorks 65 = .ok (.invokevirtual 291, 3) := by decide +kernel
theorem dX11_readWorks_68 : decode cX11_readWorks 68 = .ok (.goto 8, 3) := by decide +kernel
theorem dX11_readWorks_71 : decode cX11_readWorks 71 = .ok (.aload_n 0, 1) := by decide +kernel
theorem dX11_readWorks_72 : decode cX11_readWorks 72 = .ok (.iload_n 3, 1) := by decide +kernel
theorem dX11_readWorks_73 : decode cX11_readWorks 73 = .ok (.invokevirtual 294, 3) := by decide +kernel
theorem dX11_readWorks_76 : decode cX11_readWorks 76 = .ok (.aload_n 0, 1) := by decide +kernel
theorem dX11_readWorks_77 : decode cX11_readWorks 77 = .ok (.aload_n 0, 1) := by decide +kernel
theorem dX11_readWorks_78 : decode cX11_readWorks 78 = .ok (.bipush 59, 2) := by decide +kernel
theorem dX11_readWorks_80 : decode cX11_readWorks 80 = .ok (.invokevirtual 298, 3) := by decide +kernel
theorem dX11_readWorks_83 : decode cX11_readWorks 83 = .ok (.invokevirtual 301, 3) := by decide +kernel
theorem dX11_readWorks_86 : decode cX11_readWorks 86 = .ok (.aload_n 0, 1) := by decide +kernel
theorem dX11_readWorks_87 : decode cX11_readWorks 87 = .ok (.getfield 20, 3) := by decide +kernel
theorem dX11_readWorks_90 : decode cX11_readWorks 90 = .ok (.aload_n 0, 1) := by decide +kernel
theorem dX11_readWorks_91 : decode cX11_readWorks 91 = .ok (.getfield 269, 3) := by decide +kernel
theorem dX11_readWorks_94 : decode cX11_readWorks 94 = .ok (.dup2, 1) := by decide +kernel
theorem dX11_readWorks_95 : decode cX11_readWorks 95 = .ok (.iaload, 1) := by decide +kernel
theorem dX11_readWorks_96 : decode cX11_readWorks 96 = .ok (.iconst 1, 1) := by decide +kernel
theorem dX11_readWorks_97 : decode cX11_readWorks 97 = .ok (.iadd, 1) := by decide +kernel
theorem dX11_readWorks_98 : decode cX11_readWorks 98 = .ok (.iastore, 1) := by decide +kernel
theorem dX11_readWorks_99 : decode cX11_readWorks 99 = .ok (.return_, 1) := by decide +kernel
theorem dX11_readFloor_0 : decode cX11_readFloor 0 = .ok (.aload_n 0, 1) := by decide +kernel
theorem dX11_readFloor_1 : decode cX11_readFloor 1 = .ok (.getfield 33, 3) := by decide +kernel
theorem dX11_readFloor_4 : decode cX11_readFloor 4 = .ok (.aload_n 0, 1) := by decide +kernel
theorem dX11_readFloor_5 : decode cX11_readFloor 5 = .ok (.getfield 269, 3) := by decide +kernel
theorem dX11_readFloor_8 : decode cX11_readFloor 8 = .ok (.aload_n 0, 1) := by decide +kernel
theorem dX11_readFloor_9 : decode cX11_readFloor 9 = .ok (.iconst 1, 1) := by decide +kernel
theorem dX11_readFloor_10 : decode cX11_readFloor 10 = .ok (.bipush 20, 2) := by decide +kernel
theorem dX11_readFloor_12 : decode cX11_readFloor 12 = .ok (.invokevirtual 304, 3) := by decide +kernel
theorem dX11_readFloor_15 : decode cX11_readFloor 15 = .ok (.iastore, 1) := by decide +kernel
theorem dX11_readFloor_16 : decode cX11_readFloor 16 = .ok (.aload_n 0, 1) := by decide +kernel
theorem dX11_readFloor_17 : decode cX11_readFloor 17 = .ok (.getfield 36, 3) := by decide +kernel
theorem dX11_readFloor_20 : decode cX11_readFloor 20 = .ok (.aload_n 0, 1) := by decide +kernel
theorem dX11_readFloor_21 : decode cX11_readFloor 21 = .ok (.getfield 269, 3) := by decide +kernel
theorem dX11_readFloor_24 : decode cX11_readFloor 24 = .ok (.aload_n 0, 1) := by decide +kernel
theorem dX11_readFloor_25 : decode cX11_readFloor 25 = .ok (.iconst 1, 1) := by decide +kernel
theorem dX11_readFloor_26 : decode cX11_readFloor 26 = .ok (.bipush 20, 2) := by decide +kernel
theorem dX11_readFloor_28 : decode cX11_readFloor 28 = .ok (.invokevirtual 304, 3) := by decide +kernel
theorem dX11_readFloor_31 : decode cX11_readFloor 31 = .ok (.iastore, 1) := by decide +kernel
theorem dX11_readFloor_32 : decode cX11_readFloor 32 = .ok (.aload_n 0, 1) := by decide +kernel
theorem dX11_readFloor_33 : decode cX11_readFloor 33 = .ok (.aload_n 0, 1) := by decide +kernel
theorem dX11_readFloor_34 : decode cX11_readFloor 34 = .ok (.ldc2_w 172, 3) := by decide +kernel
theorem dX11_readFloor_37 : decode cX11_readFloor 37 = .ok (.invokevirtual 281, 3) := by decide +kernel
theorem dX11_readFloor_40 : decode cX11_readFloor 40 = .ok (.invokevirtual 301, 3) := by decide +kernel
theorem dX11_readFloor_43 : decode cX11_readFloor 43 = .ok (.aload_n 0, 1) := by decide +kernel
theorem dX11_readFloor_44 : decode cX11_readFloor 44 = .ok (.getfield 39, 3) := by decide +kernel
theorem dX11_readFloor_47 : decode cX11_readFloor 47 = .ok (.aload_n 0, 1) := by decide +kernel
theorem dX11_readFloor_48 : decode cX11_readFloor 48 = .ok (.getfield 269, 3) := by decide +kernel
theorem dX11_readFloor_51 : decode cX11_readFloor 51 = .ok (.aload_n 0, 1) := by decide +kernel
theorem dX11_readFloor_52 : decode cX11_readFloor 52 = .ok (.iconst 0, 1) := by decide +kernel
theorem dX11_readFloor_53 : decode cX11_readFloor 53 = .ok (.bipush 9, 2) := by decide +kernel
theorem dX11_readFloor_55 : decode cX11_readFloor 55 = .ok (.invokevirtual 304, 3) := by decide +kernel
theorem dX11_readFloor_58 : decode cX11_readFloor 58 = .ok (.iastore, 1) := by decide +kernel
theorem dX11_readFloor_59 : decode cX11_readFloor 59 = .ok (.aload_n 0, 1) := by decide +kernel
theorem dX11_readFloor_60 : decode cX11_readFloor 60 = .ok (.getfield 64, 3) := by decide +kernel
theorem dX11_readFloor_63 : decode cX11_readFloor 63 = .ok (.aload_n 0, 1) := by decide +kernel
theorem dX11_readFloor_64 : decode cX11_readFloor 64 = .ok (.getfield 269, 3) := by decide +kernel
theorem dX11_readFloor_67 : decode cX11_readFloor 67 = .ok (.iconst 1, 1) := by decide +kernel
theorem dX11_readFloor_68 : decode cX11_readFloor 68 = .ok (.bastore, 1) := by decide +kernel
theorem dX11_readFloor_69 : decode cX11_readFloor 69 = .ok (.return_, 1) := by decide +kernel
theorem dX11_freshName_0 : decode cX11_freshName 0 = .ok (.iconst 0, 1) := by decide +kernel
theorem dX11_freshName_1 : decode cX11_freshName 1 = .ok (.istore_n 1, 1) := by decide +kernel
theorem dX11_freshName_2 : decode cX11_freshName 2 = .ok (.iload_n 1, 1) := by decide +kernel
theorem dX11_freshName_3 : decode cX11_freshName 3 = .ok (.aload_n 0, 1) := by decide +kernel
theorem dX11_freshName_4 : decode cX11_freshName 4 = .ok (.getfield 30, 3) := by decide +kernel
theorem dX11_freshName_7 : decode cX11_freshName 7 = .ok (.aload_n 0, 1) := by decide +kernel
theorem dX11_freshName_8 : decode cX11_freshName 8 = .ok (.getfield 269, 3) := by decide +kernel
theorem dX11_freshName_11 : decode cX11_freshName 11 = .ok (.iaload, 1) := by decide +kernel
theorem dX11_freshName_12 : decode cX11_freshName 12 = .ok (.if_icmp .ge 48, 3) := by decide +kernel
theorem dX11_freshName_15 : decode cX11_freshName 15 = .ok (.aload_n 0, 1) := by decide +kernel
theorem dX11_freshName_16 : decode cX11_freshName 16 = .ok (.getfield 222, 3) := by decide +kernel
theorem dX11_freshName_19 : decode cX11_freshName 19 = .ok (.iconst 2, 1) := by decide +kernel
theorem dX11_freshName_20 : decode cX11_freshName 20 = .ok (.if_icmp .ne 34, 3) := by decide +kernel
theorem dX11_freshName_23 : decode cX11_freshName 23 = .ok (.aload_n 0, 1) := by decide +kernel
theorem dX11_freshName_24 : decode cX11_freshName 24 = .ok (.getfield 67, 3) := by decide +kernel
theorem dX11_freshName_27 : decode cX11_freshName 27 = .ok (.bipush 16, 2) := by decide +kernel
theorem dX11_freshName_29 : decode cX11_freshName 29 = .ok (.aload_n 0, 1) := by decide +kernel
theorem dX11_freshName_30 : decode cX11_freshName 30 = .ok (.getfield 269, 3) := by decide +kernel
theorem dX11_freshName_33 : decode cX11_freshName 33 = .ok (.imul, 1) := by decide +kernel
theorem dX11_freshName_34 : decode cX11_freshName 34 = .ok (.iload_n 1, 1) := by decide +kernel
theorem dX11_freshName_35 : decode cX11_freshName 35 = .ok (.iadd, 1) := by decide +kernel
theorem dX11_freshName_36 : decode cX11_freshName 36 = .ok (.laload, 1) := by decide +kernel
theorem dX11_freshName_37 : decode cX11_freshName 37 = .ok (.aload_n 0, 1) := by decide +kernel
theorem dX11_freshName_38 : decode cX11_freshName 38 = .ok (.getfield 229, 3) := by decide +kernel
theorem dX11_freshName_41 : decode cX11_freshName 41 = .ok (.lcmp, 1) := by decide +kernel
theorem dX11_freshName_42 : decode cX11_freshName 42 = .ok (.ifCond .ne 12, 3) := by decide +kernel
theorem dX11_freshName_45 : decode cX11_freshName 45 = .ok (.aload_n 0, 1) := by decide +kernel
theorem dX11_freshName_46 : decode cX11_freshName 46 = .ok (.iconst 3, 1) := by decide +kernel
theorem dX11_freshName_47 : decode cX11_freshName 47 = .ok (.aload_n 0, 1) := by decide +kernel
theorem dX11_freshName_48 : decode cX11_freshName 48 = .ok (.getfield 215, 3) := by decide +kernel
theorem dX11_freshName_51 : decode cX11_freshName 51 = .ok (.invokevirtual 246, 3) := by decide +kernel
theorem dX11_freshName_54 : decode cX11_freshName 54 = .ok (.iinc 1 1, 3) := by decide +kernel
theorem dX11_freshName_57 : decode cX11_freshName 57 = .ok (.goto (-55), 3) := by decide +kernel
theorem dX11_freshName_60 : decode cX11_freshName 60 = .ok (.aload_n 0, 1) := by decide +kernel
theorem dX11_freshName_61 : decode cX11_freshName 61 = .ok (.getfield 67, 3) := by decide +kernel
theorem dX11_freshName_64 : decode cX11_freshName 64 = .ok (.bipush 16, 2) := by decide +kernel
theorem dX11_freshName_66 : decode cX11_freshName 66 = .ok (.aload_n 0, 1) := by decide +kernel
theorem dX11_freshName_67 : decode cX11_freshName 67 = .ok (.getfield 269, 3) := by decide +kernel
theorem dX11_freshName_70 : decode cX11_freshName 70 = .ok (.imul, 1) := by decide +kernel
theorem dX11_freshName_71 : decode cX11_freshName 71 = .ok (.aload_n 0, 1) := by decide +kernel
theorem dX11_freshName_72 : decode cX11_freshName 72 = .ok (.getfield 30, 3) := by decide +kernel
theorem dX11_freshName_75 : decode cX11_freshName 75 = .ok (.aload_n 0, 1) := by decide +kernel
theorem dX11_freshName_76 : decode cX11_freshName 76 = .ok (.getfield 269, 3) := by decide +kernel
theorem dX11_freshName_79 : decode cX11_freshName 79 = .ok (.iaload, 1) := by decide +kernel
theorem dX11_freshName_80 : decode cX11_freshName 80 = .ok (.iadd, 1) := by decide +kernel
theorem dX11_freshName_81 : decode cX11_freshName 81 = .ok (.aload_n 0, 1) := by decide +kernel
theorem dX11_freshName_82 : decode cX11_freshName 82 = .ok (.getfield 229, 3) := by decide +kernel
theorem dX11_freshName_85 : decode cX11_freshName 85 = .ok (.lastore, 1) := by decide +kernel
theorem dX11_freshName_86 : decode cX11_freshName 86 = .ok (.aload_n 0, 1) := by decide +kernel
theorem dX11_freshName_87 : decode cX11_freshName 87 = .ok (.aload_n 0, 1) := by decide +kernel
theorem dX11_freshName_88 : decode cX11_freshName 88 = .ok (.getfield 222, 3) := by decide +kernel
theorem dX11_freshName_91 : decode cX11_freshName 91 = .ok (.iconst 2, 1) := by decide +kernel
theorem dX11_freshName_92 : decode cX11_freshName 92 = .ok (.if_icmp .ne 7, 3) := by decide +kernel
theorem dX11_freshName_95 : decode cX11_freshName 95 = .ok (.iconst 1, 1) := by decide +kernel
theorem dX11_freshName_96 : decode cX11_freshName 96 = .ok (.goto 4, 3) := by decide +kernel
theorem dX11_freshName_99 : decode cX11_freshName 99 = .ok (.iconst 0, 1) := by decide +kernel
theorem dX11_freshName_100 : decode cX11_freshName 100 = .ok (.invokevirtual 301, 3) := by decide +kernel
theorem dX11_freshName_103 : decode cX11_freshName 103 = .ok (.aload_n 0, 1) := by decide +kernel
theorem dX11_freshName_104 : decode cX11_freshName 104 = .ok (.getfield 30, 3) := by decide +kernel
theorem dX11_freshName_107 : decode cX11_freshName 107 = .ok (.aload_n 0, 1) := by decide +kernel
theorem dX11_freshName_108 : decode cX11_freshName 108 = .ok (.getfield 269, 3) := by decide +kernel
theorem dX11_freshName_111 : decode cX11_freshName 111 = .ok (.dup2, 1) := by decide +kernel
theorem dX11_freshName_112 : decode cX11_freshName 112 = .ok (.iaload, 1) := by decide +kernel
theorem dX11_freshName_113 : decode cX11_freshName 113 = .ok (.iconst 1, 1) := by decide +kernel
theorem dX11_freshName_114 : decode cX11_freshName 114 = .ok (.iadd, 1) := by decide +kernel
theorem dX11_freshName_115 : decode cX11_freshName 115 = .ok (.iastore, 1) := by decide +kernel
theorem dX11_freshName_116 : decode cX11_freshName 116 = .ok (.return_, 1) := by decide +kernel
theorem dX11_readWork_0 : decode cX11_readWork 0 = .ok (.aload_n 0, 1) := by decide +kernel
theorem dX11_readWork_1 : decode cX11_readWork 1 = .ok (.invokevirtual 308, 3) := by decide +kernel
theorem dX11_readWork_4 : decode cX11_readWork 4 = .ok (.aload_n 0, 1) := by decide +kernel
theorem dX11_readWork_5 : decode cX11_readWork 5 = .ok (.getfield 24, 3) := by decide +kernel
theorem dX11_readWork_8 : decode cX11_readWork 8 = .ok (.aload_n 0, 1) := by decide +kernel
theorem dX11_readWork_9 : decode cX11_readWork 9 = .ok (.getfield 269, 3) := by decide +kernel
theorem dX11_readWork_12 : decode cX11_readWork 12 = .ok (.dup2, 1) := by decide +kernel
theorem dX11_readWork_13 : decode cX11_readWork 13 = .ok (.iaload, 1) := by decide +kernel
theorem dX11_readWork_14 : decode cX11_readWork 14 = .ok (.iconst 1, 1) := by decide +kernel
theorem dX11_readWork_15 : decode cX11_readWork 15 = .ok (.iadd, 1) := by decide +kernel
theorem dX11_readWork_16 : decode cX11_readWork 16 = .ok (.iastore, 1) := by decide +kernel
theorem dX11_readWork_17 : decode cX11_readWork 17 = .ok (.return_, 1) := by decide +kernel
theorem dX11_readPart_0 : decode cX11_readPart 0 = .ok (.bipush 12, 2) := by decide +kernel
theorem dX11_readPart_2 : decode cX11_readPart 2 = .ok (.aload_n 0, 1) := by decide +kernel
theorem dX11_readPart_3 : decode cX11_readPart 3 = .ok (.getfield 269, 3) := by decide +kernel
theorem dX11_readPart_6 : decode cX11_readPart 6 = .ok (.imul, 1) := by decide +kernel
theorem dX11_readPart_7 : decode cX11_readPart 7 = .ok (.aload_n 0, 1) := by decide +kernel
theorem dX11_readPart_8 : decode cX11_readPart 8 = .ok (.getfield 27, 3) := by decide +kernel
theorem dX11_readPart_11 : decode cX11_readPart 11 = .ok (.aload_n 0, 1) := by decide +kernel
theorem dX11_readPart_12 : decode cX11_readPart 12 = .ok (.getfield 269, 3) := by decide +kernel
theorem dX11_readPart_15 : decode cX11_readPart 15 = .ok (.iaload, 1) := by decide +kernel
theorem dX11_readPart_16 : decode cX11_readPart 16 = .ok (.iadd, 1) := by decide +kernel
theorem dX11_readPart_17 : decode cX11_readPart 17 = .ok (.istore_n 2, 1) := by decide +kernel
theorem dX11_readPart_18 : decode cX11_readPart 18 = .ok (.aload_n 0, 1) := by decide +kernel
theorem dX11_readPart_19 : decode cX11_readPart 19 = .ok (.invokevirtual 308, 3) := by decide +kernel
theorem dX11_readPart_22 : decode cX11_readPart 22 = .ok (.aload_n 0, 1) := by decide +kernel
theorem dX11_readPart_23 : decode cX11_readPart 23 = .ok (.aload_n 0, 1) := by decide +kernel
theorem dX11_readPart_24 : decode cX11_readPart 24 = .ok (.ldc2_w 180, 3) := by decide +kernel
theorem dX11_readPart_27 : decode cX11_readPart 27 = .ok (.invokevirtual 281, 3) := by decide +kernel
theorem dX11_readPart_30 : decode cX11_readPart 30 = .ok (.invokevirtual 301, 3) := by decide +kernel
theorem dX11_readPart_33 : decode cX11_readPart 33 = .ok (.aload_n 0, 1) := by decide +kernel
theorem dX11_readPart_34 : decode cX11_readPart 34 = .ok (.getfield 45, 3) := by decide +kernel
theorem dX11_readPart_37 : decode cX11_readPart 37 = .ok (.iload_n 2, 1) := by decide +kernel
theorem dX11_readPart_38 : decode cX11_readPart 38 = .ok (.aload_n 0, 1) := by decide +kernel
theorem dX11_readPart_39 : decode cX11_readPart 39 = .ok (.iconst 0, 1) := by decide +kernel
theorem dX11_readPart_40 : decode cX11_readPart 40 = .ok (.bipush 19, 2) := by decide +kernel
theorem dX11_readPart_42 : decode cX11_readPart 42 = .ok (.invokevirtual 304, 3) := by decide +kernel
theorem dX11_readPart_45 : decode cX11_readPart 45 = .ok (.iastore, 1) := by decide +kernel
theorem dX11_readPart_46 : decode cX11_readPart 46 = .ok (.aload_n 0, 1) := by decide +kernel
theorem dX11_readPart_47 : decode cX11_readPart 47 = .ok (.getfield 48, 3) := by decide +kernel
theorem dX11_readPart_50 : decode cX11_readPart 50 = .ok (.iload_n 2, 1) := by decide +kernel
theorem dX11_readPart_51 : decode cX11_readPart 51 = .ok (.aload_n 0, 1) := by decide +kernel
theorem dX11_readPart_52 : decode cX11_readPart 52 = .ok (.iconst 0, 1) := by decide +kernel
theorem dX11_readPart_53 : decode cX11_readPart 53 = .ok (.bipush 19, 2) := by decide +kernel
theorem dX11_readPart_55 : decode cX11_readPart 55 = .ok (.invokevirtual 304, 3) := by decide +kernel
theorem dX11_readPart_58 : decode cX11_readPart 58 = .ok (.iastore, 1) := by decide +kernel
theorem dX11_readPart_59 : decode cX11_readPart 59 = .ok (.aload_n 0, 1) := by decide +kernel
theorem dX11_readPart_60 : decode cX11_readPart 60 = .ok (.getfield 51, 3) := by decide +kernel
theorem dX11_readPart_63 : decode cX11_readPart 63 = .ok (.iload_n 2, 1) := by decide +kernel
theorem dX11_readPart_64 : decode cX11_readPart 64 = .ok (.iconst 0, 1) := by decide +kernel
theorem dX11_readPart_65 : decode cX11_readPart 65 = .ok (.iastore, 1) := by decide +kernel
theorem dX11_readPart_66 : decode cX11_readPart 66 = .ok (.aload_n 0, 1) := by decide +kernel
theorem dX11_readPart_67 : decode cX11_readPart 67 = .ok (.getfield 60, 3) := by decide +kernel
theorem dX11_readPart_70 : decode cX11_readPart 70 = .ok (.iload_n 2, 1) := by decide +kernel
theorem dX11_readPart_71 : decode cX11_readPart 71 = .ok (.iload_n 1, 1) := by decide +kernel
theorem dX11_readPart_72 : decode cX11_readPart 72 = .ok (.bastore, 1) := by decide +kernel
theorem dX11_readPart_73 : decode cX11_readPart 73 = .ok (.aload_n 0, 1) := by decide +kernel
theorem dX11_readPart_74 : decode cX11_readPart 74 = .ok (.getfield 42, 3) := by decide +kernel
theorem dX11_readPart_77 : decode cX11_readPart 77 = .ok (.iload_n 2, 1) := by decide +kernel
theorem dX11_readPart_78 : decode cX11_readPart 78 = .ok (.aload_n 0, 1) := by decide +kernel
theorem dX11_readPart_79 : decode cX11_readPart 79 = .ok (.getfield 24, 3) := by decide +kernel
theorem dX11_readPart_82 : decode cX11_readPart 82 = .ok (.aload_n 0, 1) := by decide +kernel
theorem dX11_readPart_83 : decode cX11_readPart 83 = .ok (.getfield 269, 3) := by decide +kernel
theorem dX11_readPart_86 : decode cX11_readPart 86 = .ok (.iaload, 1) := by decide +kernel
theorem dX11_readPart_87 : decode cX11_readPart 87 = .ok (.iconst 1, 1) := by decide +kernel
theorem dX11_readPart_88 : decode cX11_readPart 88 = .ok (.isub, 1) := by decide +kernel
theorem dX11_readPart_89 : decode cX11_readPart 89 = .ok (.iastore, 1) := by decide +kernel
theorem dX11_readPart_90 : decode cX11_readPart 90 = .ok (.aload_n 0, 1) := by decide +kernel
theorem dX11_readPart_91 : decode cX11_readPart 91 = .ok (.invokevirtual 250, 3) := by decide +kernel
theorem dX11_readPart_94 : decode cX11_readPart 94 = .ok (.ifCond .eq 15, 3) := by decide +kernel
theorem dX11_readPart_97 : decode cX11_readPart 97 = .ok (.aload_n 0, 1) := by decide +kernel
theorem dX11_readPart_98 : decode cX11_readPart 98 = .ok (.getfield 222, 3) := by decide +kernel
theorem dX11_readPart_101 : decode cX11_readPart 101 = .ok (.iconst 2, 1) := by decide +kernel
theorem dX11_readPart_102 : decode cX11_readPart 102 = .ok (.if_icmp .eq 7, 3) := by decide +kernel
theorem dX11_readPart_105 : decode cX11_readPart 105 = .ok (.aload_n 0, 1) := by decide +kernel
theorem dX11_readPart_106 : decode cX11_readPart 106 = .ok (.invokevirtual 257, 3) := by decide +kernel
theorem dX11_readPart_109 : decode cX11_readPart 109 = .ok (.aload_n 0, 1) := by decide +kernel
theorem dX11_readPart_110 : decode cX11_readPart 110 = .ok (.invokevirtual 250, 3) := by decide +kernel
theorem dX11_readPart_113 : decode cX11_readPart 113 = .ok (.ifCond .eq 20, 3) := by decide +kernel
theorem dX11_readPart_116 : decode cX11_readPart 116 = .ok (.aload_n 0, 1) := by decide +kernel
theorem dX11_readPart_117 : decode cX11_readPart 117 = .ok (.getfield 222, 3) := by decide +kernel
theorem dX11_readPart_120 : decode cX11_readPart 120 = .ok (.iconst 2, 1) := by decide +kernel
theorem dX11_readPart_121 : decode cX11_readPart 121 = .ok (.if_icmp .ne 12, 3) := by decide +kernel
theorem dX11_readPart_124 : decode cX11_readPart 124 = .ok (.aload_n 0, 1) := by decide +kernel
theorem dX11_readPart_125 : decode cX11_readPart 125 = .ok (.iload_n 2, 1) := by decide +kernel
theorem dX11_readPart_126 : decode cX11_readPart 126 = .ok (.iload_n 1, 1) := by decide +kernel
theorem dX11_readPart_127 : decode cX11_readPart 127 = .ok (.invokevirtual 311, 3) := by decide +kernel
theorem dX11_readPart_130 : decode cX11_readPart 130 = .ok (.goto (-21), 3) := by decide +kernel
theorem dX11_readPart_133 : decode cX11_readPart 133 = .ok (.aload_n 0, 1) := by decide +kernel
theorem dX11_readPart_134 : decode cX11_readPart 134 = .ok (.getfield 27, 3) := by decide +kernel
theorem dX11_readPart_137 : decode cX11_readPart 137 = .ok (.aload_n 0, 1) := by decide +kernel
theorem dX11_readPart_138 : decode cX11_readPart 138 = .ok (.getfield 269, 3) := by decide +kernel
theorem dX11_readPart_141 : decode cX11_readPart 141 = .ok (.dup2, 1) := by decide +kernel
theorem dX11_readPart_142 : decode cX11_readPart 142 = .ok (.iaload, 1) := by decide +kernel
theorem dX11_readPart_143 : decode cX11_readPart 143 = .ok (.iconst 1, 1) := by decide +kernel
theorem dX11_readPart_144 : decode cX11_readPart 144 = .ok (.iadd, 1) := by decide +kernel
theorem dX11_readPart_145 : decode cX11_readPart 145 = .ok (.iastore, 1) := by decide +kernel
theorem dX11_readPart_146 : decode cX11_readPart 146 = .ok (.aload_n 0, 1) := by decide +kernel
theorem dX11_readPart_147 : decode cX11_readPart 147 = .ok (.getfield 57, 3) := by decide +kernel
theorem dX11_readPart_150 : decode cX11_readPart 150 = .ok (.iconst 4, 1) := by decide +kernel
theorem dX11_readPart_151 : decode cX11_readPart 151 = .ok (.aload_n 0, 1) := by decide +kernel
theorem dX11_readPart_152 : decode cX11_readPart 152 = .ok (.getfield 269, 3) := by decide +kernel
theorem dX11_readPart_155 : decode cX11_readPart 155 = .ok (.imul, 1) := by decide +kernel
theorem dX11_readPart_156 : decode cX11_readPart 156 = .ok (.aload_n 0, 1) := by decide +kernel
theorem dX11_readPart_157 : decode cX11_readPart 157 = .ok (.getfield 24, 3) := by decide +kernel
theorem dX11_readPart_160 : decode cX11_readPart 160 = .ok (.aload_n 0, 1) := by decide +kernel
theorem dX11_readPart_161 : decode cX11_readPart 161 = .ok (.getfield 269, 3) := by decide +kernel
theorem dX11_readPart_164 : decode cX11_readPart 164 = .ok (.iaload, 1) := by decide +kernel
theorem dX11_readPart_165 : decode cX11_readPart 165 = .ok (.iadd, 1) := by decide +kernel
theorem dX11_readPart_166 : decode cX11_readPart 166 = .ok (.iconst 1, 1) := by decide +kernel
theorem dX11_readPart_167 : decode cX11_readPart 167 = .ok (.isub, 1) := by decide +kernel
theorem dX11_readPart_168 : decode cX11_readPart 168 = .ok (.dup2, 1) := by decide +kernel
theorem dX11_readPart_169 : decode cX11_readPart 169 = .ok (.iaload, 1) := by decide +kernel
theorem dX11_readPart_170 : decode cX11_readPart 170 = .ok (.iconst 1, 1) := by decide +kernel
theorem dX11_readPart_171 : decode cX11_readPart 171 = .ok (.iadd, 1) := by decide +kernel
theorem dX11_readPart_172 : decode cX11_readPart 172 = .ok (.iastore, 1) := by decide +kernel
theorem dX11_readPart_173 : decode cX11_readPart 173 = .ok (.return_, 1) := by decide +kernel
theorem dX11_stepOf_0 : decode cX11_stepOf 0 = .ok (.iload_n 1, 1) := by decide +kernel
theorem dX11_stepOf_1 : decode cX11_stepOf 1 = .ok (.ifCond .eq 18, 3) := by decide +kernel
theorem dX11_stepOf_4 : decode cX11_stepOf 4 = .ok (.iload_n 0, 1) := by decide +kernel
theorem dX11_stepOf_5 : decode cX11_stepOf 5 = .ok (.bipush 104, 2) := by decide +kernel
theorem dX11_stepOf_7 : decode cX11_stepOf 7 = .ok (.if_icmp .gt 10, 3) := by decide +kernel
theorem dX11_stepOf_10 : decode cX11_stepOf 10 = .ok (.iload_n 0, 1) := by decide +kernel
theorem dX11_stepOf_11 : decode cX11_stepOf 11 = .ok (.bipush 97, 2) := by decide +kernel
theorem dX11_stepOf_13 : decode cX11_stepOf 13 = .ok (.isub, 1) := by decide +kernel
theorem dX11_stepOf_14 : decode cX11_stepOf 14 = .ok (.goto 4, 3) := by decide +kernel
theorem dX11_stepOf_17 : decode cX11_stepOf 17 = .ok (.iconst (-1), 1) := by decide +kernel
theorem dX11_stepOf_18 : decode cX11_stepOf 18 = .ok (.ireturn, 1) := by decide +kernel
theorem dX11_stepOf_19 : decode cX11_stepOf 19 = .ok (.iload_n 0, 1) := by decide +kernel
theorem dX11_stepOf_20 : decode cX11_stepOf 20 = .ok (.bipush 110, 2) := by decide +kernel
theorem dX11_stepOf_22 : decode cX11_stepOf 22 = .ok (.if_icmp .ne 7, 3) := by decide +kernel
theorem dX11_stepOf_25 : decode cX11_stepOf 25 = .ok (.iconst 0, 1) := by decide +kernel
theorem dX11_stepOf_26 : decode cX11_stepOf 26 = .ok (.goto 54, 3) := by decide +kernel
theorem dX11_stepOf_29 : decode cX11_stepOf 29 = .ok (.iload_n 0, 1) := by decide +kernel
theorem dX11_stepOf_30 : decode cX11_stepOf 30 = .ok (.bipush 101, 2) := by decide +kernel
theorem dX11_stepOf_32 : decode cX11_stepOf 32 = .ok (.if_icmp .ne 7, 3) := by decide +kernel
theorem dX11_stepOf_35 : decode cX11_stepOf 35 = .ok (.iconst 1, 1) := by decide +kernel
theorem dX11_stepOf_36 : decode cX11_stepOf 36 = .ok (.goto 44, 3) := by decide +kernel
theorem dX11_stepOf_39 : decode cX11_stepOf 39 = .ok (.iload_n 0, 1) := by decide +kernel
theorem dX11_stepOf_40 : decode cX11_stepOf 40 = .ok (.bipush 115, 2) := by decide +kernel
theorem dX11_stepOf_42 : decode cX11_stepOf 42 = .ok (.if_icmp .ne 7, 3) := by decide +kernel
theorem dX11_stepOf_45 : decode cX11_stepOf 45 = .ok (.iconst 2, 1) := by decide +kernel
theorem dX11_stepOf_46 : decode cX11_stepOf 46 = .ok (.goto 34, 3) := by decide +kernel
theorem dX11_stepOf_49 : decode cX11_stepOf 49 = .ok (.iload_n 0, 1) := by decide +kernel
theorem dX11_stepOf_50 : decode cX11_stepOf 50 = .ok (.bipush 119, 2) := by decide +kernel
theorem dX11_stepOf_52 : decode cX11_stepOf 52 = .ok (.if_icmp .ne 7, 3) := by decide +kernel
theorem dX11_stepOf_55 : decode cX11_stepOf 55 = .ok (.iconst 3, 1) := by decide +kernel
theorem dX11_stepOf_56 : decode cX11_stepOf 56 = .ok (.goto 24, 3) := by decide +kernel
theorem dX11_stepOf_59 : decode cX11_stepOf 59 = .ok (.iload_n 0, 1) := by decide +kernel
theorem dX11_stepOf_60 : decode cX11_stepOf 60 = .ok (.bipush 111, 2) := by decide +kernel
theorem dX11_stepOf_62 : decode cX11_stepOf 62 = .ok (.if_icmp .ne 7, 3) := by decide +kernel
theorem dX11_stepOf_65 : decode cX11_stepOf 65 = .ok (.iconst 4, 1) := by decide +kernel
theorem dX11_stepOf_66 : decode cX11_stepOf 66 = .ok (.goto 14, 3) := by decide +kernel
theorem dX11_stepOf_69 : decode cX11_stepOf 69 = .ok (.iload_n 0, 1) := by decide +kernel
theorem dX11_stepOf_70 : decode cX11_stepOf 70 = .ok (.bipush 120, 2) := by decide +kernel
theorem dX11_stepOf_72 : decode cX11_stepOf 72 = .ok (.if_icmp .ne 7, 3) := by decide +kernel
theorem dX11_stepOf_75 : decode cX11_stepOf 75 = .ok (.iconst 5, 1) := by decide +kernel
theorem dX11_stepOf_76 : decode cX11_stepOf 76 = .ok (.goto 4, 3) := by decide +kernel
theorem dX11_stepOf_79 : decode cX11_stepOf 79 = .ok (.iconst (-1), 1) := by decide +kernel
theorem dX11_stepOf_80 : decode cX11_stepOf 80 = .ok (.ireturn, 1) := by decide +kernel
theorem dX11_readSteps_0 : decode cX11_readSteps 0 = .ok (.aload_n 0, 1) := by decide +kernel
theorem dX11_readSteps_1 : decode cX11_readSteps 1 = .ok (.getfield 51, 3) := by decide +kernel
theorem dX11_readSteps_4 : decode cX11_readSteps 4 = .ok (.iload_n 1, 1) := by decide +kernel
theorem dX11_readSteps_5 : decode cX11_readSteps 5 = .ok (.iaload, 1) := by decide +kernel
theorem dX11_readSteps_6 : decode cX11_readSteps 6 = .ok (.aload_n 0, 1) := by decide +kernel
theorem dX11_readSteps_7 : decode cX11_readSteps 7 = .ok (.getfield 212, 3) := by decide +kernel
theorem dX11_readSteps_10 : decode cX11_readSteps 10 = .ok (.iadd, 1) := by decide +kernel
theorem dX11_readSteps_11 : decode cX11_readSteps 11 = .ok (.aload_n 0, 1) := by decide +kernel
theorem dX11_readSteps_12 : decode cX11_readSteps 12 = .ok (.getfield 215, 3) := by decide +kernel
theorem dX11_readSteps_15 : decode cX11_readSteps 15 = .ok (.isub, 1) := by decide +kernel
theorem dX11_readSteps_16 : decode cX11_readSteps 16 = .ok (.bipush 32, 2) := by decide +kernel
theorem dX11_readSteps_18 : decode cX11_readSteps 18 = .ok (.if_icmp .gt 7, 3) := by decide +kernel
theorem dX11_readSteps_21 : decode cX11_readSteps 21 = .ok (.iconst 1, 1) := by decide +kernel
theorem dX11_readSteps_22 : decode cX11_readSteps 22 = .ok (.goto 4, 3) := by decide +kernel
theorem dX11_readSteps_25 : decode cX11_readSteps 25 = .ok (.iconst 0, 1) := by decide +kernel
theorem dX11_readSteps_26 : decode cX11_readSteps 26 = .ok (.istore_n 3, 1) := by decide +kernel
theorem dX11_readSteps_27 : decode cX11_readSteps 27 = .ok (.aload_n 0, 1) := by decide +kernel
theorem dX11_readSteps_28 : decode cX11_readSteps 28 = .ok (.getfield 215, 3) := by decide +kernel
theorem dX11_readSteps_31 : decode cX11_readSteps 31 = .ok (.istore 4, 2) := by decide +kernel
theorem dX11_readSteps_33 : decode cX11_readSteps 33 = .ok (.iload 4, 2) := by decide +kernel
theorem dX11_readSteps_35 : decode cX11_readSteps 35 = .ok (.aload_n 0, 1) := by decide +kernel
theorem dX11_readSteps_36 : decode cX11_readSteps 36 = .ok (.getfield 212, 3) := by decide +kernel
theorem dX11_readSteps_39 : decode cX11_readSteps 39 = .ok (.if_icmp .ge 32, 3) := by decide +kernel
theorem dX11_readSteps_42 : decode cX11_readSteps 42 = .ok (.iload_n 3, 1) := by decide +kernel
theorem dX11_readSteps_43 : decode cX11_readSteps 43 = .ok (.ifCond .eq 20, 3) := by decide +kernel
theorem dX11_readSteps_46 : decode cX11_readSteps 46 = .ok (.aload_n 0, 1) := by decide +kernel
theorem dX11_readSteps_47 : decode cX11_readSteps 47 = .ok (.iload 4, 2) := by decide +kernel
theorem dX11_readSteps_49 : decode cX11_readSteps 49 = .ok (.invokevirtual 218, 3) := by decide +kernel
theorem dX11_readSteps_52 : decode cX11_readSteps 52 = .ok (.iload_n 2, 1) := by decide +kernel
theorem dX11_readSteps_53 : decode cX11_readSteps 53 = .ok (.invokestatic 315, 3) := by decide +kernel
theorem dX11_readSteps_56 : decode cX11_readSteps 56 = .ok (.ifCond .lt 7, 3) := by decide +kernel
theorem dX11_readSteps_59 : decode cX11_readSteps 59 = .ok (.iconst 1, 1) := by decide +kernel
theorem dX11_readSteps_60 : decode cX11_readSteps 60 = .ok (.goto 4, 3) := by decide +kernel
theorem dX11_readSteps_63 : decode cX11_readSteps 63 = .ok (.iconst 0, 1) := by decide +kernel
theorem dX11_readSteps_64 : decode cX11_readSteps 64 = .ok (.istore_n 3, 1) := by decide +kernel
theorem dX11_readSteps_65 : decode cX11_readSteps 65 = .ok (.iinc 4 1, 3) := by decide +kernel
theorem dX11_readSteps_68 : decode cX11_readSteps 68 = .ok (.goto (-35), 3) := by decide +kernel
theorem dX11_readSteps_71 : decode cX11_readSteps 71 = .ok (.iload_n 3, 1) := by decide +kernel
theorem dX11_readSteps_72 : decode cX11_readSteps 72 = .ok (.ifCond .ne 13, 3) := by decide +kernel
theorem dX11_readSteps_75 : decode cX11_readSteps 75 = .ok (.aload_n 0, 1) := by decide +kernel
theorem dX11_readSteps_76 : decode cX11_readSteps 76 = .ok (.iconst 5, 1) := by decide +kernel
theorem dX11_readSteps_77 : decode cX11_readSteps 77 = .ok (.aload_n 0, 1) := by decide +kernel
theorem dX11_readSteps_78 : decode cX11_readSteps 78 = .ok (.getfield 215, 3) := by decide +kernel
theorem dX11_readSteps_81 : decode cX11_readSteps 81 = .ok (.invokevirtual 246, 3) := by decide +kernel
theorem dX11_readSteps_84 : decode cX11_readSteps 84 = .ok (.return_, 1) := by decide +kernel
theorem dX11_readSteps_85 : decode cX11_readSteps 85 = .ok (.aload_n 0, 1) := by decide +kernel
theorem dX11_readSteps_86 : decode cX11_readSteps 86 = .ok (.getfield 215, 3) := by decide +kernel
theorem dX11_readSteps_89 : decode cX11_readSteps 89 = .ok (.istore 4, 2) := by decide +kernel
theorem dX11_readSteps_91 : decode cX11_readSteps 91 = .ok (.iload 4, 2) := by decide +kernel
theorem dX11_readSteps_93 : decode cX11_readSteps 93 = .ok (.aload_n 0, 1) := by decide +kernel
theorem dX11_readSteps_94 : decode cX11_readSteps 94 = .ok (.getfield 212, 3) := by decide +kernel
theorem dX11_readSteps_97 : decode cX11_readSteps 97 = .ok (.if_icmp .ge 45, 3) := by decide +kernel
theorem dX11_readSteps_100 : decode cX11_readSteps 100 = .ok (.aload_n 0, 1) := by decide +kernel
theorem dX11_readSteps_101 : decode cX11_readSteps 101 = .ok (.getfield 54, 3) := by decide +kernel
theorem dX11_readSteps_104 : decode cX11_readSteps 104 = .ok (.bipush 32, 2) := by decide +kernel
theorem dX11_readSteps_106 : decode cX11_readSteps 106 = .ok (.iload_n 1, 1) := by decide +kernel
theorem dX11_readSteps_107 : decode cX11_readSteps 107 = .ok (.imul, 1) := by decide +kernel
theorem dX11_readSteps_108 : decode cX11_readSteps 108 = .ok (.aload_n 0, 1) := by decide +kernel
theorem dX11_readSteps_109 : decode cX11_readSteps 109 = .ok (.getfield 51, 3) := by decide +kernel
theorem dX11_readSteps_112 : decode cX11_readSteps 112 = .ok (.iload_n 1, 1) := by decide +kernel
theorem dX11_readSteps_113 : decode cX11_readSteps 113 = .ok (.iaload, 1) := by decide +kernel
theorem dX11_readSteps_114 : decode cX11_readSteps 114 = .ok (.iadd, 1) := by decide +kernel
theorem dX11_readSteps_115 : decode cX11_readSteps 115 = .ok (.aload_n 0, 1) := by decide +kernel
theorem dX11_readSteps_116 : decode cX11_readSteps 116 = .ok (.iload 4, 2) := by decide +kernel
theorem dX11_readSteps_118 : decode cX11_readSteps 118 = .ok (.invokevirtual 218, 3) := by decide +kernel
theorem dX11_readSteps_121 : decode cX11_readSteps 121 = .ok (.iload_n 2, 1) := by decide +kernel
theorem dX11_readSteps_122 : decode cX11_readSteps 122 = .ok (.invokestatic 315, 3) := by decide +kernel
theorem dX11_readSteps_125 : decode cX11_readSteps 125 = .ok (.iastore, 1) := by decide +kernel
theorem dX11_readSteps_126 : decode cX11_readSteps 126 = .ok (.aload_n 0, 1) := by decide +kernel
theorem dX11_readSteps_127 : decode cX11_readSteps 127 = .ok (.getfield 51, 3) := by decide +kernel
theorem dX11_readSteps_130 : decode cX11_readSteps 130 = .ok (.iload_n 1, 1) := by decide +kernel
theorem dX11_readSteps_131 : decode cX11_readSteps 131 = .ok (.dup2, 1) := by decide +kernel
theorem dX11_readSteps_132 : decode cX11_readSteps 132 = .ok (.iaload, 1) := by decide +kernel
theorem dX11_readSteps_133 : decode cX11_readSteps 133 = .ok (.iconst 1, 1) := by decide +kernel
theorem dX11_readSteps_134 : decode cX11_readSteps 134 = .ok (.iadd, 1) := by decide +kernel
theorem dX11_readSteps_135 : decode cX11_readSteps 135 = .ok (.iastore, 1) := by decide +kernel
theorem dX11_readSteps_136 : decode cX11_readSteps 136 = .ok (.iinc 4 1, 3) := by decide +kernel
theorem dX11_readSteps_139 : decode cX11_readSteps 139 = .ok (.goto (-48), 3) := by decide +kernel
theorem dX11_readSteps_142 : decode cX11_readSteps 142 = .ok (.aload_n 0, 1) := by decide +kernel
theorem dX11_readSteps_143 : decode cX11_readSteps 143 = .ok (.invokevirtual 254, 3) := by decide +kernel
theorem dX11_readSteps_146 : decode cX11_readSteps 146 = .ok (.return_, 1) := by decide +kernel
theorem dX11_fault_0 : decode cX11_fault 0 = .ok (.iload_n 1, 1) := by decide +kernel
theorem dX11_fault_1 : decode cX11_fault 1 = .ok (.ifCond .ne 10, 3) := by decide +kernel
theorem dX11_fault_4 : decode cX11_fault 4 = .ok (.aload_n 0, 1) := by decide +kernel
theorem dX11_fault_5 : decode cX11_fault 5 = .ok (.getfield 167, 3) := by decide +kernel
theorem dX11_fault_8 : decode cX11_fault 8 = .ok (.goto 16, 3) := by decide +kernel
theorem dX11_fault_11 : decode cX11_fault 11 = .ok (.iload_n 1, 1) := by decide +kernel
theorem dX11_fault_12 : decode cX11_fault 12 = .ok (.iconst 1, 1) := by decide +kernel
theorem dX11_fault_13 : decode cX11_fault 13 = .ok (.if_icmp .ne 10, 3) := by decide +kernel
theorem dX11_fault_16 : decode cX11_fault 16 = .ok (.aload_n 0, 1) := by decide +kernel
theorem dX11_fault_17 : decode cX11_fault 17 = .ok (.getfield 16, 3) := by decide +kernel
theorem dX11_fault_20 : decode cX11_fault 20 = .ok (.goto 4, 3) := by decide +kernel
theorem dX11_fault_23 : decode cX11_fault 23 = .ok (.iconst (-1), 1) := by decide +kernel
theorem dX11_fault_24 : decode cX11_fault 24 = .ok (.ireturn, 1) := by decide +kernel
theorem dX11_parts_0 : decode cX11_parts 0 = .ok (.aload_n 0, 1) := by decide +kernel
theorem dX11_parts_1 : decode cX11_parts 1 = .ok (.getfield 27, 3) := by decide +kernel
theorem dX11_parts_4 : decode cX11_parts 4 = .ok (.aload_n 0, 1) := by decide +kernel
theorem dX11_parts_5 : decode cX11_parts 5 = .ok (.getfield 266, 3) := by decide +kernel
theorem dX11_parts_8 : decode cX11_parts 8 = .ok (.iaload, 1) := by decide +kernel
theorem dX11_parts_9 : decode cX11_parts 9 = .ok (.ireturn, 1) := by decide +kernel
theorem dX11_works0_0 : decode cX11_works0 0 = .ok (.aload_n 0, 1) := by decide +kernel
theorem dX11_works0_1 : decode cX11_works0 1 = .ok (.getfield 24, 3) := by decide +kernel
theorem dX11_works0_4 : decode cX11_works0 4 = .ok (.aload_n 0, 1) := by decide +kernel
theorem dX11_works0_5 : decode cX11_works0 5 = .ok (.getfield 266, 3) := by decide +kernel
theorem dX11_works0_8 : decode cX11_works0 8 = .ok (.iaload, 1) := by decide +kernel
theorem dX11_works0_9 : decode cX11_works0 9 = .ok (.ireturn, 1) := by decide +kernel
theorem dX11_isIn_0 : decode cX11_isIn 0 = .ok (.iload_n 0, 1) := by decide +kernel
theorem dX11_isIn_1 : decode cX11_isIn 1 = .ok (.iload_n 1, 1) := by decide +kernel
theorem dX11_isIn_2 : decode cX11_isIn 2 = .ok (.if_icmp .lt 12, 3) := by decide +kernel
theorem dX11_isIn_5 : decode cX11_isIn 5 = .ok (.iload_n 0, 1) := by decide +kernel
theorem dX11_isIn_6 : decode cX11_isIn 6 = .ok (.iload_n 2, 1) := by decide +kernel
theorem dX11_isIn_7 : decode cX11_isIn 7 = .ok (.if_icmp .gt 7, 3) := by decide +kernel
theorem dX11_isIn_10 : decode cX11_isIn 10 = .ok (.iconst 1, 1) := by decide +kernel
theorem dX11_isIn_11 : decode cX11_isIn 11 = .ok (.goto 4, 3) := by decide +kernel
theorem dX11_isIn_14 : decode cX11_isIn 14 = .ok (.iconst 0, 1) := by decide +kernel
theorem dX11_isIn_15 : decode cX11_isIn 15 = .ok (.ireturn, 1) := by decide +kernel
theorem dX11_isPart_0 : decode cX11_isPart 0 = .ok (.iload_n 1, 1) := by decide +kernel
theorem dX11_isPart_1 : decode cX11_isPart 1 = .ok (.iconst 0, 1) := by decide +kernel
theorem dX11_isPart_2 : decode cX11_isPart 2 = .ok (.aload_n 0, 1) := by decide +kernel
theorem dX11_isPart_3 : decode cX11_isPart 3 = .ok (.invokevirtual 319, 3) := by decide +kernel
theorem dX11_isPart_6 : decode cX11_isPart 6 = .ok (.iconst 1, 1) := by decide +kernel
theorem dX11_isPart_7 : decode cX11_isPart 7 = .ok (.isub, 1) := by decide +kernel
theorem dX11_isPart_8 : decode cX11_isPart 8 = .ok (.invokestatic 323, 3) := by decide +kernel
theorem dX11_isPart_11 : decode cX11_isPart 11 = .ok (.ireturn, 1) := by decide +kernel
theorem dX11_isWork_0 : decode cX11_isWork 0 = .ok (.iload_n 1, 1) := by decide +kernel
theorem dX11_isWork_1 : decode cX11_isWork 1 = .ok (.iconst 0, 1) := by decide +kernel
theorem dX11_isWork_2 : decode cX11_isWork 2 = .ok (.aload_n 0, 1) := by decide +kernel
theorem dX11_isWork_3 : decode cX11_isWork 3 = .ok (.invokevirtual 327, 3) := by decide +kernel
theorem dX11_isWork_6 : decode cX11_isWork 6 = .ok (.iconst 1, 1) := by decide +kernel
theorem dX11_isWork_7 : decode cX11_isWork 7 = .ok (.isub, 1) := by decide +kernel
theorem dX11_isWork_8 : decode cX11_isWork 8 = .ok (.invokestatic 323, 3) := by decide +kernel
theorem dX11_isWork_11 : decode cX11_isWork 11 = .ok (.ireturn, 1) := by decide +kernel
theorem dX11_isReader_0 : decode cX11_isReader 0 = .ok (.iload_n 0, 1) := by decide +kernel
theorem dX11_isReader_1 : decode cX11_isReader 1 = .ok (.ifCond .eq 8, 3) := by decide +kernel
theorem dX11_isReader_4 : decode cX11_isReader 4 = .ok (.iload_n 0, 1) := by decide +kernel
theorem dX11_isReader_5 : decode cX11_isReader 5 = .ok (.iconst 1, 1) := by decide +kernel
theorem dX11_isReader_6 : decode cX11_isReader 6 = .ok (.if_icmp .ne 7, 3) := by decide +kernel
theorem dX11_isReader_9 : decode cX11_isReader 9 = .ok (.iconst 1, 1) := by decide +kernel
theorem dX11_isReader_10 : decode cX11_isReader 10 = .ok (.goto 4, 3) := by decide +kernel
theorem dX11_isReader_13 : decode cX11_isReader 13 = .ok (.iconst 0, 1) := by decide +kernel
theorem dX11_isReader_14 : decode cX11_isReader 14 = .ok (.ireturn, 1) := by decide +kernel
theorem dX11_at0_0 : decode cX11_at0 0 = .ok (.bipush 12, 2) := by decide +kernel
theorem dX11_at0_2 : decode cX11_at0 2 = .ok (.aload_n 0, 1) := by decide +kernel
theorem dX11_at0_3 : decode cX11_at0 3 = .ok (.getfield 266, 3) := by decide +kernel
theorem dX11_at0_6 : decode cX11_at0 6 = .ok (.imul, 1) := by decide +kernel
theorem dX11_at0_7 : decode cX11_at0 7 = .ok (.iload_n 1, 1) := by decide +kernel
theorem dX11_at0_8 : decode cX11_at0 8 = .ok (.iadd, 1) := by decide +kernel
theorem dX11_at0_9 : decode cX11_at0 9 = .ok (.ireturn, 1) := by decide +kernel
theorem dX11_workOf_0 : decode cX11_workOf 0 = .ok (.aload_n 0, 1) := by decide +kernel
theorem dX11_workOf_1 : decode cX11_workOf 1 = .ok (.getfield 42, 3) := by decide +kernel
theorem dX11_workOf_4 : decode cX11_workOf 4 = .ok (.aload_n 0, 1) := by decide +kernel
theorem dX11_workOf_5 : decode cX11_workOf 5 = .ok (.iload_n 1, 1) := by decide +kernel
theorem dX11_workOf_6 : decode cX11_workOf 6 = .ok (.invokevirtual 330, 3) := by decide +kernel
theorem dX11_workOf_9 : decode cX11_workOf 9 = .ok (.iaload, 1) := by decide +kernel
theorem dX11_workOf_10 : decode cX11_workOf 10 = .ok (.ireturn, 1) := by decide +kernel
theorem dX11_countsOf_0 : decode cX11_countsOf 0 = .ok (.aload_n 0, 1) := by decide +kernel
theorem dX11_countsOf_1 : decode cX11_countsOf 1 = .ok (.getfield 51, 3) := by decide +kernel
theorem dX11_countsOf_4 : decode cX11_countsOf 4 = .ok (.aload_n 0, 1) := by decide +kernel
theorem dX11_countsOf_5 : decode cX11_countsOf 5 = .ok (.iload_n 1, 1) := by decide +kernel
theorem dX11_countsOf_6 : decode cX11_countsOf 6 = .ok (.invokevirtual 330, 3) := by decide +kernel
theorem dX11_countsOf_9 : decode cX11_countsOf 9 = .ok (.iaload, 1) := by decide +kernel
theorem dX11_countsOf_10 : decode cX11_countsOf 10 = .ok (.ireturn, 1) := by decide +kernel
theorem dX11_part_0 : decode cX11_part 0 = .ok (.aload_n 0, 1) := by decide +kernel
theorem dX11_part_1 : decode cX11_part 1 = .ok (.iload_n 1, 1) := by decide +kernel
theorem dX11_part_2 : decode cX11_part 2 = .ok (.invokevirtual 333, 3) := by decide +kernel
theorem dX11_part_5 : decode cX11_part 5 = .ok (.ifCond .ne 5, 3) := by decide +kernel
theorem dX11_part_8 : decode cX11_part 8 = .ok (.iconst (-1), 1) := by decide +kernel
theorem dX11_part_9 : decode cX11_part 9 = .ok (.ireturn, 1) := by decide +kernel
theorem dX11_part_10 : decode cX11_part 10 = .ok (.iload_n 2, 1) := by decide +kernel
theorem dX11_part_11 : decode cX11_part 11 = .ok (.tableswitch 86 0 4 #[33, 39, 45, 64, 75], 33) := by decide +kernel
theorem dX11_part_44 : decode cX11_part 44 = .ok (.aload_n 0, 1) := by decide +kernel
theorem dX11_part_45 : decode cX11_part 45 = .ok (.iload_n 1, 1) := by decide +kernel
theorem dX11_part_46 : decode cX11_part 46 = .ok (.invokevirtual 336, 3) := by decide +kernel
theorem dX11_part_49 : decode cX11_part 49 = .ok (.ireturn, 1) := by decide +kernel
theorem dX11_part_50 : decode cX11_part 50 = .ok (.aload_n 0, 1) := by decide +kernel
theorem dX11_part_51 : decode cX11_part 51 = .ok (.iload_n 1, 1) := by decide +kernel
theorem dX11_part_52 : decode cX11_part 52 = .ok (.invokevirtual 339, 3) := by decide +kernel
theorem dX11_part_55 : decode cX11_part 55 = .ok (.ireturn, 1) := by decide +kernel
theorem dX11_part_56 : decode cX11_part 56 = .ok (.aload_n 0, 1) := by decide +kernel
theorem dX11_part_57 : decode cX11_part 57 = .ok (.getfield 60, 3) := by decide +kernel
theorem dX11_part_60 : decode cX11_part 60 = .ok (.aload_n 0, 1) := by decide +kernel
theorem dX11_part_61 : decode cX11_part 61 = .ok (.iload_n 1, 1) := by decide +kernel
theorem dX11_part_62 : decode cX11_part 62 = .ok (.invokevirtual 330, 3) := by decide +kernel
theorem dX11_part_65 : decode cX11_part 65 = .ok (.baload, 1) := by decide +kernel
theorem dX11_part_66 : decode cX11_part 66 = .ok (.ifCond .eq 7, 3) := by decide +kernel
theorem dX11_part_69 : decode cX11_part 69 = .ok (.iconst 1, 1) := by decide +kernel
theorem dX11_part_70 : decode cX11_part 70 = .ok (.goto 4, 3) := by decide +kernel
theorem dX11_part_73 : decode cX11_part 73 = .ok (.iconst 0, 1) := by decide +kernel
theorem dX11_part_74 : decode cX11_part 74 = .ok (.ireturn, 1) := by decide +kernel
theorem dX11_part_75 : decode cX11_part 75 = .ok (.aload_n 0, 1) := by decide +kernel
theorem dX11_part_76 : decode cX11_part 76 = .ok (.getfield 45, 3) := by decide +kernel
theorem dX11_part_79 : decode cX11_part 79 = .ok (.aload_n 0, 1) := by decide +kernel
theorem dX11_part_80 : decode cX11_part 80 = .ok (.iload_n 1, 1) := by decide +kernel
theorem dX11_part_81 : decode cX11_part 81 = .ok (.invokevirtual 330, 3) := by decide +kernel
theorem dX11_part_84 : decode cX11_part 84 = .ok (.iaload, 1) := by decide +kernel
theorem dX11_part_85 : decode cX11_part 85 = .ok (.ireturn, 1) := by decide +kernel
theorem dX11_part_86 : decode cX11_part 86 = .ok (.aload_n 0, 1) := by decide +kernel
theorem dX11_part_87 : decode cX11_part 87 = .ok (.getfield 48, 3) := by decide +kernel
theorem dX11_part_90 : decode cX11_part 90 = .ok (.aload_n 0, 1) := by decide +kernel
theorem dX11_part_91 : decode cX11_part 91 = .ok (.iload_n 1, 1) := by decide +kernel
theorem dX11_part_92 : decode cX11_part 92 = .ok (.invokevirtual 330, 3) := by decide +kernel
theorem dX11_part_95 : decode cX11_part 95 = .ok (.iaload, 1) := by decide +kernel
theorem dX11_part_96 : decode cX11_part 96 = .ok (.ireturn, 1) := by decide +kernel
theorem dX11_part_97 : decode cX11_part 97 = .ok (.iconst (-1), 1) := by decide +kernel
theorem dX11_part_98 : decode cX11_part 98 = .ok (.ireturn, 1) := by decide +kernel
theorem dX11_reads_0 : decode cX11_reads 0 = .ok (.iload_n 1, 1) := by decide +kernel
theorem dX11_reads_1 : decode cX11_reads 1 = .ok (.invokestatic 342, 3) := by decide +kernel
theorem dX11_reads_4 : decode cX11_reads 4 = .ok (.ifCond .eq 22, 3) := by decide +kernel
theorem dX11_reads_7 : decode cX11_reads 7 = .ok (.iload_n 2, 1) := by decide +kernel
theorem dX11_reads_8 : decode cX11_reads 8 = .ok (.iconst 0, 1) := by decide +kernel
theorem dX11_reads_9 : decode cX11_reads 9 = .ok (.bipush 7, 2) := by decide +kernel
theorem dX11_reads_11 : decode cX11_reads 11 = .ok (.invokestatic 323, 3) := by decide +kernel
theorem dX11_reads_14 : decode cX11_reads 14 = .ok (.ifCond .eq 12, 3) := by decide +kernel
theorem dX11_reads_17 : decode cX11_reads 17 = .ok (.iload_n 3, 1) := by decide +kernel
theorem dX11_reads_18 : decode cX11_reads 18 = .ok (.iconst 0, 1) := by decide +kernel
theorem dX11_reads_19 : decode cX11_reads 19 = .ok (.iconst 5, 1) := by decide +kernel
theorem dX11_reads_20 : decode cX11_reads 20 = .ok (.invokestatic 323, 3) := by decide +kernel
theorem dX11_reads_23 : decode cX11_reads 23 = .ok (.ifCond .ne 5, 3) := by decide +kernel
theorem dX11_reads_26 : decode cX11_reads 26 = .ok (.iconst 0, 1) := by decide +kernel
theorem dX11_reads_27 : decode cX11_reads 27 = .ok (.ireturn, 1) := by decide +kernel
theorem dX11_reads_28 : decode cX11_reads 28 = .ok (.aload_n 0, 1) := by decide +kernel
theorem dX11_reads_29 : decode cX11_reads 29 = .ok (.getfield 71, 3) := by decide +kernel
theorem dX11_reads_32 : decode cX11_reads 32 = .ok (.bipush 8, 2) := by decide +kernel
theorem dX11_reads_34 : decode cX11_reads 34 = .ok (.iload_n 1, 1) := by decide +kernel
theorem dX11_reads_35 : decode cX11_reads 35 = .ok (.imul, 1) := by decide +kernel
theorem dX11_reads_36 : decode cX11_reads 36 = .ok (.iload_n 2, 1) := by decide +kernel
theorem dX11_reads_37 : decode cX11_reads 37 = .ok (.iadd, 1) := by decide +kernel
theorem dX11_reads_38 : decode cX11_reads 38 = .ok (.iload_n 3, 1) := by decide +kernel
theorem dX11_reads_39 : decode cX11_reads 39 = .ok (.iastore, 1) := by decide +kernel
theorem dX11_reads_40 : decode cX11_reads 40 = .ok (.iconst 1, 1) := by decide +kernel
theorem dX11_reads_41 : decode cX11_reads 41 = .ok (.ireturn, 1) := by decide +kernel
theorem dX11_stepAt_0 : decode cX11_stepAt 0 = .ok (.aload_n 0, 1) := by decide +kernel
theorem dX11_stepAt_1 : decode cX11_stepAt 1 = .ok (.getfield 54, 3) := by decide +kernel
theorem dX11_stepAt_4 : decode cX11_stepAt 4 = .ok (.bipush 32, 2) := by decide +kernel
theorem dX11_stepAt_6 : decode cX11_stepAt 6 = .ok (.aload_n 0, 1) := by decide +kernel
theorem dX11_stepAt_7 : decode cX11_stepAt 7 = .ok (.iload_n 1, 1) := by decide +kernel
theorem dX11_stepAt_8 : decode cX11_stepAt 8 = .ok (.invokevirtual 330, 3) := by decide +kernel
theorem dX11_stepAt_11 : decode cX11_stepAt 11 = .ok (.imul, 1) := by decide +kernel
theorem dX11_stepAt_12 : decode cX11_stepAt 12 = .ok (.iload_n 2, 1) := by decide +kernel
theorem dX11_stepAt_13 : decode cX11_stepAt 13 = .ok (.iadd, 1) := by decide +kernel
theorem dX11_stepAt_14 : decode cX11_stepAt 14 = .ok (.iconst 1, 1) := by decide +kernel
theorem dX11_stepAt_15 : decode cX11_stepAt 15 = .ok (.isub, 1) := by decide +kernel
theorem dX11_stepAt_16 : decode cX11_stepAt 16 = .ok (.iaload, 1) := by decide +kernel
theorem dX11_stepAt_17 : decode cX11_stepAt 17 = .ok (.istore 4, 2) := by decide +kernel
theorem dX11_stepAt_19 : decode cX11_stepAt 19 = .ok (.aload_n 0, 1) := by decide +kernel
theorem dX11_stepAt_20 : decode cX11_stepAt 20 = .ok (.getfield 60, 3) := by decide +kernel
theorem dX11_stepAt_23 : decode cX11_stepAt 23 = .ok (.aload_n 0, 1) := by decide +kernel
theorem dX11_stepAt_24 : decode cX11_stepAt 24 = .ok (.iload_n 1, 1) := by decide +kernel
theorem dX11_stepAt_25 : decode cX11_stepAt 25 = .ok (.invokevirtual 330, 3) := by decide +kernel
theorem dX11_stepAt_28 : decode cX11_stepAt 28 = .ok (.baload, 1) := by decide +kernel
theorem dX11_stepAt_29 : decode cX11_stepAt 29 = .ok (.ifCond .eq 18, 3) := by decide +kernel
theorem dX11_stepAt_32 : decode cX11_stepAt 32 = .ok (.aload_n 0, 1) := by decide +kernel
theorem dX11_stepAt_33 : decode cX11_stepAt 33 = .ok (.getfield 71, 3) := by decide +kernel
theorem dX11_stepAt_36 : decode cX11_stepAt 36 = .ok (.bipush 8, 2) := by decide +kernel
theorem dX11_stepAt_38 : decode cX11_stepAt 38 = .ok (.iload_n 3, 1) := by decide +kernel
theorem dX11_stepAt_39 : decode cX11_stepAt 39 = .ok (.imul, 1) := by decide +kernel
theorem dX11_stepAt_40 : decode cX11_stepAt 40 = .ok (.iload 4, 2) := by decide +kernel
theorem dX11_stepAt_42 : decode cX11_stepAt 42 = .ok (.iadd, 1) := by decide +kernel
theorem dX11_stepAt_43 : decode cX11_stepAt 43 = .ok (.iaload, 1) := by decide +kernel
theorem dX11_stepAt_44 : decode cX11_stepAt 44 = .ok (.goto 5, 3) := by decide +kernel
theorem dX11_stepAt_47 : decode cX11_stepAt 47 = .ok (.iload 4, 2) := by decide +kernel
theorem dX11_stepAt_49 : decode cX11_stepAt 49 = .ok (.ireturn, 1) := by decide +kernel
theorem dX11_step_0 : decode cX11_step 0 = .ok (.aload_n 0, 1) := by decide +kernel
theorem dX11_step_1 : decode cX11_step 1 = .ok (.iload_n 1, 1) := by decide +kernel
theorem dX11_step_2 : decode cX11_step 2 = .ok (.invokevirtual 333, 3) := by decide +kernel
theorem dX11_step_5 : decode cX11_step 5 = .ok (.ifCond .eq 33, 3) := by decide +kernel
theorem dX11_step_8 : decode cX11_step 8 = .ok (.iload_n 3, 1) := by decide +kernel
theorem dX11_step_9 : decode cX11_step 9 = .ok (.invokestatic 342, 3) := by decide +kernel
theorem dX11_step_12 : decode cX11_step 12 = .ok (.ifCond .eq 26, 3) := by decide +kernel
theorem dX11_step_15 : decode cX11_step 15 = .ok (.iload_n 2, 1) := by decide +kernel
theorem dX11_step_16 : decode cX11_step 16 = .ok (.iconst 1, 1) := by decide +kernel
theorem dX11_step_17 : decode cX11_step 17 = .ok (.aload_n 0, 1) := by decide +kernel
theorem dX11_step_18 : decode cX11_step 18 = .ok (.iload_n 1, 1) := by decide +kernel
theorem dX11_step_19 : decode cX11_step 19 = .ok (.invokevirtual 339, 3) := by decide +kernel
theorem dX11_step_22 : decode cX11_step 22 = .ok (.invokestatic 323, 3) := by decide +kernel
theorem dX11_step_25 : decode cX11_step 25 = .ok (.ifCond .eq 13, 3) := by decide +kernel
theorem dX11_step_28 : decode cX11_step 28 = .ok (.aload_n 0, 1) := by decide +kernel
theorem dX11_step_29 : decode cX11_step 29 = .ok (.iload_n 1, 1) := by decide +kernel
theorem dX11_step_30 : decode cX11_step 30 = .ok (.iload_n 2, 1) := by decide +kernel
theorem dX11_step_31 : decode cX11_step 31 = .ok (.iload_n 3, 1) := by decide +kernel
theorem dX11_step_32 : decode cX11_step 32 = .ok (.invokevirtual 345, 3) := by decide +kernel
theorem dX11_step_35 : decode cX11_step 35 = .ok (.goto 4, 3) := by decide +kernel
theorem dX11_step_38 : decode cX11_step 38 = .ok (.iconst (-1), 1) := by decide +kernel
theorem dX11_step_39 : decode cX11_step 39 = .ok (.ireturn, 1) := by decide +kernel
theorem dX11_go_0 : decode cX11_go 0 = .ok (.aload_n 0, 1) := by decide +kernel
theorem dX11_go_1 : decode cX11_go 1 = .ok (.aload_n 0, 1) := by decide +kernel
theorem dX11_go_2 : decode cX11_go 2 = .ok (.getfield 45, 3) := by decide +kernel
theorem dX11_go_5 : decode cX11_go 5 = .ok (.aload_n 0, 1) := by decide +kernel
theorem dX11_go_6 : decode cX11_go 6 = .ok (.iload_n 1, 1) := by decide +kernel
theorem dX11_go_7 : decode cX11_go 7 = .ok (.invokevirtual 330, 3) := by decide +kernel
theorem dX11_go_10 : decode cX11_go 10 = .ok (.iaload, 1) := by decide +kernel
theorem dX11_go_11 : decode cX11_go 11 = .ok (.putfield 349, 3) := by decide +kernel
theorem dX11_go_14 : decode cX11_go 14 = .ok (.aload_n 0, 1) := by decide +kernel
theorem dX11_go_15 : decode cX11_go 15 = .ok (.aload_n 0, 1) := by decide +kernel
theorem dX11_go_16 : decode cX11_go 16 = .ok (.getfield 48, 3) := by decide +kernel
theorem dX11_go_19 : decode cX11_go 19 = .ok (.aload_n 0, 1) := by decide +kernel
theorem dX11_go_20 : decode cX11_go 20 = .ok (.iload_n 1, 1) := by decide +kernel
theorem dX11_go_21 : decode cX11_go 21 = .ok (.invokevirtual 330, 3) := by decide +kernel
theorem dX11_go_24 : decode cX11_go 24 = .ok (.iaload, 1) := by decide +kernel
theorem dX11_go_25 : decode cX11_go 25 = .ok (.putfield 352, 3) := by decide +kernel
theorem dX11_go_28 : decode cX11_go 28 = .ok (.iconst 1, 1) := by decide +kernel
theorem dX11_go_29 : decode cX11_go 29 = .ok (.istore 4, 2) := by decide +kernel
theorem dX11_go_31 : decode cX11_go 31 = .ok (.iload 4, 2) := by decide +kernel
theorem dX11_go_33 : decode cX11_go 33 = .ok (.iload_n 2, 1) := by decide +kernel
theorem dX11_go_34 : decode cX11_go 34 = .ok (.if_icmp .gt 88, 3) := by decide +kernel
theorem dX11_go_37 : decode cX11_go 37 = .ok (.iload 4, 2) := by decide +kernel
theorem dX11_go_39 : decode cX11_go 39 = .ok (.aload_n 0, 1) := by decide +kernel
theorem dX11_go_40 : decode cX11_go 40 = .ok (.iload_n 1, 1) := by decide +kernel
theorem dX11_go_41 : decode cX11_go 41 = .ok (.invokevirtual 339, 3) := by decide +kernel
theorem dX11_go_44 : decode cX11_go 44 = .ok (.if_icmp .gt 78, 3) := by decide +kernel
theorem dX11_go_47 : decode cX11_go 47 = .ok (.aload_n 0, 1) := by decide +kernel
theorem dX11_go_48 : decode cX11_go 48 = .ok (.iload_n 1, 1) := by decide +kernel
theorem dX11_go_49 : decode cX11_go 49 = .ok (.iload 4, 2) := by decide +kernel
theorem dX11_go_51 : decode cX11_go 51 = .ok (.iload_n 3, 1) := by decide +kernel
theorem dX11_go_52 : decode cX11_go 52 = .ok (.invokevirtual 345, 3) := by decide +kernel
theorem dX11_go_55 : decode cX11_go 55 = .ok (.istore 5, 2) := by decide +kernel
theorem dX11_go_57 : decode cX11_go 57 = .ok (.aload_n 0, 1) := by decide +kernel
theorem dX11_go_58 : decode cX11_go 58 = .ok (.dup, 1) := by decide +kernel
theorem dX11_go_59 : decode cX11_go 59 = .ok (.getfield 352, 3) := by decide +kernel
theorem dX11_go_62 : decode cX11_go 62 = .ok (.iload 5, 2) := by decide +kernel
theorem dX11_go_64 : decode cX11_go 64 = .ok (.ifCond .ne 7, 3) := by decide +kernel
theorem dX11_go_67 : decode cX11_go 67 = .ok (.iconst (-1), 1) := by decide +kernel
theorem dX11_go_68 : decode cX11_go 68 = .ok (.goto 14, 3) := by decide +kernel
theorem dX11_go_71 : decode cX11_go 71 = .ok (.iload 5, 2) := by decide +kernel
theorem dX11_go_73 : decode cX11_go 73 = .ok (.iconst 2, 1) := by decide +kernel
theorem dX11_go_74 : decode cX11_go 74 = .ok (.if_icmp .ne 7, 3) := by decide +kernel
theorem dX11_go_77 : decode cX11_go 77 = .ok (.iconst 1, 1) := by decide +kernel
theorem dX11_go_78 : decode cX11_go 78 = .ok (.goto 4, 3) := by decide +kernel
theorem dX11_go_81 : decode cX11_go 81 = .ok (.iconst 0, 1) := by decide +kernel
theorem dX11_go_82 : decode cX11_go 82 = .ok (.iadd, 1) := by decide +kernel
theorem dX11_go_83 : decode cX11_go 83 = .ok (.putfield 352, 3) := by decide +kernel
theorem dX11_go_86 : decode cX11_go 86 = .ok (.aload_n 0, 1) := by decide +kernel
theorem dX11_go_87 : decode cX11_go 87 = .ok (.dup, 1) := by decide +kernel
theorem dX11_go_88 : decode cX11_go 88 = .ok (.getfield 349, 3) := by decide +kernel
theorem dX11_go_91 : decode cX11_go 91 = .ok (.iload 5, 2) := by decide +kernel
theorem dX11_go_93 : decode cX11_go 93 = .ok (.iconst 1, 1) := by decide +kernel
theorem dX11_go_94 : decode cX11_go 94 = .ok (.if_icmp .ne 7, 3) := by decide +kernel
theorem dX11_go_97 : decode cX11_go 97 = .ok (.iconst 1, 1) := by decide +kernel
theorem dX11_go_98 : decode cX11_go 98 = .ok (.goto 14, 3) := by decide +kernel
theorem dX11_go_101 : decode cX11_go 101 = .ok (.iload 5, 2) := by decide +kernel
theorem dX11_go_103 : decode cX11_go 103 = .ok (.iconst 3, 1) := by decide +kernel
theorem dX11_go_104 : decode cX11_go 104 = .ok (.if_icmp .ne 7, 3) := by decide +kernel
theorem dX11_go_107 : decode cX11_go 107 = .ok (.iconst (-1), 1) := by decide +kernel
theorem dX11_go_108 : decode cX11_go 108 = .ok (.goto 4, 3) := by decide +kernel
theorem dX11_go_111 : decode cX11_go 111 = .ok (.iconst 0, 1) := by decide +kernel
theorem dX11_go_112 : decode cX11_go 112 = .ok (.iadd, 1) := by decide +kernel
theorem dX11_go_113 : decode cX11_go 113 = .ok (.putfield 349, 3) := by decide +kernel
theorem dX11_go_116 : decode cX11_go 116 = .ok (.iinc 4 1, 3) := by decide +kernel
theorem dX11_go_119 : decode cX11_go 119 = .ok (.goto (-88), 3) := by decide +kernel
theorem dX11_go_122 : decode cX11_go 122 = .ok (.return_, 1) := by decide +kernel
theorem dX11_where_0 : decode cX11_where 0 = .ok (.aload_n 0, 1) := by decide +kernel
theorem dX11_where_1 : decode cX11_where 1 = .ok (.iload_n 1, 1) := by decide +kernel
theorem dX11_where_2 : decode cX11_where 2 = .ok (.invokevirtual 333, 3) := by decide +kernel
theorem dX11_where_5 : decode cX11_where 5 = .ok (.ifCond .eq 20, 3) := by decide +kernel
theorem dX11_where_8 : decode cX11_where 8 = .ok (.iload_n 3, 1) := by decide +kernel
theorem dX11_where_9 : decode cX11_where 9 = .ok (.invokestatic 342, 3) := by decide +kernel
theorem dX11_where_12 : decode cX11_where 12 = .ok (.ifCond .eq 13, 3) := by decide +kernel
theorem dX11_where_15 : decode cX11_where 15 = .ok (.iload_n 2, 1) := by decide +kernel
theorem dX11_where_16 : decode cX11_where 16 = .ok (.iconst 0, 1) := by decide +kernel
theorem dX11_where_17 : decode cX11_where 17 = .ok (.bipush 32, 2) := by decide +kernel
theorem dX11_where_19 : decode cX11_where 19 = .ok (.invokestatic 323, 3) := by decide +kernel
theorem dX11_where_22 : decode cX11_where 22 = .ok (.ifCond .ne 5, 3) := by decide +kernel
theorem dX11_where_25 : decode cX11_where 25 = .ok (.iconst (-1), 1) := by decide +kernel
theorem dX11_where_26 : decode cX11_where 26 = .ok (.ireturn, 1) := by decide +kernel
theorem dX11_where_27 : decode cX11_where 27 = .ok (.aload_n 0, 1) := by decide +kernel
theorem dX11_where_28 : decode cX11_where 28 = .ok (.iload_n 1, 1) := by decide +kernel
theorem dX11_where_29 : decode cX11_where 29 = .ok (.iload_n 2, 1) := by decide +kernel
theorem dX11_where_30 : decode cX11_where 30 = .ok (.iload_n 3, 1) := by decide +kernel
theorem dX11_where_31 : decode cX11_where 31 = .ok (.invokevirtual 355, 3) := by decide +kernel
theorem dX11_where_34 : decode cX11_where 34 = .ok (.sipush 1000, 3) := by decide +kernel
theorem dX11_where_37 : decode cX11_where 37 = .ok (.aload_n 0, 1) := by decide +kernel
theorem dX11_where_38 : decode cX11_where 38 = .ok (.getfield 349, 3) := by decide +kernel
theorem dX11_where_41 : decode cX11_where 41 = .ok (.bipush 100, 2) := by decide +kernel
theorem dX11_where_43 : decode cX11_where 43 = .ok (.iadd, 1) := by decide +kernel
theorem dX11_where_44 : decode cX11_where 44 = .ok (.imul, 1) := by decide +kernel
theorem dX11_where_45 : decode cX11_where 45 = .ok (.aload_n 0, 1) := by decide +kernel
theorem dX11_where_46 : decode cX11_where 46 = .ok (.getfield 352, 3) := by decide +kernel
theorem dX11_where_49 : decode cX11_where 49 = .ok (.iadd, 1) := by decide +kernel
theorem dX11_where_50 : decode cX11_where 50 = .ok (.bipush 100, 2) := by decide +kernel
theorem dX11_where_52 : decode cX11_where 52 = .ok (.iadd, 1) := by decide +kernel
theorem dX11_where_53 : decode cX11_where 53 = .ok (.ireturn, 1) := by decide +kernel
theorem dX11_meet_0 : decode cX11_meet 0 = .ok (.aload_n 0, 1) := by decide +kernel
theorem dX11_meet_1 : decode cX11_meet 1 = .ok (.iload_n 1, 1) := by decide +kernel
theorem dX11_meet_2 : decode cX11_meet 2 = .ok (.invokevirtual 359, 3) := by decide +kernel
theorem dX11_meet_5 : decode cX11_meet 5 = .ok (.ifCond .eq 10, 3) := by decide +kernel
theorem dX11_meet_8 : decode cX11_meet 8 = .ok (.iload_n 2, 1) := by decide +kernel
theorem dX11_meet_9 : decode cX11_meet 9 = .ok (.invokestatic 342, 3) := by decide +kernel
theorem dX11_meet_12 : decode cX11_meet 12 = .ok (.ifCond .ne 5, 3) := by decide +kernel
theorem dX11_meet_15 : decode cX11_meet 15 = .ok (.iconst (-1), 1) := by decide +kernel
theorem dX11_meet_16 : decode cX11_meet 16 = .ok (.ireturn, 1) := by decide +kernel
theorem dX11_meet_17 : decode cX11_meet 17 = .ok (.iconst 0, 1) := by decide +kernel
theorem dX11_meet_18 : decode cX11_meet 18 = .ok (.istore_n 3, 1) := by decide +kernel
theorem dX11_meet_19 : decode cX11_meet 19 = .ok (.iload_n 3, 1) := by decide +kernel
theorem dX11_meet_20 : decode cX11_meet 20 = .ok (.bipush 32, 2) := by decide +kernel
theorem dX11_meet_22 : decode cX11_meet 22 = .ok (.if_icmp .gt 114, 3) := by decide +kernel
theorem dX11_meet_25 : decode cX11_meet 25 = .ok (.iconst 0, 1) := by decide +kernel
theorem dX11_meet_26 : decode cX11_meet 26 = .ok (.istore 4, 2) := by decide +kernel
theorem dX11_meet_28 : decode cX11_meet 28 = .ok (.iload 4, 2) := by decide +kernel
theorem dX11_meet_30 : decode cX11_meet 30 = .ok (.aload_n 0, 1) := by decide +kernel
theorem dX11_meet_31 : decode cX11_meet 31 = .ok (.invokevirtual 319, 3) := by decide +kernel
theorem dX11_meet_34 : decode cX11_meet 34 = .ok (.if_icmp .ge 96, 3) := by decide +kernel
theorem dX11_meet_37 : decode cX11_meet 37 = .ok (.iconst 0, 1) := by decide +kernel
theorem dX11_meet_38 : decode cX11_meet 38 = .ok (.istore 5, 2) := by decide +kernel
theorem dX11_meet_40 : decode cX11_meet 40 = .ok (.iload 5, 2) := by decide +kernel
theorem dX11_meet_42 : decode cX11_meet 42 = .ok (.iload 4, 2) := by decide +kernel
theorem dX11_meet_44 : decode cX11_meet 44 = .ok (.if_icmp .ge 80, 3) := by decide +kernel
theorem dX11_meet_47 : decode cX11_meet 47 = .ok (.aload_n 0, 1) := by decide +kernel
theorem dX11_meet_48 : decode cX11_meet 48 = .ok (.iload 4, 2) := by decide +kernel
theorem dX11_meet_50 : decode cX11_meet 50 = .ok (.invokevirtual 336, 3) := by decide +kernel
theorem dX11_meet_53 : decode cX11_meet 53 = .ok (.iload_n 1, 1) := by decide +kernel
theorem dX11_meet_54 : decode cX11_meet 54 = .ok (.if_icmp .ne 64, 3) := by decide +kernel
theorem dX11_meet_57 : decode cX11_meet 57 = .ok (.aload_n 0, 1) := by decide +kernel
theorem dX11_meet_58 : decode cX11_meet 58 = .ok (.iload 5, 2) := by decide +kernel
theorem dX11_meet_60 : decode cX11_meet 60 = .ok (.invokevirtual 336, 3) := by decide +kernel
theorem dX11_meet_63 : decode cX11_meet 63 = .ok (.iload_n 1, 1) := by decide +kernel
theorem dX11_meet_64 : decode cX11_meet 64 = .ok (.if_icmp .eq 6, 3) := by decide +kernel
theorem dX11_meet_67 : decode cX11_meet 67 = .ok (.goto 51, 3) := by decide +kernel
theorem dX11_meet_70 : decode cX11_meet 70 = .ok (.aload_n 0, 1) := by decide +kernel
theorem dX11_meet_71 : decode cX11_meet 71 = .ok (.iload 4, 2) := by decide +kernel
theorem dX11_meet_73 : decode cX11_meet 73 = .ok (.iload_n 3, 1) := by decide +kernel
theorem dX11_meet_74 : decode cX11_meet 74 = .ok (.iload_n 2, 1) := by decide +kernel
theorem dX11_meet_75 : decode cX11_meet 75 = .ok (.invokevirtual 355, 3) := by decide +kernel
theorem dX11_meet_78 : decode cX11_meet 78 = .ok (.aload_n 0, 1) := by decide +kernel
theorem dX11_meet_79 : decode cX11_meet 79 = .ok (.getfield 349, 3) := by decide +kernel
theorem dX11_meet_82 : decode cX11_meet 82 = .ok (.istore 6, 2) := by decide +kernel
theorem dX11_meet_84 : decode cX11_meet 84 = .ok (.aload_n 0, 1) := by decide +kernel
theorem dX11_meet_85 : decode cX11_meet 85 = .ok (.getfield 352, 3) := by decide +kernel
theorem dX11_meet_88 : decode cX11_meet 88 = .ok (.istore 7, 2) := by decide +kernel
theorem dX11_meet_90 : decode cX11_meet 90 = .ok (.aload_n 0, 1) := by decide +kernel
theorem dX11_meet_91 : decode cX11_meet 91 = .ok (.iload 5, 2) := by decide +kernel
theorem dX11_meet_93 : decode cX11_meet 93 = .ok (.iload_n 3, 1) := by decide +kernel
theorem dX11_meet_94 : decode cX11_meet 94 = .ok (.iload_n 2, 1) := by decide +kernel
theorem dX11_meet_95 : decode cX11_meet 95 = .ok (.invokevirtual 355, 3) := by decide +kernel
theorem dX11_meet_98 : decode cX11_meet 98 = .ok (.iload 6, 2) := by decide +kernel
theorem dX11_meet_100 : decode cX11_meet 100 = .ok (.aload_n 0, 1) := by decide +kernel
theorem dX11_meet_101 : decode cX11_meet 101 = .ok (.getfield 349, 3) := by decide +kernel
theorem dX11_meet_104 : decode cX11_meet 104 = .ok (.if_icmp .ne 14, 3) := by decide +kernel
theorem dX11_meet_107 : decode cX11_meet 107 = .ok (.iload 7, 2) := by decide +kernel
theorem dX11_meet_109 : decode cX11_meet 109 = .ok (.aload_n 0, 1) := by decide +kernel
theorem dX11_meet_110 : decode cX11_meet 110 = .ok (.getfield 352, 3) := by decide +kernel
theorem dX11_meet_113 : decode cX11_meet 113 = .ok (.if_icmp .ne 5, 3) := by decide +kernel
theorem dX11_meet_116 : decode cX11_meet 116 = .ok (.iload_n 3, 1) := by decide +kernel
theorem dX11_meet_117 : decode cX11_meet 117 = .ok (.ireturn, 1) := by decide +kernel
theorem dX11_meet_118 : decode cX11_meet 118 = .ok (.iinc 5 1, 3) := by decide +kernel
theorem dX11_meet_121 : decode cX11_meet 121 = .ok (.goto (-81), 3) := by decide +kernel
theorem dX11_meet_124 : decode cX11_meet 124 = .ok (.iinc 4 1, 3) := by decide +kernel
theorem dX11_meet_127 : decode cX11_meet 127 = .ok (.goto (-99), 3) := by decide +kernel
theorem dX11_meet_130 : decode cX11_meet 130 = .ok (.iinc 3 1, 3) := by decide +kernel
theorem dX11_meet_133 : decode cX11_meet 133 = .ok (.goto (-114), 3) := by decide +kernel
theorem dX11_meet_136 : decode cX11_meet 136 = .ok (.iconst (-1), 1) := by decide +kernel
theorem dX11_meet_137 : decode cX11_meet 137 = .ok (.ireturn, 1) := by decide +kernel
theorem dX11_breaks_0 : decode cX11_breaks 0 = .ok (.aload_n 0, 1) := by decide +kernel
theorem dX11_breaks_1 : decode cX11_breaks 1 = .ok (.iload_n 1, 1) := by decide +kernel
theorem dX11_breaks_2 : decode cX11_breaks 2 = .ok (.invokevirtual 359, 3) := by decide +kernel
theorem dX11_breaks_5 : decode cX11_breaks 5 = .ok (.ifCond .eq 31, 3) := by decide +kernel
theorem dX11_breaks_8 : decode cX11_breaks 8 = .ok (.iload_n 2, 1) := by decide +kernel
theorem dX11_breaks_9 : decode cX11_breaks 9 = .ok (.invokestatic 342, 3) := by decide +kernel
theorem dX11_breaks_12 : decode cX11_breaks 12 = .ok (.ifCond .eq 24, 3) := by decide +kernel
theorem dX11_breaks_15 : decode cX11_breaks 15 = .ok (.iload_n 3, 1) := by decide +kernel
theorem dX11_breaks_16 : decode cX11_breaks 16 = .ok (.iconst 1, 1) := by decide +kernel
theorem dX11_breaks_17 : decode cX11_breaks 17 = .ok (.bipush 20, 2) := by decide +kernel
theorem dX11_breaks_19 : decode cX11_breaks 19 = .ok (.invokestatic 323, 3) := by decide +kernel
theorem dX11_breaks_22 : decode cX11_breaks 22 = .ok (.ifCond .eq 14, 3) := by decide +kernel
theorem dX11_breaks_25 : decode cX11_breaks 25 = .ok (.iload 4, 2) := by decide +kernel
theorem dX11_breaks_27 : decode cX11_breaks 27 = .ok (.iconst 1, 1) := by decide +kernel
theorem dX11_breaks_28 : decode cX11_breaks 28 = .ok (.bipush 20, 2) := by decide +kernel
theorem dX11_breaks_30 : decode cX11_breaks 30 = .ok (.invokestatic 323, 3) := by decide +kernel
theorem dX11_breaks_33 : decode cX11_breaks 33 = .ok (.ifCond .ne 5, 3) := by decide +kernel
theorem dX11_breaks_36 : decode cX11_breaks 36 = .ok (.iconst (-1), 1) := by decide +kernel
theorem dX11_breaks_37 : decode cX11_breaks 37 = .ok (.ireturn, 1) := by decide +kernel
theorem dX11_breaks_38 : decode cX11_breaks 38 = .ok (.iconst 0, 1) := by decide +kernel
theorem dX11_breaks_39 : decode cX11_breaks 39 = .ok (.istore 5, 2) := by decide +kernel
theorem dX11_breaks_41 : decode cX11_breaks 41 = .ok (.iload 5, 2) := by decide +kernel
theorem dX11_breaks_43 : decode cX11_breaks 43 = .ok (.bipush 32, 2) := by decide +kernel
theorem dX11_breaks_45 : decode cX11_breaks 45 = .ok (.if_icmp .gt 81, 3) := by decide +kernel
theorem dX11_breaks_48 : decode cX11_breaks 48 = .ok (.iconst 0, 1) := by decide +kernel
theorem dX11_breaks_49 : decode cX11_breaks 49 = .ok (.istore 6, 2) := by decide +kernel
theorem dX11_breaks_51 : decode cX11_breaks 51 = .ok (.iload 6, 2) := by decide +kernel
theorem dX11_breaks_53 : decode cX11_breaks 53 = .ok (.aload_n 0, 1) := by decide +kernel
theorem dX11_breaks_54 : decode cX11_breaks 54 = .ok (.invokevirtual 319, 3) := by decide +kernel
theorem dX11_breaks_57 : decode cX11_breaks 57 = .ok (.if_icmp .ge 63, 3) := by decide +kernel
theorem dX11_breaks_60 : decode cX11_breaks 60 = .ok (.aload_n 0, 1) := by decide +kernel
theorem dX11_breaks_61 : decode cX11_breaks 61 = .ok (.iload 6, 2) := by decide +kernel
theorem dX11_breaks_63 : decode cX11_breaks 63 = .ok (.invokevirtual 336, 3) := by decide +kernel
theorem dX11_breaks_66 : decode cX11_breaks 66 = .ok (.iload_n 1, 1) := by decide +kernel
theorem dX11_breaks_67 : decode cX11_breaks 67 = .ok (.if_icmp .eq 6, 3) := by decide +kernel
theorem dX11_breaks_70 : decode cX11_breaks 70 = .ok (.goto 44, 3) := by decide +kernel
theorem dX11_breaks_73 : decode cX11_breaks 73 = .ok (.aload_n 0, 1) := by decide +kernel
theorem dX11_breaks_74 : decode cX11_breaks 74 = .ok (.iload 6, 2) := by decide +kernel
theorem dX11_breaks_76 : decode cX11_breaks 76 = .ok (.iload 5, 2) := by decide +kernel
theorem dX11_breaks_78 : decode cX11_breaks 78 = .ok (.iload_n 2, 1) := by decide +kernel
theorem dX11_breaks_79 : decode cX11_breaks 79 = .ok (.invokevirtual 355, 3) := by decide +kernel
theorem dX11_breaks_82 : decode cX11_breaks 82 = .ok (.aload_n 0, 1) := by decide +kernel
theorem dX11_breaks_83 : decode cX11_breaks 83 = .ok (.getfield 349, 3) := by decide +kernel
theorem dX11_breaks_86 : decode cX11_breaks 86 = .ok (.iconst 0, 1) := by decide +kernel
theorem dX11_breaks_87 : decode cX11_breaks 87 = .ok (.iload_n 3, 1) := by decide +kernel
theorem dX11_breaks_88 : decode cX11_breaks 88 = .ok (.iconst 1, 1) := by decide +kernel
theorem dX11_breaks_89 : decode cX11_breaks 89 = .ok (.isub, 1) := by decide +kernel
theorem dX11_breaks_90 : decode cX11_breaks 90 = .ok (.invokestatic 323, 3) := by decide +kernel
theorem dX11_breaks_93 : decode cX11_breaks 93 = .ok (.ifCond .eq 18, 3) := by decide +kernel
theorem dX11_breaks_96 : decode cX11_breaks 96 = .ok (.aload_n 0, 1) := by decide +kernel
theorem dX11_breaks_97 : decode cX11_breaks 97 = .ok (.getfield 352, 3) := by decide +kernel
theorem dX11_breaks_100 : decode cX11_breaks 100 = .ok (.iconst 0, 1) := by decide +kernel
theorem dX11_breaks_101 : decode cX11_breaks 101 = .ok (.iload 4, 2) := by decide +kernel
theorem dX11_breaks_103 : decode cX11_breaks 103 = .ok (.iconst 1, 1) := by decide +kernel
theorem dX11_breaks_104 : decode cX11_breaks 104 = .ok (.isub, 1) := by decide +kernel
theorem dX11_breaks_105 : decode cX11_breaks 105 = .ok (.invokestatic 323, 3) := by decide +kernel
theorem dX11_breaks_108 : decode cX11_breaks 108 = .ok (.ifCond .ne 6, 3) := by decide +kernel
theorem dX11_breaks_111 : decode cX11_breaks 111 = .ok (.iload 5, 2) := by decide +kernel
theorem dX11_breaks_113 : decode cX11_breaks 113 = .ok (.ireturn, 1) := by decide +kernel
theorem dX11_breaks_114 : decode cX11_breaks 114 = .ok (.iinc 6 1, 3) := by decide +kernel
theorem dX11_breaks_117 : decode cX11_breaks 117 = .ok (.goto (-66), 3) := by decide +kernel
theorem dX11_breaks_120 : decode cX11_breaks 120 = .ok (.iinc 5 1, 3) := by decide +kernel
theorem dX11_breaks_123 : decode cX11_breaks 123 = .ok (.goto (-82), 3) := by decide +kernel
theorem dX11_breaks_126 : decode cX11_breaks 126 = .ok (.iconst (-1), 1) := by decide +kernel
theorem dX11_breaks_127 : decode cX11_breaks 127 = .ok (.ireturn, 1) := by decide +kernel
theorem dX11_loadOf_0 : decode cX11_loadOf 0 = .ok (.aload_n 0, 1) := by decide +kernel
theorem dX11_loadOf_1 : decode cX11_loadOf 1 = .ok (.iload_n 1, 1) := by decide +kernel
theorem dX11_loadOf_2 : decode cX11_loadOf 2 = .ok (.invokevirtual 339, 3) := by decide +kernel
theorem dX11_loadOf_5 : decode cX11_loadOf 5 = .ok (.aload_n 0, 1) := by decide +kernel
theorem dX11_loadOf_6 : decode cX11_loadOf 6 = .ok (.getfield 39, 3) := by decide +kernel
theorem dX11_loadOf_9 : decode cX11_loadOf 9 = .ok (.aload_n 0, 1) := by decide +kernel
theorem dX11_loadOf_10 : decode cX11_loadOf 10 = .ok (.getfield 266, 3) := by decide +kernel
theorem dX11_loadOf_13 : decode cX11_loadOf 13 = .ok (.iaload, 1) := by decide +kernel
theorem dX11_loadOf_14 : decode cX11_loadOf 14 = .ok (.imul, 1) := by decide +kernel
theorem dX11_loadOf_15 : decode cX11_loadOf 15 = .ok (.iconst 4, 1) := by decide +kernel
theorem dX11_loadOf_16 : decode cX11_loadOf 16 = .ok (.idiv, 1) := by decide +kernel
theorem dX11_loadOf_17 : decode cX11_loadOf 17 = .ok (.istore_n 3, 1) := by decide +kernel
theorem dX11_loadOf_18 : decode cX11_loadOf 18 = .ok (.iconst 1, 1) := by decide +kernel
theorem dX11_loadOf_19 : decode cX11_loadOf 19 = .ok (.istore 4, 2) := by decide +kernel
theorem dX11_loadOf_21 : decode cX11_loadOf 21 = .ok (.iload 4, 2) := by decide +kernel
theorem dX11_loadOf_23 : decode cX11_loadOf 23 = .ok (.aload_n 0, 1) := by decide +kernel
theorem dX11_loadOf_24 : decode cX11_loadOf 24 = .ok (.iload_n 1, 1) := by decide +kernel
theorem dX11_loadOf_25 : decode cX11_loadOf 25 = .ok (.invokevirtual 339, 3) := by decide +kernel
theorem dX11_loadOf_28 : decode cX11_loadOf 28 = .ok (.if_icmp .gt 43, 3) := by decide +kernel
theorem dX11_loadOf_31 : decode cX11_loadOf 31 = .ok (.aload_n 0, 1) := by decide +kernel
theorem dX11_loadOf_32 : decode cX11_loadOf 32 = .ok (.iload_n 1, 1) := by decide +kernel
theorem dX11_loadOf_33 : decode cX11_loadOf 33 = .ok (.iload 4, 2) := by decide +kernel
theorem dX11_loadOf_35 : decode cX11_loadOf 35 = .ok (.iload_n 2, 1) := by decide +kernel
theorem dX11_loadOf_36 : decode cX11_loadOf 36 = .ok (.invokevirtual 345, 3) := by decide +kernel
theorem dX11_loadOf_39 : decode cX11_loadOf 39 = .ok (.istore 5, 2) := by decide +kernel
theorem dX11_loadOf_41 : decode cX11_loadOf 41 = .ok (.iload_n 3, 1) := by decide +kernel
theorem dX11_loadOf_42 : decode cX11_loadOf 42 = .ok (.iload 5, 2) := by decide +kernel
theorem dX11_loadOf_44 : decode cX11_loadOf 44 = .ok (.iconst 4, 1) := by decide +kernel
theorem dX11_loadOf_45 : decode cX11_loadOf 45 = .ok (.if_icmp .ge 7, 3) := by decide +kernel
theorem dX11_loadOf_48 : decode cX11_loadOf 48 = .ok (.iconst 1, 1) := by decide +kernel
theorem dX11_loadOf_49 : decode cX11_loadOf 49 = .ok (.goto 14, 3) := by decide +kernel
theorem dX11_loadOf_52 : decode cX11_loadOf 52 = .ok (.iload 5, 2) := by decide +kernel
theorem dX11_loadOf_54 : decode cX11_loadOf 54 = .ok (.iconst 5, 1) := by decide +kernel
theorem dX11_loadOf_55 : decode cX11_loadOf 55 = .ok (.if_icmp .ne 7, 3) := by decide +kernel
theorem dX11_loadOf_58 : decode cX11_loadOf 58 = .ok (.iconst 3, 1) := by decide +kernel
theorem dX11_loadOf_59 : decode cX11_loadOf 59 = .ok (.goto 4, 3) := by decide +kernel
theorem dX11_loadOf_62 : decode cX11_loadOf 62 = .ok (.iconst 0, 1) := by decide +kernel
theorem dX11_loadOf_63 : decode cX11_loadOf 63 = .ok (.iadd, 1) := by decide +kernel
theorem dX11_loadOf_64 : decode cX11_loadOf 64 = .ok (.istore_n 3, 1) := by decide +kernel
theorem dX11_loadOf_65 : decode cX11_loadOf 65 = .ok (.iinc 4 1, 3) := by decide +kernel
theorem dX11_loadOf_68 : decode cX11_loadOf 68 = .ok (.goto (-47), 3) := by decide +kernel
theorem dX11_loadOf_71 : decode cX11_loadOf 71 = .ok (.iload_n 3, 1) := by decide +kernel
theorem dX11_loadOf_72 : decode cX11_loadOf 72 = .ok (.ireturn, 1) := by decide +kernel
theorem dX11_load_0 : decode cX11_load 0 = .ok (.aload_n 0, 1) := by decide +kernel
theorem dX11_load_1 : decode cX11_load 1 = .ok (.iload_n 1, 1) := by decide +kernel
theorem dX11_load_2 : decode cX11_load 2 = .ok (.invokevirtual 333, 3) := by decide +kernel
theorem dX11_load_5 : decode cX11_load 5 = .ok (.ifCond .eq 19, 3) := by decide +kernel
theorem dX11_load_8 : decode cX11_load 8 = .ok (.iload_n 2, 1) := by decide +kernel
theorem dX11_load_9 : decode cX11_load 9 = .ok (.invokestatic 342, 3) := by decide +kernel
theorem dX11_load_12 : decode cX11_load 12 = .ok (.ifCond .eq 12, 3) := by decide +kernel
theorem dX11_load_15 : decode cX11_load 15 = .ok (.aload_n 0, 1) := by decide +kernel
theorem dX11_load_16 : decode cX11_load 16 = .ok (.iload_n 1, 1) := by decide +kernel
theorem dX11_load_17 : decode cX11_load 17 = .ok (.iload_n 2, 1) := by decide +kernel
theorem dX11_load_18 : decode cX11_load 18 = .ok (.invokevirtual 362, 3) := by decide +kernel
theorem dX11_load_21 : decode cX11_load 21 = .ok (.goto 4, 3) := by decide +kernel
theorem dX11_load_24 : decode cX11_load 24 = .ok (.iconst (-1), 1) := by decide +kernel
theorem dX11_load_25 : decode cX11_load 25 = .ok (.ireturn, 1) := by decide +kernel
theorem dX11_likeOf_0 : decode cX11_likeOf 0 = .ok (.iconst 0, 1) := by decide +kernel
theorem dX11_likeOf_1 : decode cX11_likeOf 1 = .ok (.istore 4, 2) := by decide +kernel
theorem dX11_likeOf_3 : decode cX11_likeOf 3 = .ok (.iconst 1, 1) := by decide +kernel
theorem dX11_likeOf_4 : decode cX11_likeOf 4 = .ok (.istore 5, 2) := by decide +kernel
theorem dX11_likeOf_6 : decode cX11_likeOf 6 = .ok (.iload 5, 2) := by decide +kernel
theorem dX11_likeOf_8 : decode cX11_likeOf 8 = .ok (.aload_n 0, 1) := by decide +kernel
theorem dX11_likeOf_9 : decode cX11_likeOf 9 = .ok (.iload_n 1, 1) := by decide +kernel
theorem dX11_likeOf_10 : decode cX11_likeOf 10 = .ok (.invokevirtual 339, 3) := by decide +kernel
theorem dX11_likeOf_13 : decode cX11_likeOf 13 = .ok (.if_icmp .gt 48, 3) := by decide +kernel
theorem dX11_likeOf_16 : decode cX11_likeOf 16 = .ok (.iload 5, 2) := by decide +kernel
theorem dX11_likeOf_18 : decode cX11_likeOf 18 = .ok (.aload_n 0, 1) := by decide +kernel
theorem dX11_likeOf_19 : decode cX11_likeOf 19 = .ok (.iload_n 2, 1) := by decide +kernel
theorem dX11_likeOf_20 : decode cX11_likeOf 20 = .ok (.invokevirtual 339, 3) := by decide +kernel
theorem dX11_likeOf_23 : decode cX11_likeOf 23 = .ok (.if_icmp .gt 38, 3) := by decide +kernel
theorem dX11_likeOf_26 : decode cX11_likeOf 26 = .ok (.iload 4, 2) := by decide +kernel
theorem dX11_likeOf_28 : decode cX11_likeOf 28 = .ok (.aload_n 0, 1) := by decide +kernel
theorem dX11_likeOf_29 : decode cX11_likeOf 29 = .ok (.iload_n 1, 1) := by decide +kernel
theorem dX11_likeOf_30 : decode cX11_likeOf 30 = .ok (.iload 5, 2) := by decide +kernel
theorem dX11_likeOf_32 : decode cX11_likeOf 32 = .ok (.iload_n 3, 1) := by decide +kernel
theorem dX11_likeOf_33 : decode cX11_likeOf 33 = .ok (.invokevirtual 345, 3) := by decide +kernel
theorem dX11_likeOf_36 : decode cX11_likeOf 36 = .ok (.aload_n 0, 1) := by decide +kernel
theorem dX11_likeOf_37 : decode cX11_likeOf 37 = .ok (.iload_n 2, 1) := by decide +kernel
theorem dX11_likeOf_38 : decode cX11_likeOf 38 = .ok (.iload 5, 2) := by decide +kernel
theorem dX11_likeOf_40 : decode cX11_likeOf 40 = .ok (.iload_n 3, 1) := by decide +kernel
theorem dX11_likeOf_41 : decode cX11_likeOf 41 = .ok (.invokevirtual 345, 3) := by decide +kernel
theorem dX11_likeOf_44 : decode cX11_likeOf 44 = .ok (.if_icmp .ne 7, 3) := by decide +kernel
theorem dX11_likeOf_47 : decode cX11_likeOf 47 = .ok (.iconst 1, 1) := by decide +kernel
theorem dX11_likeOf_48 : decode cX11_likeOf 48 = .ok (.goto 4, 3) := by decide +kernel
theorem dX11_likeOf_51 : decode cX11_likeOf 51 = .ok (.iconst 0, 1) := by decide +kernel
theorem dX11_likeOf_52 : decode cX11_likeOf 52 = .ok (.iadd, 1) := by decide +kernel
theorem dX11_likeOf_53 : decode cX11_likeOf 53 = .ok (.istore 4, 2) := by decide +kernel
theorem dX11_likeOf_55 : decode cX11_likeOf 55 = .ok (.iinc 5 1, 3) := by decide +kernel
theorem dX11_likeOf_58 : decode cX11_likeOf 58 = .ok (.goto (-52), 3) := by decide +kernel
theorem dX11_likeOf_61 : decode cX11_likeOf 61 = .ok (.iload 4, 2) := by decide +kernel
theorem dX11_likeOf_63 : decode cX11_likeOf 63 = .ok (.ireturn, 1) := by decide +kernel
theorem dX11_like_0 : decode cX11_like 0 = .ok (.aload_n 0, 1) := by decide +kernel
theorem dX11_like_1 : decode cX11_like 1 = .ok (.iload_n 1, 1) := by decide +kernel
theorem dX11_like_2 : decode cX11_like 2 = .ok (.invokevirtual 333, 3) := by decide +kernel
theorem dX11_like_5 : decode cX11_like 5 = .ok (.ifCond .eq 28, 3) := by decide +kernel
theorem dX11_like_8 : decode cX11_like 8 = .ok (.aload_n 0, 1) := by decide +kernel
theorem dX11_like_9 : decode cX11_like 9 = .ok (.iload_n 2, 1) := by decide +kernel
theorem dX11_like_10 : decode cX11_like 10 = .ok (.invokevirtual 333, 3) := by decide +kernel
theorem dX11_like_13 : decode cX11_like 13 = .ok (.ifCond .eq 20, 3) := by decide +kernel
theorem dX11_like_16 : decode cX11_like 16 = .ok (.iload_n 3, 1) := by decide +kernel
theorem dX11_like_17 : decode cX11_like 17 = .ok (.invokestatic 342, 3) := by decide +kernel
theorem dX11_like_20 : decode cX11_like 20 = .ok (.ifCond .eq 13, 3) := by decide +kernel
theorem dX11_like_23 : decode cX11_like 23 = .ok (.aload_n 0, 1) := by decide +kernel
theorem dX11_like_24 : decode cX11_like 24 = .ok (.iload_n 1, 1) := by decide +kernel
theorem dX11_like_25 : decode cX11_like 25 = .ok (.iload_n 2, 1) := by decide +kernel
theorem dX11_like_26 : decode cX11_like 26 = .ok (.iload_n 3, 1) := by decide +kernel
theorem dX11_like_27 : decode cX11_like 27 = .ok (.invokevirtual 365, 3) := by decide +kernel
theorem dX11_like_30 : decode cX11_like 30 = .ok (.goto 4, 3) := by decide +kernel
theorem dX11_like_33 : decode cX11_like 33 = .ok (.iconst (-1), 1) := by decide +kernel
theorem dX11_like_34 : decode cX11_like 34 = .ok (.ireturn, 1) := by decide +kernel
theorem dX11_isNoted_0 : decode cX11_isNoted 0 = .ok (.aload_n 0, 1) := by decide +kernel
theorem dX11_isNoted_1 : decode cX11_isNoted 1 = .ok (.iload_n 1, 1) := by decide +kernel
theorem dX11_isNoted_2 : decode cX11_isNoted 2 = .ok (.invokevirtual 333, 3) := by decide +kernel
theorem dX11_isNoted_5 : decode cX11_isNoted 5 = .ok (.ifCond .eq 20, 3) := by decide +kernel
theorem dX11_isNoted_8 : decode cX11_isNoted 8 = .ok (.aload_n 0, 1) := by decide +kernel
theorem dX11_isNoted_9 : decode cX11_isNoted 9 = .ok (.getfield 60, 3) := by decide +kernel
theorem dX11_isNoted_12 : decode cX11_isNoted 12 = .ok (.aload_n 0, 1) := by decide +kernel
theorem dX11_isNoted_13 : decode cX11_isNoted 13 = .ok (.iload_n 1, 1) := by decide +kernel
theorem dX11_isNoted_14 : decode cX11_isNoted 14 = .ok (.invokevirtual 330, 3) := by decide +kernel
theorem dX11_isNoted_17 : decode cX11_isNoted 17 = .ok (.baload, 1) := by decide +kernel
theorem dX11_isNoted_18 : decode cX11_isNoted 18 = .ok (.ifCond .eq 7, 3) := by decide +kernel
theorem dX11_isNoted_21 : decode cX11_isNoted 21 = .ok (.iconst 1, 1) := by decide +kernel
theorem dX11_isNoted_22 : decode cX11_isNoted 22 = .ok (.goto 4, 3) := by decide +kernel
theorem dX11_isNoted_25 : decode cX11_isNoted 25 = .ok (.iconst 0, 1) := by decide +kernel
theorem dX11_isNoted_26 : decode cX11_isNoted 26 = .ok (.ireturn, 1) := by decide +kernel
theorem dX11_rival_0 : decode cX11_rival 0 = .ok (.aload_n 0, 1) := by decide +kernel
theorem dX11_rival_1 : decode cX11_rival 1 = .ok (.iload_n 1, 1) := by decide +kernel
theorem dX11_rival_2 : decode cX11_rival 2 = .ok (.invokevirtual 368, 3) := by decide +kernel
theorem dX11_rival_5 : decode cX11_rival 5 = .ok (.ifCond .ne 5, 3) := by decide +kernel
theorem dX11_rival_8 : decode cX11_rival 8 = .ok (.iconst (-1), 1) := by decide +kernel
theorem dX11_rival_9 : decode cX11_rival 9 = .ok (.ireturn, 1) := by decide +kernel
theorem dX11_rival_10 : decode cX11_rival 10 = .ok (.iconst 1, 1) := by decide +kernel
theorem dX11_rival_11 : decode cX11_rival 11 = .ok (.istore_n 2, 1) := by decide +kernel
theorem dX11_rival_12 : decode cX11_rival 12 = .ok (.iload_n 2, 1) := by decide +kernel
theorem dX11_rival_13 : decode cX11_rival 13 = .ok (.aload_n 0, 1) := by decide +kernel
theorem dX11_rival_14 : decode cX11_rival 14 = .ok (.iload_n 1, 1) := by decide +kernel
theorem dX11_rival_15 : decode cX11_rival 15 = .ok (.invokevirtual 339, 3) := by decide +kernel
theorem dX11_rival_18 : decode cX11_rival 18 = .ok (.if_icmp .gt 28, 3) := by decide +kernel
theorem dX11_rival_21 : decode cX11_rival 21 = .ok (.aload_n 0, 1) := by decide +kernel
theorem dX11_rival_22 : decode cX11_rival 22 = .ok (.iload_n 1, 1) := by decide +kernel
theorem dX11_rival_23 : decode cX11_rival 23 = .ok (.iload_n 2, 1) := by decide +kernel
theorem dX11_rival_24 : decode cX11_rival 24 = .ok (.iconst 0, 1) := by decide +kernel
theorem dX11_rival_25 : decode cX11_rival 25 = .ok (.invokevirtual 345, 3) := by decide +kernel
theorem dX11_rival_28 : decode cX11_rival 28 = .ok (.aload_n 0, 1) := by decide +kernel
theorem dX11_rival_29 : decode cX11_rival 29 = .ok (.iload_n 1, 1) := by decide +kernel
theorem dX11_rival_30 : decode cX11_rival 30 = .ok (.iload_n 2, 1) := by decide +kernel
theorem dX11_rival_31 : decode cX11_rival 31 = .ok (.iconst 1, 1) := by decide +kernel
theorem dX11_rival_32 : decode cX11_rival 32 = .ok (.invokevirtual 345, 3) := by decide +kernel
theorem dX11_rival_35 : decode cX11_rival 35 = .ok (.if_icmp .eq 5, 3) := by decide +kernel
theorem dX11_rival_38 : decode cX11_rival 38 = .ok (.iload_n 2, 1) := by decide +kernel
theorem dX11_rival_39 : decode cX11_rival 39 = .ok (.ireturn, 1) := by decide +kernel
theorem dX11_rival_40 : decode cX11_rival 40 = .ok (.iinc 2 1, 3) := by decide +kernel
theorem dX11_rival_43 : decode cX11_rival 43 = .ok (.goto (-31), 3) := by decide +kernel
theorem dX11_rival_46 : decode cX11_rival 46 = .ok (.iconst (-1), 1) := by decide +kernel
theorem dX11_rival_47 : decode cX11_rival 47 = .ok (.ireturn, 1) := by decide +kernel
theorem dX11_isDay_0 : decode cX11_isDay 0 = .ok (.iload_n 0, 1) := by decide +kernel
theorem dX11_isDay_1 : decode cX11_isDay 1 = .ok (.iconst 0, 1) := by decide +kernel
theorem dX11_isDay_2 : decode cX11_isDay 2 = .ok (.sipush 999, 3) := by decide +kernel
theorem dX11_isDay_5 : decode cX11_isDay 5 = .ok (.invokestatic 323, 3) := by decide +kernel
theorem dX11_isDay_8 : decode cX11_isDay 8 = .ok (.ireturn, 1) := by decide +kernel
theorem dX11_rules_0 : decode cX11_rules 0 = .ok (.aload_n 0, 1) := by decide +kernel
theorem dX11_rules_1 : decode cX11_rules 1 = .ok (.getfield 260, 3) := by decide +kernel
theorem dX11_rules_4 : decode cX11_rules 4 = .ok (.sipush 600, 3) := by decide +kernel
theorem dX11_rules_7 : decode cX11_rules 7 = .ok (.if_icmp .gt 19, 3) := by decide +kernel
theorem dX11_rules_10 : decode cX11_rules 10 = .ok (.iload_n 1, 1) := by decide +kernel
theorem dX11_rules_11 : decode cX11_rules 11 = .ok (.invokestatic 371, 3) := by decide +kernel
theorem dX11_rules_14 : decode cX11_rules 14 = .ok (.ifCond .eq 12, 3) := by decide +kernel
theorem dX11_rules_17 : decode cX11_rules 17 = .ok (.aload_n 0, 1) := by decide +kernel
theorem dX11_rules_18 : decode cX11_rules 18 = .ok (.getfield 374, 3) := by decide +kernel
theorem dX11_rules_21 : decode cX11_rules 21 = .ok (.bipush 6, 2) := by decide +kernel
theorem dX11_rules_23 : decode cX11_rules 23 = .ok (.if_icmp .ne 6, 3) := by decide +kernel
theorem dX11_rules_26 : decode cX11_rules 26 = .ok (.bipush (-2), 2) := by decide +kernel
theorem dX11_rules_28 : decode cX11_rules 28 = .ok (.ireturn, 1) := by decide +kernel
theorem dX11_rules_29 : decode cX11_rules 29 = .ok (.aload_n 0, 1) := by decide +kernel
theorem dX11_rules_30 : decode cX11_rules 30 = .ok (.invokevirtual 263, 3) := by decide +kernel
theorem dX11_rules_33 : decode cX11_rules 33 = .ok (.iconst 0, 1) := by decide +kernel
theorem dX11_rules_34 : decode cX11_rules 34 = .ok (.istore_n 2, 1) := by decide +kernel
theorem dX11_rules_35 : decode cX11_rules 35 = .ok (.iload_n 2, 1) := by decide +kernel
theorem dX11_rules_36 : decode cX11_rules 36 = .ok (.iconst 3, 1) := by decide +kernel
theorem dX11_rules_37 : decode cX11_rules 37 = .ok (.if_icmp .ge 23, 3) := by decide +kernel
theorem dX11_rules_40 : decode cX11_rules 40 = .ok (.aload_n 0, 1) := by decide +kernel
theorem dX11_rules_41 : decode cX11_rules 41 = .ok (.getfield 98, 3) := by decide +kernel
theorem dX11_rules_44 : decode cX11_rules 44 = .ok (.iconst 3, 1) := by decide +kernel
theorem dX11_rules_45 : decode cX11_rules 45 = .ok (.aload_n 0, 1) := by decide +kernel
theorem dX11_rules_46 : decode cX11_rules 46 = .ok (.getfield 374, 3) := by decide +kernel
theorem dX11_rules_49 : decode cX11_rules 49 = .ok (.imul, 1) := by decide +kernel
theorem dX11_rules_50 : decode cX11_rules 50 = .ok (.iload_n 2, 1) := by decide +kernel
theorem dX11_rules_51 : decode cX11_rules 51 = .ok (.iadd, 1) := by decide +kernel
theorem dX11_rules_52 : decode cX11_rules 52 = .ok (.iconst 0, 1) := by decide +kernel
theorem dX11_rules_53 : decode cX11_rules 53 = .ok (.bastore, 1) := by decide +kernel
theorem dX11_rules_54 : decode cX11_rules 54 = .ok (.iinc 2 1, 3) := by decide +kernel
theorem dX11_rules_57 : decode cX11_rules 57 = .ok (.goto (-22), 3) := by decide +kernel
theorem dX11_rules_60 : decode cX11_rules 60 = .ok (.aload_n 0, 1) := by decide +kernel
theorem dX11_rules_61 : decode cX11_rules 61 = .ok (.iconst 0, 1) := by decide +kernel
theorem dX11_rules_62 : decode cX11_rules 62 = .ok (.putfield 377, 3) := by decide +kernel
theorem dX11_rules_65 : decode cX11_rules 65 = .ok (.aload_n 0, 1) := by decide +kernel
theorem dX11_rules_66 : decode cX11_rules 66 = .ok (.iconst 0, 1) := by decide +kernel
theorem dX11_rules_67 : decode cX11_rules 67 = .ok (.putfield 380, 3) := by decide +kernel
theorem dX11_rules_70 : decode cX11_rules 70 = .ok (.aload_n 0, 1) := by decide +kernel
theorem dX11_rules_71 : decode cX11_rules 71 = .ok (.invokevirtual 254, 3) := by decide +kernel
theorem dX11_rules_74 : decode cX11_rules 74 = .ok (.aload_n 0, 1) := by decide +kernel
theorem dX11_rules_75 : decode cX11_rules 75 = .ok (.invokevirtual 250, 3) := by decide +kernel
theorem dX11_rules_78 : decode cX11_rules 78 = .ok (.ifCond .eq 17, 3) := by decide +kernel
theorem dX11_rules_81 : decode cX11_rules 81 = .ok (.aload_n 0, 1) := by decide +kernel
theorem dX11_rules_82 : decode cX11_rules 82 = .ok (.getfield 222, 3) := by decide +kernel
theorem dX11_rules_85 : decode cX11_rules 85 = .ok (.ifCond .eq 10, 3) := by decide +kernel
theorem dX11_rules_88 : decode cX11_rules 88 = .ok (.aload_n 0, 1) := by decide +kernel
theorem dX11_rules_89 : decode cX11_rules 89 = .ok (.invokevirtual 383, 3) := by decide +kernel
theorem dX11_rules_92 : decode cX11_rules 92 = .ok (.goto (-18), 3) := by decide +kernel
theorem dX11_rules_95 : decode cX11_rules 95 = .ok (.aload_n 0, 1) := by decide +kernel
theorem dX11_rules_96 : decode cX11_rules 96 = .ok (.invokevirtual 250, 3) := by decide +kernel
theorem dX11_rules_99 : decode cX11_rules 99 = .ok (.ifCond .ne 5, 3) := by decide +kernel
theorem dX11_rules_102 : decode cX11_rules 102 = .ok (.iconst (-1), 1) := by decide +kernel
theorem dX11_rules_103 : decode cX11_rules 103 = .ok (.ireturn, 1) := by decide +kernel
theorem dX11_rules_104 : decode cX11_rules 104 = .ok (.aload_n 0, 1) := by decide +kernel
theorem dX11_rules_105 : decode cX11_rules 105 = .ok (.getfield 74, 3) := by decide +kernel
theorem dX11_rules_108 : decode cX11_rules 108 = .ok (.aload_n 0, 1) := by decide +kernel
theorem dX11_rules_109 : decode cX11_rules 109 = .ok (.getfield 374, 3) := by decide +kernel
theorem dX11_rules_112 : decode cX11_rules 112 = .ok (.iload_n 1, 1) := by decide +kernel
theorem dX11_rules_113 : decode cX11_rules 113 = .ok (.iastore, 1) := by decide +kernel
theorem dX11_rules_114 : decode cX11_rules 114 = .ok (.aload_n 0, 1) := by decide +kernel
theorem dX11_rules_115 : decode cX11_rules 115 = .ok (.dup, 1) := by decide +kernel
theorem dX11_rules_116 : decode cX11_rules 116 = .ok (.getfield 374, 3) := by decide +kernel
theorem dX11_rules_119 : decode cX11_rules 119 = .ok (.iconst 1, 1) := by decide +kernel
theorem dX11_rules_120 : decode cX11_rules 120 = .ok (.iadd, 1) := by decide +kernel
theorem dX11_rules_121 : decode cX11_rules 121 = .ok (.putfield 374, 3) := by decide +kernel
theorem dX11_rules_124 : decode cX11_rules 124 = .ok (.aload_n 0, 1) := by decide +kernel
theorem dX11_rules_125 : decode cX11_rules 125 = .ok (.getfield 374, 3) := by decide +kernel
theorem dX11_rules_128 : decode cX11_rules 128 = .ok (.iconst 1, 1) := by decide +kernel
theorem dX11_rules_129 : decode cX11_rules 129 = .ok (.isub, 1) := by decide +kernel
theorem dX11_rules_130 : decode cX11_rules 130 = .ok (.ireturn, 1) := by decide +kernel
theorem dX11_readRule_0 : decode cX11_readRule 0 = .ok (.aload_n 0, 1) := by decide +kernel
theorem dX11_readRule_1 : decode cX11_readRule 1 = .ok (.ldc2_w 182, 3) := by decide +kernel
theorem dX11_readRule_4 : decode cX11_readRule 4 = .ok (.invokevirtual 281, 3) := by decide +kernel
theorem dX11_readRule_7 : decode cX11_readRule 7 = .ok (.ifCond .eq 7, 3) := by decide +kernel
theorem dX11_readRule_10 : decode cX11_readRule 10 = .ok (.iconst 0, 1) := by decide +kernel
theorem dX11_readRule_11 : decode cX11_readRule 11 = .ok (.goto 32, 3) := by decide +kernel
theorem dX11_readRule_14 : decode cX11_readRule 14 = .ok (.aload_n 0, 1) := by decide +kernel
theorem dX11_readRule_15 : decode cX11_readRule 15 = .ok (.ldc2_w 186, 3) := by decide +kernel
theorem dX11_readRule_18 : decode cX11_readRule 18 = .ok (.invokevirtual 281, 3) := by decide +kernel
theorem dX11_readRule_21 : decode cX11_readRule 21 = .ok (.ifCond .eq 7, 3) := by decide +kernel
theorem dX11_readRule_24 : decode cX11_readRule 24 = .ok (.iconst 1, 1) := by decide +kernel
theorem dX11_readRule_25 : decode cX11_readRule 25 = .ok (.goto 18, 3) := by decide +kernel
theorem dX11_readRule_28 : decode cX11_readRule 28 = .ok (.aload_n 0, 1) := by decide +kernel
theorem dX11_readRule_29 : decode cX11_readRule 29 = .ok (.ldc2_w 184, 3) := by decide +kernel
theorem dX11_readRule_32 : decode cX11_readRule 32 = .ok (.invokevirtual 281, 3) := by decide +kernel
theorem dX11_readRule_35 : decode cX11_readRule 35 = .ok (.ifCond .eq 7, 3) := by decide +kernel
theorem dX11_readRule_38 : decode cX11_readRule 38 = .ok (.iconst 2, 1) := by decide +kernel
theorem dX11_readRule_39 : decode cX11_readRule 39 = .ok (.goto 4, 3) := by decide +kernel
theorem dX11_readRule_42 : decode cX11_readRule 42 = .ok (.iconst (-1), 1) := by decide +kernel
theorem dX11_readRule_43 : decode cX11_readRule 43 = .ok (.istore_n 1, 1) := by decide +kernel
theorem dX11_readRule_44 : decode cX11_readRule 44 = .ok (.iload_n 1, 1) := by decide +kernel
theorem dX11_readRule_45 : decode cX11_readRule 45 = .ok (.ifCond .lt 27, 3) := by decide +kernel
theorem dX11_readRule_48 : decode cX11_readRule 48 = .ok (.aload_n 0, 1) := by decide +kernel
theorem dX11_readRule_49 : decode cX11_readRule 49 = .ok (.getfield 98, 3) := by decide +kernel
theorem dX11_readRule_52 : decode cX11_readRule 52 = .ok (.iconst 3, 1) := by decide +kernel
theorem dX11_readRule_53 : decode cX11_readRule 53 = .ok (.aload_n 0, 1) := by decide +kernel
theorem dX11_readRule_54 : decode cX11_readRule 54 = .ok (.getfield 374, 3) := by decide +kernel
theorem dX11_readRule_57 : decode cX11_readRule 57 = .ok (.imul, 1) := by decide +kernel
theorem dX11_readRule_58 : decode cX11_readRule 58 = .ok (.iload_n 1, 1) := by decide +kernel
theorem dX11_readRule_59 : decode cX11_readRule 59 = .ok (.ifCond .ge 7, 3) := by decide +kernel
theorem dX11_readRule_62 : decode cX11_readRule 62 = .ok (.iconst 0, 1) := by decide +kernel
theorem dX11_readRule_63 : decode cX11_readRule 63 = .ok (.goto 4, 3) := by decide +kernel
theorem dX11_readRule_66 : decode cX11_readRule 66 = .ok (.iload_n 1, 1) := by decide +kernel
theorem dX11_readRule_67 : decode cX11_readRule 67 = .ok (.iadd, 1) := by decide +kernel
theorem dX11_readRule_68 : decode cX11_readRule 68 = .ok (.baload, 1) := by decide +kernel
theorem dX11_readRule_69 : decode cX11_readRule 69 = .ok (.ifCond .eq 7, 3) := by decide +kernel
theorem dX11_readRule_72 : decode cX11_readRule 72 = .ok (.aload_n 0, 1) := by decide +kernel
theorem dX11_readRule_73 : decode cX11_readRule 73 = .ok (.invokevirtual 257, 3) := by decide +kernel
theorem dX11_readRule_76 : decode cX11_readRule 76 = .ok (.aload_n 0, 1) := by decide +kernel
theorem dX11_readRule_77 : decode cX11_readRule 77 = .ok (.invokevirtual 250, 3) := by decide +kernel
theorem dX11_readRule_80 : decode cX11_readRule 80 = .ok (.ifCond .ne 4, 3) := by decide +kernel
theorem dX11_readRule_83 : decode cX11_readRule 83 = .ok (.return_, 1) := by decide +kernel
theorem dX11_readRule_84 : decode cX11_readRule 84 = .ok (.aload_n 0, 1) := by decide +kernel
theorem dX11_readRule_85 : decode cX11_readRule 85 = .ok (.invokevirtual 254, 3) := by decide +kernel
theorem dX11_readRule_88 : decode cX11_readRule 88 = .ok (.iload_n 1, 1) := by decide +kernel
theorem dX11_readRule_89 : decode cX11_readRule 89 = .ok (.iconst 2, 1) := by decide +kernel
theorem dX11_readRule_90 : decode cX11_readRule 90 = .ok (.if_icmp .eq 14, 3) := by decide +kernel
theorem dX11_readRule_93 : decode cX11_readRule 93 = .ok (.aload_n 0, 1) := by decide +kernel
theorem dX11_readRule_94 : decode cX11_readRule 94 = .ok (.aload_n 0, 1) := by decide +kernel
theorem dX11_readRule_95 : decode cX11_readRule 95 = .ok (.ldc2_w 188, 3) := by decide +kernel
theorem dX11_readRule_98 : decode cX11_readRule 98 = .ok (.invokevirtual 281, 3) := by decide +kernel
theorem dX11_readRule_101 : decode cX11_readRule 101 = .ok (.invokevirtual 301, 3) := by decide +kernel
theorem dX11_readRule_104 : decode cX11_readRule 104 = .ok (.aload_n 0, 1) := by decide +kernel
theorem dX11_readRule_105 : decode cX11_readRule 105 = .ok (.getfield 77, 3) := by decide +kernel
theorem dX11_readRule_108 : decode cX11_readRule 108 = .ok (.iconst 3, 1) := by decide +kernel
theorem dX11_readRule_109 : decode cX11_readRule 109 = .ok (.aload_n 0, 1) := by decide +kernel
theorem dX11_readRule_110 : decode cX11_readRule 110 = .ok (.getfield 374, 3) := by decide +kernel
theorem dX11_readRule_113 : decode cX11_readRule 113 = .ok (.imul, 1) := by decide +kernel
theorem dX11_readRule_114 : decode cX11_readRule 114 = .ok (.iload_n 1, 1) := by decide +kernel
theorem dX11_readRule_115 : decode cX11_readRule 115 = .ok (.iadd, 1) := by decide +kernel
theorem dX11_readRule_116 : decode cX11_readRule 116 = .ok (.aload_n 0, 1) := by decide +kernel
theorem dX11_readRule_117 : decode cX11_readRule 117 = .ok (.getfield 377, 3) := by decide +kernel
theorem dX11_readRule_120 : decode cX11_readRule 120 = .ok (.iastore, 1) := by decide +kernel
theorem dX11_readRule_121 : decode cX11_readRule 121 = .ok (.aload_n 0, 1) := by decide +kernel
theorem dX11_readRule_122 : decode cX11_readRule 122 = .ok (.invokevirtual 250, 3) := by decide +kernel
theorem dX11_readRule_125 : decode cX11_readRule 125 = .ok (.ifCond .eq 7, 3) := by decide +kernel
theorem dX11_readRule_128 : decode cX11_readRule 128 = .ok (.aload_n 0, 1) := by decide +kernel
theorem dX11_readRule_129 : decode cX11_readRule 129 = .ok (.invokevirtual 386, 3) := by decide +kernel
theorem dX11_readRule_132 : decode cX11_readRule 132 = .ok (.aload_n 0, 1) := by decide +kernel
theorem dX11_readRule_133 : decode cX11_readRule 133 = .ok (.getfield 80, 3) := by decide +kernel
theorem dX11_readRule_136 : decode cX11_readRule 136 = .ok (.iconst 3, 1) := by decide +kernel
theorem dX11_readRule_137 : decode cX11_readRule 137 = .ok (.aload_n 0, 1) := by decide +kernel
theorem dX11_readRule_138 : decode cX11_readRule 138 = .ok (.getfield 374, 3) := by decide +kernel
theorem dX11_readRule_141 : decode cX11_readRule 141 = .ok (.imul, 1) := by decide +kernel
theorem dX11_readRule_142 : decode cX11_readRule 142 = .ok (.iload_n 1, 1) := by decide +kernel
theorem dX11_readRule_143 : decode cX11_readRule 143 = .ok (.iadd, 1) := by decide +kernel
theorem dX11_readRule_144 : decode cX11_readRule 144 = .ok (.aload_n 0, 1) := by decide +kernel
theorem dX11_readRule_145 : decode cX11_readRule 145 = .ok (.getfield 377, 3) := by decide +kernel
theorem dX11_readRule_148 : decode cX11_readRule 148 = .ok (.iastore, 1) := by decide +kernel
theorem dX11_readRule_149 : decode cX11_readRule 149 = .ok (.aload_n 0, 1) := by decide +kernel
theorem dX11_readRule_150 : decode cX11_readRule 150 = .ok (.getfield 98, 3) := by decide +kernel
theorem dX11_readRule_153 : decode cX11_readRule 153 = .ok (.iconst 3, 1) := by decide +kernel
theorem dX11_readRule_154 : decode cX11_readRule 154 = .ok (.aload_n 0, 1) := by decide +kernel
theorem dX11_readRule_155 : decode cX11_readRule 155 = .ok (.getfield 374, 3) := by decide +kernel
theorem dX11_readRule_158 : decode cX11_readRule 158 = .ok (.imul, 1) := by decide +kernel
theorem dX11_readRule_159 : decode cX11_readRule 159 = .ok (.iload_n 1, 1) := by decide +kernel
theorem dX11_readRule_160 : decode cX11_readRule 160 = .ok (.iadd, 1) := by decide +kernel
theorem dX11_readRule_161 : decode cX11_readRule 161 = .ok (.iconst 1, 1) := by decide +kernel
theorem dX11_readRule_162 : decode cX11_readRule 162 = .ok (.bastore, 1) := by decide +kernel
theorem dX11_readRule_163 : decode cX11_readRule 163 = .ok (.aload_n 0, 1) := by decide +kernel
theorem dX11_readRule_164 : decode cX11_readRule 164 = .ok (.aload_n 0, 1) := by decide +kernel
theorem dX11_readRule_165 : decode cX11_readRule 165 = .ok (.bipush 59, 2) := by decide +kernel
theorem dX11_readRule_167 : decode cX11_readRule 167 = .ok (.invokevirtual 298, 3) := by decide +kernel
theorem dX11_readRule_170 : decode cX11_readRule 170 = .ok (.invokevirtual 301, 3) := by decide +kernel
theorem dX11_readRule_173 : decode cX11_readRule 173 = .ok (.return_, 1) := by decide +kernel
theorem dX11_sign0_0 : decode cX11_sign0 0 = .ok (.aload_n 0, 1) := by decide +kernel
theorem dX11_sign0_1 : decode cX11_sign0 1 = .ok (.getfield 83, 3) := by decide +kernel
theorem dX11_sign0_4 : decode cX11_sign0 4 = .ok (.sipush 600, 3) := by decide +kernel
theorem dX11_sign0_7 : decode cX11_sign0 7 = .ok (.aload_n 0, 1) := by decide +kernel
theorem dX11_sign0_8 : decode cX11_sign0 8 = .ok (.getfield 374, 3) := by decide +kernel
theorem dX11_sign0_11 : decode cX11_sign0 11 = .ok (.imul, 1) := by decide +kernel
theorem dX11_sign0_12 : decode cX11_sign0 12 = .ok (.aload_n 0, 1) := by decide +kernel
theorem dX11_sign0_13 : decode cX11_sign0 13 = .ok (.getfield 377, 3) := by decide +kernel
theorem dX11_sign0_16 : decode cX11_sign0 16 = .ok (.iadd, 1) := by decide +kernel
theorem dX11_sign0_17 : decode cX11_sign0 17 = .ok (.iload_n 1, 1) := by decide +kernel
theorem dX11_sign0_18 : decode cX11_sign0 18 = .ok (.iastore, 1) := by decide +kernel
theorem dX11_sign0_19 : decode cX11_sign0 19 = .ok (.aload_n 0, 1) := by decide +kernel
theorem dX11_sign0_20 : decode cX11_sign0 20 = .ok (.getfield 86, 3) := by decide +kernel
theorem dX11_sign0_23 : decode cX11_sign0 23 = .ok (.sipush 600, 3) := by decide +kernel
theorem dX11_sign0_26 : decode cX11_sign0 26 = .ok (.aload_n 0, 1) := by decide +kernel
theorem dX11_sign0_27 : decode cX11_sign0 27 = .ok (.getfield 374, 3) := by decide +kernel
theorem dX11_sign0_30 : decode cX11_sign0 30 = .ok (.imul, 1) := by decide +kernel
theorem dX11_sign0_31 : decode cX11_sign0 31 = .ok (.aload_n 0, 1) := by decide +kernel
theorem dX11_sign0_32 : decode cX11_sign0 32 = .ok (.getfield 377, 3) := by decide +kernel
theorem dX11_sign0_35 : decode cX11_sign0 35 = .ok (.iadd, 1) := by decide +kernel
theorem dX11_sign0_36 : decode cX11_sign0 36 = .ok (.iload_n 2, 1) := by decide +kernel
theorem dX11_sign0_37 : decode cX11_sign0 37 = .ok (.iastore, 1) := by decide +kernel
theorem dX11_sign0_38 : decode cX11_sign0 38 = .ok (.aload_n 0, 1) := by decide +kernel
theorem dX11_sign0_39 : decode cX11_sign0 39 = .ok (.dup, 1) := by decide +kernel
theorem dX11_sign0_40 : decode cX11_sign0 40 = .ok (.getfield 377, 3) := by decide +kernel
theorem dX11_sign0_43 : decode cX11_sign0 43 = .ok (.iconst 1, 1) := by decide +kernel
theorem dX11_sign0_44 : decode cX11_sign0 44 = .ok (.iadd, 1) := by decide +kernel
theorem dX11_sign0_45 : decode cX11_sign0 45 = .ok (.putfield 377, 3) := by decide +kernel
theorem dX11_sign0_48 : decode cX11_sign0 48 = .ok (.return_, 1) := by decide +kernel
theorem dX11_put_0 : decode cX11_put 0 = .ok (.aload_n 0, 1) := by decide +kernel
theorem dX11_put_1 : decode cX11_put 1 = .ok (.getfield 89, 3) := by decide +kernel
theorem dX11_put_4 : decode cX11_put 4 = .ok (.aload_n 0, 1) := by decide +kernel
theorem dX11_put_5 : decode cX11_put 5 = .ok (.getfield 389, 3) := by decide +kernel
theorem dX11_put_8 : decode cX11_put 8 = .ok (.iload_n 1, 1) := by decide +kernel
theorem dX11_put_9 : decode cX11_put 9 = .ok (.iastore, 1) := by decide +kernel
theorem dX11_put_10 : decode cX11_put 10 = .ok (.aload_n 0, 1) := by decide +kernel
theorem dX11_put_11 : decode cX11_put 11 = .ok (.getfield 92, 3) := by decide +kernel
theorem dX11_put_14 : decode cX11_put 14 = .ok (.aload_n 0, 1) := by decide +kernel
theorem dX11_put_15 : decode cX11_put 15 = .ok (.getfield 389, 3) := by decide +kernel
theorem dX11_put_18 : decode cX11_put 18 = .ok (.iload_n 2, 1) := by decide +kernel
theorem dX11_put_19 : decode cX11_put 19 = .ok (.iastore, 1) := by decide +kernel
theorem dX11_put_20 : decode cX11_put 20 = .ok (.aload_n 0, 1) := by decide +kernel
theorem dX11_put_21 : decode cX11_put 21 = .ok (.dup, 1) := by decide +kernel
theorem dX11_put_22 : decode cX11_put 22 = .ok (.getfield 389, 3) := by decide +kernel
theorem dX11_put_25 : decode cX11_put 25 = .ok (.iconst 1, 1) := by decide +kernel
theorem dX11_put_26 : decode cX11_put 26 = .ok (.iadd, 1) := by decide +kernel
theorem dX11_put_27 : decode cX11_put 27 = .ok (.putfield 389, 3) := by decide +kernel
theorem dX11_put_30 : decode cX11_put 30 = .ok (.return_, 1) := by decide +kernel
theorem dX11_e_0 : decode cX11_e 0 = .ok (.aload_n 0, 1) := by decide +kernel
theorem dX11_e_1 : decode cX11_e 1 = .ok (.iconst 0, 1) := by decide +kernel
theorem dX11_e_2 : decode cX11_e 2 = .ok (.putfield 389, 3) := by decide +kernel
theorem dX11_e_5 : decode cX11_e 5 = .ok (.aload_n 0, 1) := by decide +kernel
theorem dX11_e_6 : decode cX11_e 6 = .ok (.iconst 0, 1) := by decide +kernel
theorem dX11_e_7 : decode cX11_e 7 = .ok (.putfield 392, 3) := by decide +kernel
theorem dX11_e_10 : decode cX11_e 10 = .ok (.aload_n 0, 1) := by decide +kernel
theorem dX11_e_11 : decode cX11_e 11 = .ok (.bipush 8, 2) := by decide +kernel
theorem dX11_e_13 : decode cX11_e 13 = .ok (.iconst 0, 1) := by decide +kernel
theorem dX11_e_14 : decode cX11_e 14 = .ok (.invokevirtual 395, 3) := by decide +kernel
theorem dX11_e_17 : decode cX11_e 17 = .ok (.iconst 1, 1) := by decide +kernel
theorem dX11_e_18 : decode cX11_e 18 = .ok (.istore_n 1, 1) := by decide +kernel
theorem dX11_e_19 : decode cX11_e 19 = .ok (.aload_n 0, 1) := by decide +kernel
theorem dX11_e_20 : decode cX11_e 20 = .ok (.invokevirtual 250, 3) := by decide +kernel
theorem dX11_e_23 : decode cX11_e 23 = .ok (.ifCond .eq 29, 3) := by decide +kernel
theorem dX11_e_26 : decode cX11_e 26 = .ok (.aload_n 0, 1) := by decide +kernel
theorem dX11_e_27 : decode cX11_e 27 = .ok (.getfield 389, 3) := by decide +kernel
theorem dX11_e_30 : decode cX11_e 30 = .ok (.ifCond .le 22, 3) := by decide +kernel
theorem dX11_e_33 : decode cX11_e 33 = .ok (.iload_n 1, 1) := by decide +kernel
theorem dX11_e_34 : decode cX11_e 34 = .ok (.ifCond .eq 10, 3) := by decide +kernel
theorem dX11_e_37 : decode cX11_e 37 = .ok (.aload_n 0, 1) := by decide +kernel
theorem dX11_e_38 : decode cX11_e 38 = .ok (.invokevirtual 398, 3) := by decide +kernel
theorem dX11_e_41 : decode cX11_e 41 = .ok (.goto 7, 3) := by decide +kernel
theorem dX11_e_44 : decode cX11_e 44 = .ok (.aload_n 0, 1) := by decide +kernel
theorem dX11_e_45 : decode cX11_e 45 = .ok (.invokevirtual 401, 3) := by decide +kernel
theorem dX11_e_48 : decode cX11_e 48 = .ok (.istore_n 1, 1) := by decide +kernel
theorem dX11_e_49 : decode cX11_e 49 = .ok (.goto (-30), 3) := by decide +kernel
theorem dX11_e_52 : decode cX11_e 52 = .ok (.return_, 1) := by decide +kernel
theorem dX11_wordHere_0 : decode cX11_wordHere 0 = .ok (.aload_n 0, 1) := by decide +kernel
theorem dX11_wordHere_1 : decode cX11_wordHere 1 = .ok (.ldc2_w 196, 3) := by decide +kernel
theorem dX11_wordHere_4 : decode cX11_wordHere 4 = .ok (.invokevirtual 281, 3) := by decide +kernel
theorem dX11_wordHere_7 : decode cX11_wordHere 7 = .ok (.ifCond .eq 6, 3) := by decide +kernel
theorem dX11_wordHere_10 : decode cX11_wordHere 10 = .ok (.bipush 98, 2) := by decide +kernel
theorem dX11_wordHere_12 : decode cX11_wordHere 12 = .ok (.ireturn, 1) := by decide +kernel
theorem dX11_wordHere_13 : decode cX11_wordHere 13 = .ok (.aload_n 0, 1) := by decide +kernel
theorem dX11_wordHere_14 : decode cX11_wordHere 14 = .ok (.ldc2_w 176, 3) := by decide +kernel
theorem dX11_wordHere_17 : decode cX11_wordHere 17 = .ok (.invokevirtual 281, 3) := by decide +kernel
theorem dX11_wordHere_20 : decode cX11_wordHere 20 = .ok (.ifCond .eq 6, 3) := by decide +kernel
theorem dX11_wordHere_23 : decode cX11_wordHere 23 = .ok (.bipush 112, 2) := by decide +kernel
theorem dX11_wordHere_25 : decode cX11_wordHere 25 = .ok (.ireturn, 1) := by decide +kernel
theorem dX11_wordHere_26 : decode cX11_wordHere 26 = .ok (.aload_n 0, 1) := by decide +kernel
theorem dX11_wordHere_27 : decode cX11_wordHere 27 = .ok (.ldc2_w 198, 3) := by decide +kernel
theorem dX11_wordHere_30 : decode cX11_wordHere 30 = .ok (.invokevirtual 281, 3) := by decide +kernel
theorem dX11_wordHere_33 : decode cX11_wordHere 33 = .ok (.ifCond .eq 6, 3) := by decide +kernel
theorem dX11_wordHere_36 : decode cX11_wordHere 36 = .ok (.bipush 107, 2) := by decide +kernel
theorem dX11_wordHere_38 : decode cX11_wordHere 38 = .ok (.ireturn, 1) := by decide +kernel
theorem dX11_wordHere_39 : decode cX11_wordHere 39 = .ok (.aload_n 0, 1) := by decide +kernel
theorem dX11_wordHere_40 : decode cX11_wordHere 40 = .ok (.ldc2_w 200, 3) := by decide +kernel
theorem dX11_wordHere_43 : decode cX11_wordHere 43 = .ok (.invokevirtual 281, 3) := by decide +kernel
theorem dX11_wordHere_46 : decode cX11_wordHere 46 = .ok (.ifCond .eq 6, 3) := by decide +kernel
theorem dX11_wordHere_49 : decode cX11_wordHere 49 = .ok (.bipush 108, 2) := by decide +kernel
theorem dX11_wordHere_51 : decode cX11_wordHere 51 = .ok (.ireturn, 1) := by decide +kernel
theorem dX11_wordHere_52 : decode cX11_wordHere 52 = .ok (.aload_n 0, 1) := by decide +kernel
theorem dX11_wordHere_53 : decode cX11_wordHere 53 = .ok (.ldc2_w 202, 3) := by decide +kernel
theorem dX11_wordHere_56 : decode cX11_wordHere 56 = .ok (.invokevirtual 281, 3) := by decide +kernel
theorem dX11_wordHere_59 : decode cX11_wordHere 59 = .ok (.ifCond .eq 6, 3) := by decide +kernel
theorem dX11_wordHere_62 : decode cX11_wordHere 62 = .ok (.bipush 111, 2) := by decide +kernel
theorem dX11_wordHere_64 : decode cX11_wordHere 64 = .ok (.ireturn, 1) := by decide +kernel
theorem dX11_wordHere_65 : decode cX11_wordHere 65 = .ok (.aload_n 0, 1) := by decide +kernel
theorem dX11_wordHere_66 : decode cX11_wordHere 66 = .ok (.ldc2_w 204, 3) := by decide +kernel
theorem dX11_wordHere_69 : decode cX11_wordHere 69 = .ok (.invokevirtual 281, 3) := by decide +kernel
theorem dX11_wordHere_72 : decode cX11_wordHere 72 = .ok (.ifCond .eq 6, 3) := by decide +kernel
theorem dX11_wordHere_75 : decode cX11_wordHere 75 = .ok (.bipush 105, 2) := by decide +kernel
theorem dX11_wordHere_77 : decode cX11_wordHere 77 = .ok (.ireturn, 1) := by decide +kernel
theorem dX11_wordHere_78 : decode cX11_wordHere 78 = .ok (.aload_n 0, 1) := by decide +kernel
theorem dX11_wordHere_79 : decode cX11_wordHere 79 = .ok (.ldc2_w 206, 3) := by decide +kernel
theorem dX11_wordHere_82 : decode cX11_wordHere 82 = .ok (.invokevirtual 281, 3) := by decide +kernel
theorem dX11_wordHere_85 : decode cX11_wordHere 85 = .ok (.ifCond .eq 6, 3) := by decide +kernel
theorem dX11_wordHere_88 : decode cX11_wordHere 88 = .ok (.bipush 104, 2) := by decide +kernel
theorem dX11_wordHere_90 : decode cX11_wordHere 90 = .ok (.ireturn, 1) := by decide +kernel
theorem dX11_wordHere_91 : decode cX11_wordHere 91 = .ok (.aload_n 0, 1) := by decide +kernel
theorem dX11_wordHere_92 : decode cX11_wordHere 92 = .ok (.ldc2_w 172, 3) := by decide +kernel
theorem dX11_wordHere_95 : decode cX11_wordHere 95 = .ok (.invokevirtual 281, 3) := by decide +kernel
theorem dX11_wordHere_98 : decode cX11_wordHere 98 = .ok (.ifCond .eq 6, 3) := by decide +kernel
theorem dX11_wordHere_101 : decode cX11_wordHere 101 = .ok (.bipush 97, 2) := by decide +kernel
theorem dX11_wordHere_103 : decode cX11_wordHere 103 = .ok (.ireturn, 1) := by decide +kernel
theorem dX11_wordHere_104 : decode cX11_wordHere 104 = .ok (.aload_n 0, 1) := by decide +kernel
theorem dX11_wordHere_105 : decode cX11_wordHere 105 = .ok (.ldc2_w 208, 3) := by decide +kernel
theorem dX11_wordHere_108 : decode cX11_wordHere 108 = .ok (.invokevirtual 281, 3) := by decide +kernel
theorem dX11_wordHere_111 : decode cX11_wordHere 111 = .ok (.ifCond .eq 6, 3) := by decide +kernel
theorem dX11_wordHere_114 : decode cX11_wordHere 114 = .ok (.bipush 100, 2) := by decide +kernel
theorem dX11_wordHere_116 : decode cX11_wordHere 116 = .ok (.ireturn, 1) := by decide +kernel
theorem dX11_wordHere_117 : decode cX11_wordHere 117 = .ok (.aload_n 0, 1) := by decide +kernel
theorem dX11_wordHere_118 : decode cX11_wordHere 118 = .ok (.ldc2_w 210, 3) := by decide +kernel
theorem dX11_wordHere_121 : decode cX11_wordHere 121 = .ok (.invokevirtual 281, 3) := by decide +kernel
theorem dX11_wordHere_124 : decode cX11_wordHere 124 = .ok (.ifCond .eq 8, 3) := by decide +kernel
theorem dX11_wordHere_127 : decode cX11_wordHere 127 = .ok (.bipush 99, 2) := by decide +kernel
theorem dX11_wordHere_129 : decode cX11_wordHere 129 = .ok (.goto 4, 3) := by decide +kernel
theorem dX11_wordHere_132 : decode cX11_wordHere 132 = .ok (.iconst 0, 1) := by decide +kernel
theorem dX11_wordHere_133 : decode cX11_wordHere 133 = .ok (.ireturn, 1) := by decide +kernel
theorem dX11_unit_0 : decode cX11_unit 0 = .ok (.aload_n 0, 1) := by decide +kernel
theorem dX11_unit_1 : decode cX11_unit 1 = .ok (.getfield 89, 3) := by decide +kernel
theorem dX11_unit_4 : decode cX11_unit 4 = .ok (.aload_n 0, 1) := by decide +kernel
theorem dX11_unit_5 : decode cX11_unit 5 = .ok (.getfield 389, 3) := by decide +kernel
theorem dX11_unit_8 : decode cX11_unit 8 = .ok (.iconst 1, 1) := by decide +kernel
theorem dX11_unit_9 : decode cX11_unit 9 = .ok (.isub, 1) := by decide +kernel
theorem dX11_unit_10 : decode cX11_unit 10 = .ok (.iaload, 1) := by decide +kernel
theorem dX11_unit_11 : decode cX11_unit 11 = .ok (.iconst 3, 1) := by decide +kernel
theorem dX11_unit_12 : decode cX11_unit 12 = .ok (.if_icmp .le 19, 3) := by decide +kernel
theorem dX11_unit_15 : decode cX11_unit 15 = .ok (.aload_n 0, 1) := by decide +kernel
theorem dX11_unit_16 : decode cX11_unit 16 = .ok (.getfield 89, 3) := by decide +kernel
theorem dX11_unit_19 : decode cX11_unit 19 = .ok (.aload_n 0, 1) := by decide +kernel
theorem dX11_unit_20 : decode cX11_unit 20 = .ok (.getfield 389, 3) := by decide +kernel
theorem dX11_unit_23 : decode cX11_unit 23 = .ok (.iconst 1, 1) := by decide +kernel
theorem dX11_unit_24 : decode cX11_unit 24 = .ok (.isub, 1) := by decide +kernel
theorem dX11_unit_25 : decode cX11_unit 25 = .ok (.iaload, 1) := by decide +kernel
theorem dX11_unit_26 : decode cX11_unit 26 = .ok (.bipush 7, 2) := by decide +kernel
theorem dX11_unit_28 : decode cX11_unit 28 = .ok (.if_icmp .lt 7, 3) := by decide +kernel
theorem dX11_unit_31 : decode cX11_unit 31 = .ok (.iconst 1, 1) := by decide +kernel
theorem dX11_unit_32 : decode cX11_unit 32 = .ok (.goto 4, 3) := by decide +kernel
theorem dX11_unit_35 : decode cX11_unit 35 = .ok (.iconst 0, 1) := by decide +kernel
theorem dX11_unit_36 : decode cX11_unit 36 = .ok (.istore_n 1, 1) := by decide +kernel
theorem dX11_unit_37 : decode cX11_unit 37 = .ok (.iload_n 1, 1) := by decide +kernel
theorem dX11_unit_38 : decode cX11_unit 38 = .ok (.ifCond .eq 17, 3) := by decide +kernel
theorem dX11_unit_41 : decode cX11_unit 41 = .ok (.aload_n 0, 1) := by decide +kernel
theorem dX11_unit_42 : decode cX11_unit 42 = .ok (.ldc2_w 194, 3) := by decide +kernel
theorem dX11_unit_45 : decode cX11_unit 45 = .ok (.invokevirtual 281, 3) := by decide +kernel
theorem dX11_unit_48 : decode cX11_unit 48 = .ok (.ifCond .eq 7, 3) := by decide +kernel
theorem dX11_unit_51 : decode cX11_unit 51 = .ok (.iconst 1, 1) := by decide +kernel
theorem dX11_unit_52 : decode cX11_unit 52 = .ok (.goto 4, 3) := by decide +kernel
theorem dX11_unit_55 : decode cX11_unit 55 = .ok (.iconst 0, 1) := by decide +kernel
theorem dX11_unit_56 : decode cX11_unit 56 = .ok (.istore_n 2, 1) := by decide +kernel
theorem dX11_unit_57 : decode cX11_unit 57 = .ok (.aload_n 0, 1) := by decide +kernel
theorem dX11_unit_58 : decode cX11_unit 58 = .ok (.bipush 40, 2) := by decide +kernel
theorem dX11_unit_60 : decode cX11_unit 60 = .ok (.invokevirtual 298, 3) := by decide +kernel
theorem dX11_unit_63 : decode cX11_unit 63 = .ok (.istore_n 3, 1) := by decide +kernel
theorem dX11_unit_64 : decode cX11_unit 64 = .ok (.aload_n 0, 1) := by decide +kernel
theorem dX11_unit_65 : decode cX11_unit 65 = .ok (.invokevirtual 404, 3) := by decide +kernel
theorem dX11_unit_68 : decode cX11_unit 68 = .ok (.istore 4, 2) := by decide +kernel
theorem dX11_unit_70 : decode cX11_unit 70 = .ok (.iload_n 2, 1) := by decide +kernel
theorem dX11_unit_71 : decode cX11_unit 71 = .ok (.ifCond .ne 29, 3) := by decide +kernel
theorem dX11_unit_74 : decode cX11_unit 74 = .ok (.iload 4, 2) := by decide +kernel
theorem dX11_unit_76 : decode cX11_unit 76 = .ok (.ifCond .ne 15, 3) := by decide +kernel
theorem dX11_unit_79 : decode cX11_unit 79 = .ok (.aload_n 0, 1) := by decide +kernel
theorem dX11_unit_80 : decode cX11_unit 80 = .ok (.getfield 222, 3) := by decide +kernel
theorem dX11_unit_83 : decode cX11_unit 83 = .ok (.iconst 4, 1) := by decide +kernel
theorem dX11_unit_84 : decode cX11_unit 84 = .ok (.if_icmp .eq 7, 3) := by decide +kernel
theorem dX11_unit_87 : decode cX11_unit 87 = .ok (.iload_n 3, 1) := by decide +kernel
theorem dX11_unit_88 : decode cX11_unit 88 = .ok (.ifCond .eq 29, 3) := by decide +kernel
theorem dX11_unit_91 : decode cX11_unit 91 = .ok (.aload_n 0, 1) := by decide +kernel
theorem dX11_unit_92 : decode cX11_unit 92 = .ok (.getfield 380, 3) := by decide +kernel
theorem dX11_unit_95 : decode cX11_unit 95 = .ok (.bipush 60, 2) := by decide +kernel
theorem dX11_unit_97 : decode cX11_unit 97 = .ok (.if_icmp .eq 20, 3) := by decide +kernel
theorem dX11_unit_100 : decode cX11_unit 100 = .ok (.iload_n 2, 1) := by decide +kernel
theorem dX11_unit_101 : decode cX11_unit 101 = .ok (.ifCond .ne 7, 3) := by decide +kernel
theorem dX11_unit_104 : decode cX11_unit 104 = .ok (.iload_n 3, 1) := by decide +kernel
theorem dX11_unit_105 : decode cX11_unit 105 = .ok (.ifCond .eq 16, 3) := by decide +kernel
theorem dX11_unit_108 : decode cX11_unit 108 = .ok (.aload_n 0, 1) := by decide +kernel
theorem dX11_unit_109 : decode cX11_unit 109 = .ok (.getfield 392, 3) := by decide +kernel
theorem dX11_unit_112 : decode cX11_unit 112 = .ok (.bipush 7, 2) := by decide +kernel
theorem dX11_unit_114 : decode cX11_unit 114 = .ok (.if_icmp .ne 7, 3) := by decide +kernel
theorem dX11_unit_117 : decode cX11_unit 117 = .ok (.aload_n 0, 1) := by decide +kernel
theorem dX11_unit_118 : decode cX11_unit 118 = .ok (.invokevirtual 257, 3) := by decide +kernel
theorem dX11_unit_121 : decode cX11_unit 121 = .ok (.aload_n 0, 1) := by decide +kernel
theorem dX11_unit_122 : decode cX11_unit 122 = .ok (.invokevirtual 250, 3) := by decide +kernel
theorem dX11_unit_125 : decode cX11_unit 125 = .ok (.ifCond .ne 5, 3) := by decide +kernel
theorem dX11_unit_128 : decode cX11_unit 128 = .ok (.iconst 1, 1) := by decide +kernel
theorem dX11_unit_129 : decode cX11_unit 129 = .ok (.ireturn, 1) := by decide +kernel
theorem dX11_unit_130 : decode cX11_unit 130 = .ok (.aload_n 0, 1) := by decide +kernel
theorem dX11_unit_131 : decode cX11_unit 131 = .ok (.dup, 1) := by decide +kernel
theorem dX11_unit_132 : decode cX11_unit 132 = .ok (.getfield 380, 3) := by decide +kernel
theorem dX11_unit_135 : decode cX11_unit 135 = .ok (.iload_n 2, 1) := by decide +kernel
theorem dX11_unit_136 : decode cX11_unit 136 = .ok (.ifCond .eq 7, 3) := by decide +kernel
theorem dX11_unit_139 : decode cX11_unit 139 = .ok (.iconst 0, 1) := by decide +kernel
theorem dX11_unit_140 : decode cX11_unit 140 = .ok (.goto 4, 3) := by decide +kernel
theorem dX11_unit_143 : decode cX11_unit 143 = .ok (.iconst 1, 1) := by decide +kernel
theorem dX11_unit_144 : decode cX11_unit 144 = .ok (.iadd, 1) := by decide +kernel
theorem dX11_unit_145 : decode cX11_unit 145 = .ok (.putfield 380, 3) := by decide +kernel
theorem dX11_unit_148 : decode cX11_unit 148 = .ok (.iload 4, 2) := by decide +kernel
theorem dX11_unit_150 : decode cX11_unit 150 = .ok (.ifCond .ne 10, 3) := by decide +kernel
theorem dX11_unit_153 : decode cX11_unit 153 = .ok (.aload_n 0, 1) := by decide +kernel
theorem dX11_unit_154 : decode cX11_unit 154 = .ok (.getfield 240, 3) := by decide +kernel
theorem dX11_unit_157 : decode cX11_unit 157 = .ok (.goto 4, 3) := by decide +kernel
theorem dX11_unit_160 : decode cX11_unit 160 = .ok (.iconst 0, 1) := by decide +kernel
theorem dX11_unit_161 : decode cX11_unit 161 = .ok (.istore 5, 2) := by decide +kernel
theorem dX11_unit_163 : decode cX11_unit 163 = .ok (.aload_n 0, 1) := by decide +kernel
theorem dX11_unit_164 : decode cX11_unit 164 = .ok (.invokevirtual 254, 3) := by decide +kernel
theorem dX11_unit_167 : decode cX11_unit 167 = .ok (.iload_n 2, 1) := by decide +kernel
theorem dX11_unit_168 : decode cX11_unit 168 = .ok (.ifCond .ne 7, 3) := by decide +kernel
theorem dX11_unit_171 : decode cX11_unit 171 = .ok (.iload_n 3, 1) := by decide +kernel
theorem dX11_unit_172 : decode cX11_unit 172 = .ok (.ifCond .eq 31, 3) := by decide +kernel
theorem dX11_unit_175 : decode cX11_unit 175 = .ok (.aload_n 0, 1) := by decide +kernel
theorem dX11_unit_176 : decode cX11_unit 176 = .ok (.iload_n 2, 1) := by decide +kernel
theorem dX11_unit_177 : decode cX11_unit 177 = .ok (.ifCond .eq 7, 3) := by decide +kernel
theorem dX11_unit_180 : decode cX11_unit 180 = .ok (.iconst 3, 1) := by decide +kernel
theorem dX11_unit_181 : decode cX11_unit 181 = .ok (.goto 5, 3) := by decide +kernel
theorem dX11_unit_184 : decode cX11_unit 184 = .ok (.bipush 7, 2) := by decide +kernel
theorem dX11_unit_186 : decode cX11_unit 186 = .ok (.bipush 126, 2) := by decide +kernel
theorem dX11_unit_188 : decode cX11_unit 188 = .ok (.invokevirtual 395, 3) := by decide +kernel
theorem dX11_unit_191 : decode cX11_unit 191 = .ok (.aload_n 0, 1) := by decide +kernel
theorem dX11_unit_192 : decode cX11_unit 192 = .ok (.dup, 1) := by decide +kernel
theorem dX11_unit_193 : decode cX11_unit 193 = .ok (.getfield 392, 3) := by decide +kernel
theorem dX11_unit_196 : decode cX11_unit 196 = .ok (.iconst 1, 1) := by decide +kernel
theorem dX11_unit_197 : decode cX11_unit 197 = .ok (.iadd, 1) := by decide +kernel
theorem dX11_unit_198 : decode cX11_unit 198 = .ok (.putfield 392, 3) := by decide +kernel
theorem dX11_unit_201 : decode cX11_unit 201 = .ok (.iconst 1, 1) := by decide +kernel
theorem dX11_unit_202 : decode cX11_unit 202 = .ok (.ireturn, 1) := by decide +kernel
theorem dX11_unit_203 : decode cX11_unit 203 = .ok (.aload_n 0, 1) := by decide +kernel
theorem dX11_unit_204 : decode cX11_unit 204 = .ok (.iload 4, 2) := by decide +kernel
theorem dX11_unit_206 : decode cX11_unit 206 = .ok (.ifCond .ne 8, 3) := by decide +kernel
theorem dX11_unit_209 : decode cX11_unit 209 = .ok (.bipush 110, 2) := by decide +kernel
theorem dX11_unit_211 : decode cX11_unit 211 = .ok (.goto 5, 3) := by decide +kernel
theorem dX11_unit_214 : decode cX11_unit 214 = .ok (.iload 4, 2) := by decide +kernel
theorem dX11_unit_216 : decode cX11_unit 216 = .ok (.iload 5, 2) := by decide +kernel
theorem dX11_unit_218 : decode cX11_unit 218 = .ok (.invokevirtual 407, 3) := by decide +kernel
theorem dX11_unit_221 : decode cX11_unit 221 = .ok (.iconst 0, 1) := by decide +kernel
theorem dX11_unit_222 : decode cX11_unit 222 = .ok (.ireturn, 1) := by decide +kernel
theorem dX11_rankHere_0 : decode cX11_rankHere 0 = .ok (.aload_n 0, 1) := by decide +kernel
theorem dX11_rankHere_1 : decode cX11_rankHere 1 = .ok (.ldc2_w 190, 3) := by decide +kernel
theorem dX11_rankHere_4 : decode cX11_rankHere 4 = .ok (.invokevirtual 281, 3) := by decide +kernel
theorem dX11_rankHere_7 : decode cX11_rankHere 7 = .ok (.ifCond .eq 5, 3) := by decide +kernel
theorem dX11_rankHere_10 : decode cX11_rankHere 10 = .ok (.iconst 2, 1) := by decide +kernel
theorem dX11_rankHere_11 : decode cX11_rankHere 11 = .ok (.ireturn, 1) := by decide +kernel
theorem dX11_rankHere_12 : decode cX11_rankHere 12 = .ok (.aload_n 0, 1) := by decide +kernel
theorem dX11_rankHere_13 : decode cX11_rankHere 13 = .ok (.ldc2_w 192, 3) := by decide +kernel
theorem dX11_rankHere_16 : decode cX11_rankHere 16 = .ok (.invokevirtual 281, 3) := by decide +kernel
theorem dX11_rankHere_19 : decode cX11_rankHere 19 = .ok (.ifCond .eq 5, 3) := by decide +kernel
theorem dX11_rankHere_22 : decode cX11_rankHere 22 = .ok (.iconst 1, 1) := by decide +kernel
theorem dX11_rankHere_23 : decode cX11_rankHere 23 = .ok (.ireturn, 1) := by decide +kernel
theorem dX11_rankHere_24 : decode cX11_rankHere 24 = .ok (.aload_n 0, 1) := by decide +kernel
theorem dX11_rankHere_25 : decode cX11_rankHere 25 = .ok (.bipush 60, 2) := by decide +kernel
theorem dX11_rankHere_27 : decode cX11_rankHere 27 = .ok (.invokevirtual 298, 3) := by decide +kernel
theorem dX11_rankHere_30 : decode cX11_rankHere 30 = .ok (.ifCond .ne 21, 3) := by decide +kernel
theorem dX11_rankHere_33 : decode cX11_rankHere 33 = .ok (.aload_n 0, 1) := by decide +kernel
theorem dX11_rankHere_34 : decode cX11_rankHere 34 = .ok (.bipush 62, 2) := by decide +kernel
theorem dX11_rankHere_36 : decode cX11_rankHere 36 = .ok (.invokevirtual 298, 3) := by decide +kernel
theorem dX11_rankHere_39 : decode cX11_rankHere 39 = .ok (.ifCond .ne 12, 3) := by decide +kernel
theorem dX11_rankHere_42 : decode cX11_rankHere 42 = .ok (.aload_n 0, 1) := by decide +kernel
theorem dX11_rankHere_43 : decode cX11_rankHere 43 = .ok (.bipush 61, 2) := by decide +kernel
theorem dX11_rankHere_45 : decode cX11_rankHere 45 = .ok (.invokevirtual 298, 3) := by decide +kernel
theorem dX11_rankHere_48 : decode cX11_rankHere 48 = .ok (.ifCond .eq 5, 3) := by decide +kernel
theorem dX11_rankHere_51 : decode cX11_rankHere 51 = .ok (.iconst 4, 1) := by decide +kernel
theorem dX11_rankHere_52 : decode cX11_rankHere 52 = .ok (.ireturn, 1) := by decide +kernel
theorem dX11_rankHere_53 : decode cX11_rankHere 53 = .ok (.aload_n 0, 1) := by decide +kernel
theorem dX11_rankHere_54 : decode cX11_rankHere 54 = .ok (.bipush 43, 2) := by decide +kernel
theorem dX11_rankHere_56 : decode cX11_rankHere 56 = .ok (.invokevirtual 298, 3) := by decide +kernel
theorem dX11_rankHere_59 : decode cX11_rankHere 59 = .ok (.ifCond .ne 12, 3) := by decide +kernel
theorem dX11_rankHere_62 : decode cX11_rankHere 62 = .ok (.aload_n 0, 1) := by decide +kernel
theorem dX11_rankHere_63 : decode cX11_rankHere 63 = .ok (.bipush 45, 2) := by decide +kernel
theorem dX11_rankHere_65 : decode cX11_rankHere 65 = .ok (.invokevirtual 298, 3) := by decide +kernel
theorem dX11_rankHere_68 : decode cX11_rankHere 68 = .ok (.ifCond .eq 5, 3) := by decide +kernel
theorem dX11_rankHere_71 : decode cX11_rankHere 71 = .ok (.iconst 5, 1) := by decide +kernel
theorem dX11_rankHere_72 : decode cX11_rankHere 72 = .ok (.ireturn, 1) := by decide +kernel
theorem dX11_rankHere_73 : decode cX11_rankHere 73 = .ok (.aload_n 0, 1) := by decide +kernel
theorem dX11_rankHere_74 : decode cX11_rankHere 74 = .ok (.bipush 42, 2) := by decide +kernel
theorem dX11_rankHere_76 : decode cX11_rankHere 76 = .ok (.invokevirtual 298, 3) := by decide +kernel
theorem dX11_rankHere_79 : decode cX11_rankHere 79 = .ok (.ifCond .eq 8, 3) := by decide +kernel
theorem dX11_rankHere_82 : decode cX11_rankHere 82 = .ok (.bipush 6, 2) := by decide +kernel
theorem dX11_rankHere_84 : decode cX11_rankHere 84 = .ok (.goto 4, 3) := by decide +kernel
theorem dX11_rankHere_87 : decode cX11_rankHere 87 = .ok (.iconst 0, 1) := by decide +kernel
theorem dX11_rankHere_88 : decode cX11_rankHere 88 = .ok (.ireturn, 1) := by decide +kernel
theorem dX11_isCompared_0 : decode cX11_isCompared 0 = .ok (.aload_n 0, 1) := by decide +kernel
theorem dX11_isCompared_1 : decode cX11_isCompared 1 = .ok (.getfield 389, 3) := by decide +kernel
theorem dX11_isCompared_4 : decode cX11_isCompared 4 = .ok (.iconst 1, 1) := by decide +kernel
theorem dX11_isCompared_5 : decode cX11_isCompared 5 = .ok (.isub, 1) := by decide +kernel
theorem dX11_isCompared_6 : decode cX11_isCompared 6 = .ok (.istore_n 1, 1) := by decide +kernel
theorem dX11_isCompared_7 : decode cX11_isCompared 7 = .ok (.aload_n 0, 1) := by decide +kernel
theorem dX11_isCompared_8 : decode cX11_isCompared 8 = .ok (.getfield 89, 3) := by decide +kernel
theorem dX11_isCompared_11 : decode cX11_isCompared 11 = .ok (.iload_n 1, 1) := by decide +kernel
theorem dX11_isCompared_12 : decode cX11_isCompared 12 = .ok (.iaload, 1) := by decide +kernel
theorem dX11_isCompared_13 : decode cX11_isCompared 13 = .ok (.iconst 5, 1) := by decide +kernel
theorem dX11_isCompared_14 : decode cX11_isCompared 14 = .ok (.if_icmp .eq 14, 3) := by decide +kernel
theorem dX11_isCompared_17 : decode cX11_isCompared 17 = .ok (.aload_n 0, 1) := by decide +kernel
theorem dX11_isCompared_18 : decode cX11_isCompared 18 = .ok (.getfield 89, 3) := by decide +kernel
theorem dX11_isCompared_21 : decode cX11_isCompared 21 = .ok (.iload_n 1, 1) := by decide +kernel
theorem dX11_isCompared_22 : decode cX11_isCompared 22 = .ok (.iaload, 1) := by decide +kernel
theorem dX11_isCompared_23 : decode cX11_isCompared 23 = .ok (.bipush 6, 2) := by decide +kernel
theorem dX11_isCompared_25 : decode cX11_isCompared 25 = .ok (.if_icmp .ne 9, 3) := by decide +kernel
theorem dX11_isCompared_28 : decode cX11_isCompared 28 = .ok (.iinc 1 (-1), 3) := by decide +kernel
theorem dX11_isCompared_31 : decode cX11_isCompared 31 = .ok (.goto (-24), 3) := by decide +kernel
theorem dX11_isCompared_34 : decode cX11_isCompared 34 = .ok (.aload_n 0, 1) := by decide +kernel
theorem dX11_isCompared_35 : decode cX11_isCompared 35 = .ok (.getfield 89, 3) := by decide +kernel
theorem dX11_isCompared_38 : decode cX11_isCompared 38 = .ok (.iload_n 1, 1) := by decide +kernel
theorem dX11_isCompared_39 : decode cX11_isCompared 39 = .ok (.iaload, 1) := by decide +kernel
theorem dX11_isCompared_40 : decode cX11_isCompared 40 = .ok (.iconst 4, 1) := by decide +kernel
theorem dX11_isCompared_41 : decode cX11_isCompared 41 = .ok (.if_icmp .ne 7, 3) := by decide +kernel
theorem dX11_isCompared_44 : decode cX11_isCompared 44 = .ok (.iconst 1, 1) := by decide +kernel
theorem dX11_isCompared_45 : decode cX11_isCompared 45 = .ok (.goto 4, 3) := by decide +kernel
theorem dX11_isCompared_48 : decode cX11_isCompared 48 = .ok (.iconst 0, 1) := by decide +kernel
theorem dX11_isCompared_49 : decode cX11_isCompared 49 = .ok (.ireturn, 1) := by decide +kernel
theorem dX11_behind_0 : decode cX11_behind 0 = .ok (.aload_n 0, 1) := by decide +kernel
theorem dX11_behind_1 : decode cX11_behind 1 = .ok (.invokevirtual 410, 3) := by decide +kernel
theorem dX11_behind_4 : decode cX11_behind 4 = .ok (.istore_n 1, 1) := by decide +kernel
theorem dX11_behind_5 : decode cX11_behind 5 = .ok (.iload_n 1, 1) := by decide +kernel
theorem dX11_behind_6 : decode cX11_behind 6 = .ok (.iconst 4, 1) := by decide +kernel
theorem dX11_behind_7 : decode cX11_behind 7 = .ok (.if_icmp .ne 16, 3) := by decide +kernel
theorem dX11_behind_10 : decode cX11_behind 10 = .ok (.aload_n 0, 1) := by decide +kernel
theorem dX11_behind_11 : decode cX11_behind 11 = .ok (.invokevirtual 413, 3) := by decide +kernel
theorem dX11_behind_14 : decode cX11_behind 14 = .ok (.ifCond .eq 9, 3) := by decide +kernel
theorem dX11_behind_17 : decode cX11_behind 17 = .ok (.aload_n 0, 1) := by decide +kernel
theorem dX11_behind_18 : decode cX11_behind 18 = .ok (.invokevirtual 257, 3) := by decide +kernel
theorem dX11_behind_21 : decode cX11_behind 21 = .ok (.iconst 1, 1) := by decide +kernel
theorem dX11_behind_22 : decode cX11_behind 22 = .ok (.ireturn, 1) := by decide +kernel
theorem dX11_behind_23 : decode cX11_behind 23 = .ok (.aload_n 0, 1) := by decide +kernel
theorem dX11_behind_24 : decode cX11_behind 24 = .ok (.getfield 89, 3) := by decide +kernel
theorem dX11_behind_27 : decode cX11_behind 27 = .ok (.aload_n 0, 1) := by decide +kernel
theorem dX11_behind_28 : decode cX11_behind 28 = .ok (.getfield 389, 3) := by decide +kernel
theorem dX11_behind_31 : decode cX11_behind 31 = .ok (.iconst 1, 1) := by decide +kernel
theorem dX11_behind_32 : decode cX11_behind 32 = .ok (.isub, 1) := by decide +kernel
theorem dX11_behind_33 : decode cX11_behind 33 = .ok (.iaload, 1) := by decide +kernel
theorem dX11_behind_34 : decode cX11_behind 34 = .ok (.bipush 6, 2) := by decide +kernel
theorem dX11_behind_36 : decode cX11_behind 36 = .ok (.if_icmp .gt 68, 3) := by decide +kernel
theorem dX11_behind_39 : decode cX11_behind 39 = .ok (.aload_n 0, 1) := by decide +kernel
theorem dX11_behind_40 : decode cX11_behind 40 = .ok (.getfield 89, 3) := by decide +kernel
theorem dX11_behind_43 : decode cX11_behind 43 = .ok (.aload_n 0, 1) := by decide +kernel
theorem dX11_behind_44 : decode cX11_behind 44 = .ok (.getfield 389, 3) := by decide +kernel
theorem dX11_behind_47 : decode cX11_behind 47 = .ok (.iconst 1, 1) := by decide +kernel
theorem dX11_behind_48 : decode cX11_behind 48 = .ok (.isub, 1) := by decide +kernel
theorem dX11_behind_49 : decode cX11_behind 49 = .ok (.iaload, 1) := by decide +kernel
theorem dX11_behind_50 : decode cX11_behind 50 = .ok (.iload_n 1, 1) := by decide +kernel
theorem dX11_behind_51 : decode cX11_behind 51 = .ok (.if_icmp .lt 53, 3) := by decide +kernel
theorem dX11_behind_54 : decode cX11_behind 54 = .ok (.aload_n 0, 1) := by decide +kernel
theorem dX11_behind_55 : decode cX11_behind 55 = .ok (.dup, 1) := by decide +kernel
theorem dX11_behind_56 : decode cX11_behind 56 = .ok (.getfield 389, 3) := by decide +kernel
theorem dX11_behind_59 : decode cX11_behind 59 = .ok (.iconst 1, 1) := by decide +kernel
theorem dX11_behind_60 : decode cX11_behind 60 = .ok (.isub, 1) := by decide +kernel
theorem dX11_behind_61 : decode cX11_behind 61 = .ok (.putfield 389, 3) := by decide +kernel
theorem dX11_behind_64 : decode cX11_behind 64 = .ok (.aload_n 0, 1) := by decide +kernel
theorem dX11_behind_65 : decode cX11_behind 65 = .ok (.getfield 89, 3) := by decide +kernel
theorem dX11_behind_68 : decode cX11_behind 68 = .ok (.aload_n 0, 1) := by decide +kernel
theorem dX11_behind_69 : decode cX11_behind 69 = .ok (.getfield 389, 3) := by decide +kernel
theorem dX11_behind_72 : decode cX11_behind 72 = .ok (.iaload, 1) := by decide +kernel
theorem dX11_behind_73 : decode cX11_behind 73 = .ok (.iconst 3, 1) := by decide +kernel
theorem dX11_behind_74 : decode cX11_behind 74 = .ok (.if_icmp .ne 13, 3) := by decide +kernel
theorem dX11_behind_77 : decode cX11_behind 77 = .ok (.aload_n 0, 1) := by decide +kernel
theorem dX11_behind_78 : decode cX11_behind 78 = .ok (.dup, 1) := by decide +kernel
theorem dX11_behind_79 : decode cX11_behind 79 = .ok (.getfield 392, 3) := by decide +kernel
theorem dX11_behind_82 : decode cX11_behind 82 = .ok (.iconst 1, 1) := by decide +kernel
theorem dX11_behind_83 : decode cX11_behind 83 = .ok (.isub, 1) := by decide +kernel
theorem dX11_behind_84 : decode cX11_behind 84 = .ok (.putfield 392, 3) := by decide +kernel
theorem dX11_behind_87 : decode cX11_behind 87 = .ok (.aload_n 0, 1) := by decide +kernel
theorem dX11_behind_88 : decode cX11_behind 88 = .ok (.aload_n 0, 1) := by decide +kernel
theorem dX11_behind_89 : decode cX11_behind 89 = .ok (.getfield 92, 3) := by decide +kernel
theorem dX11_behind_92 : decode cX11_behind 92 = .ok (.aload_n 0, 1) := by decide +kernel
theorem dX11_behind_93 : decode cX11_behind 93 = .ok (.getfield 389, 3) := by decide +kernel
theorem dX11_behind_96 : decode cX11_behind 96 = .ok (.iaload, 1) := by decide +kernel
theorem dX11_behind_97 : decode cX11_behind 97 = .ok (.iconst 0, 1) := by decide +kernel
theorem dX11_behind_98 : decode cX11_behind 98 = .ok (.invokevirtual 407, 3) := by decide +kernel
theorem dX11_behind_101 : decode cX11_behind 101 = .ok (.goto (-78), 3) := by decide +kernel
theorem dX11_behind_104 : decode cX11_behind 104 = .ok (.iload_n 1, 1) := by decide +kernel
theorem dX11_behind_105 : decode cX11_behind 105 = .ok (.ifCond .le 42, 3) := by decide +kernel
theorem dX11_behind_108 : decode cX11_behind 108 = .ok (.aload_n 0, 1) := by decide +kernel
theorem dX11_behind_109 : decode cX11_behind 109 = .ok (.iload_n 1, 1) := by decide +kernel
theorem dX11_behind_110 : decode cX11_behind 110 = .ok (.iload_n 1, 1) := by decide +kernel
theorem dX11_behind_111 : decode cX11_behind 111 = .ok (.iconst 2, 1) := by decide +kernel
theorem dX11_behind_112 : decode cX11_behind 112 = .ok (.if_icmp .ne 8, 3) := by decide +kernel
theorem dX11_behind_115 : decode cX11_behind 115 = .ok (.bipush 38, 2) := by decide +kernel
theorem dX11_behind_117 : decode cX11_behind 117 = .ok (.goto 21, 3) := by decide +kernel
theorem dX11_behind_120 : decode cX11_behind 120 = .ok (.iload_n 1, 1) := by decide +kernel
theorem dX11_behind_121 : decode cX11_behind 121 = .ok (.iconst 1, 1) := by decide +kernel
theorem dX11_behind_122 : decode cX11_behind 122 = .ok (.if_icmp .ne 8, 3) := by decide +kernel
theorem dX11_behind_125 : decode cX11_behind 125 = .ok (.bipush 124, 2) := by decide +kernel
theorem dX11_behind_127 : decode cX11_behind 127 = .ok (.goto 11, 3) := by decide +kernel
theorem dX11_behind_130 : decode cX11_behind 130 = .ok (.aload_n 0, 1) := by decide +kernel
theorem dX11_behind_131 : decode cX11_behind 131 = .ok (.aload_n 0, 1) := by decide +kernel
theorem dX11_behind_132 : decode cX11_behind 132 = .ok (.getfield 215, 3) := by decide +kernel
theorem dX11_behind_135 : decode cX11_behind 135 = .ok (.invokevirtual 218, 3) := by decide +kernel
theorem dX11_behind_138 : decode cX11_behind 138 = .ok (.invokevirtual 395, 3) := by decide +kernel
theorem dX11_behind_141 : decode cX11_behind 141 = .ok (.aload_n 0, 1) := by decide +kernel
theorem dX11_behind_142 : decode cX11_behind 142 = .ok (.invokevirtual 254, 3) := by decide +kernel
theorem dX11_behind_145 : decode cX11_behind 145 = .ok (.iconst 1, 1) := by decide +kernel
theorem dX11_behind_146 : decode cX11_behind 146 = .ok (.ireturn, 1) := by decide +kernel
theorem dX11_behind_147 : decode cX11_behind 147 = .ok (.aload_n 0, 1) := by decide +kernel
theorem dX11_behind_148 : decode cX11_behind 148 = .ok (.dup, 1) := by decide +kernel
theorem dX11_behind_149 : decode cX11_behind 149 = .ok (.getfield 389, 3) := by decide +kernel
theorem dX11_behind_152 : decode cX11_behind 152 = .ok (.iconst 1, 1) := by decide +kernel
theorem dX11_behind_153 : decode cX11_behind 153 = .ok (.isub, 1) := by decide +kernel
theorem dX11_behind_154 : decode cX11_behind 154 = .ok (.putfield 389, 3) := by decide +kernel
theorem dX11_behind_157 : decode cX11_behind 157 = .ok (.aload_n 0, 1) := by decide +kernel
theorem dX11_behind_158 : decode cX11_behind 158 = .ok (.getfield 89, 3) := by decide +kernel
theorem dX11_behind_161 : decode cX11_behind 161 = .ok (.aload_n 0, 1) := by decide +kernel
theorem dX11_behind_162 : decode cX11_behind 162 = .ok (.getfield 389, 3) := by decide +kernel
theorem dX11_behind_165 : decode cX11_behind 165 = .ok (.iaload, 1) := by decide +kernel
theorem dX11_behind_166 : decode cX11_behind 166 = .ok (.bipush 7, 2) := by decide +kernel
theorem dX11_behind_168 : decode cX11_behind 168 = .ok (.if_icmp .ne 23, 3) := by decide +kernel
theorem dX11_behind_171 : decode cX11_behind 171 = .ok (.aload_n 0, 1) := by decide +kernel
theorem dX11_behind_172 : decode cX11_behind 172 = .ok (.dup, 1) := by decide +kernel
theorem dX11_behind_173 : decode cX11_behind 173 = .ok (.getfield 392, 3) := by decide +kernel
theorem dX11_behind_176 : decode cX11_behind 176 = .ok (.iconst 1, 1) := by decide +kernel
theorem dX11_behind_177 : decode cX11_behind 177 = .ok (.isub, 1) := by decide +kernel
theorem dX11_behind_178 : decode cX11_behind 178 = .ok (.putfield 392, 3) := by decide +kernel
theorem dX11_behind_181 : decode cX11_behind 181 = .ok (.aload_n 0, 1) := by decide +kernel
theorem dX11_behind_182 : decode cX11_behind 182 = .ok (.aload_n 0, 1) := by decide +kernel
theorem dX11_behind_183 : decode cX11_behind 183 = .ok (.bipush 41, 2) := by decide +kernel
theorem dX11_behind_185 : decode cX11_behind 185 = .ok (.invokevirtual 298, 3) := by decide +kernel
theorem dX11_behind_188 : decode cX11_behind 188 = .ok (.invokevirtual 301, 3) := by decide +kernel
theorem dX11_behind_191 : decode cX11_behind 191 = .ok (.iconst 0, 1) := by decide +kernel
theorem dX11_behind_192 : decode cX11_behind 192 = .ok (.ireturn, 1) := by decide +kernel
theorem dX11_inForce_0 : decode cX11_inForce 0 = .ok (.iconst (-1), 1) := by decide +kernel
theorem dX11_inForce_1 : decode cX11_inForce 1 = .ok (.istore_n 2, 1) := by decide +kernel
theorem dX11_inForce_2 : decode cX11_inForce 2 = .ok (.iconst 0, 1) := by decide +kernel
theorem dX11_inForce_3 : decode cX11_inForce 3 = .ok (.istore_n 3, 1) := by decide +kernel
theorem dX11_inForce_4 : decode cX11_inForce 4 = .ok (.iload_n 3, 1) := by decide +kernel
theorem dX11_inForce_5 : decode cX11_inForce 5 = .ok (.aload_n 0, 1) := by decide +kernel
theorem dX11_inForce_6 : decode cX11_inForce 6 = .ok (.getfield 374, 3) := by decide +kernel
theorem dX11_inForce_9 : decode cX11_inForce 9 = .ok (.if_icmp .ge 40, 3) := by decide +kernel
theorem dX11_inForce_12 : decode cX11_inForce 12 = .ok (.aload_n 0, 1) := by decide +kernel
theorem dX11_inForce_13 : decode cX11_inForce 13 = .ok (.getfield 74, 3) := by decide +kernel
theorem dX11_inForce_16 : decode cX11_inForce 16 = .ok (.iload_n 3, 1) := by decide +kernel
theorem dX11_inForce_17 : decode cX11_inForce 17 = .ok (.iaload, 1) := by decide +kernel
theorem dX11_inForce_18 : decode cX11_inForce 18 = .ok (.iload_n 1, 1) := by decide +kernel
theorem dX11_inForce_19 : decode cX11_inForce 19 = .ok (.if_icmp .gt 24, 3) := by decide +kernel
theorem dX11_inForce_22 : decode cX11_inForce 22 = .ok (.iload_n 2, 1) := by decide +kernel
theorem dX11_inForce_23 : decode cX11_inForce 23 = .ok (.ifCond .lt 18, 3) := by decide +kernel
theorem dX11_inForce_26 : decode cX11_inForce 26 = .ok (.aload_n 0, 1) := by decide +kernel
theorem dX11_inForce_27 : decode cX11_inForce 27 = .ok (.getfield 74, 3) := by decide +kernel
theorem dX11_inForce_30 : decode cX11_inForce 30 = .ok (.iload_n 3, 1) := by decide +kernel
theorem dX11_inForce_31 : decode cX11_inForce 31 = .ok (.iaload, 1) := by decide +kernel
theorem dX11_inForce_32 : decode cX11_inForce 32 = .ok (.aload_n 0, 1) := by decide +kernel
theorem dX11_inForce_33 : decode cX11_inForce 33 = .ok (.getfield 74, 3) := by decide +kernel
theorem dX11_inForce_36 : decode cX11_inForce 36 = .ok (.iload_n 2, 1) := by decide +kernel
theorem dX11_inForce_37 : decode cX11_inForce 37 = .ok (.iaload, 1) := by decide +kernel
theorem dX11_inForce_38 : decode cX11_inForce 38 = .ok (.if_icmp .lt 5, 3) := by decide +kernel
theorem dX11_inForce_41 : decode cX11_inForce 41 = .ok (.iload_n 3, 1) := by decide +kernel
theorem dX11_inForce_42 : decode cX11_inForce 42 = .ok (.istore_n 2, 1) := by decide +kernel
theorem dX11_inForce_43 : decode cX11_inForce 43 = .ok (.iinc 3 1, 3) := by decide +kernel
theorem dX11_inForce_46 : decode cX11_inForce 46 = .ok (.goto (-42), 3) := by decide +kernel
theorem dX11_inForce_49 : decode cX11_inForce 49 = .ok (.iload_n 2, 1) := by decide +kernel
theorem dX11_inForce_50 : decode cX11_inForce 50 = .ok (.ireturn, 1) := by decide +kernel
theorem dX11_body_0 : decode cX11_body 0 = .ok (.aload_n 0, 1) := by decide +kernel
theorem dX11_body_1 : decode cX11_body 1 = .ok (.getfield 416, 3) := by decide +kernel
theorem dX11_body_4 : decode cX11_body 4 = .ok (.bipush 10, 2) := by decide +kernel
theorem dX11_body_6 : decode cX11_body 6 = .ok (.if_icmp .ne 5, 3) := by decide +kernel
theorem dX11_body_9 : decode cX11_body 9 = .ok (.iconst (-1), 1) := by decide +kernel
theorem dX11_body_10 : decode cX11_body 10 = .ok (.ireturn, 1) := by decide +kernel
theorem dX11_body_11 : decode cX11_body 11 = .ok (.aload_n 0, 1) := by decide +kernel
theorem dX11_body_12 : decode cX11_body 12 = .ok (.dup, 1) := by decide +kernel
theorem dX11_body_13 : decode cX11_body 13 = .ok (.getfield 416, 3) := by decide +kernel
theorem dX11_body_16 : decode cX11_body 16 = .ok (.iconst 1, 1) := by decide +kernel
theorem dX11_body_17 : decode cX11_body 17 = .ok (.iadd, 1) := by decide +kernel
theorem dX11_body_18 : decode cX11_body 18 = .ok (.putfield 416, 3) := by decide +kernel
theorem dX11_body_21 : decode cX11_body 21 = .ok (.aload_n 0, 1) := by decide +kernel
theorem dX11_body_22 : decode cX11_body 22 = .ok (.getfield 416, 3) := by decide +kernel
theorem dX11_body_25 : decode cX11_body 25 = .ok (.iconst 1, 1) := by decide +kernel
theorem dX11_body_26 : decode cX11_body 26 = .ok (.isub, 1) := by decide +kernel
theorem dX11_body_27 : decode cX11_body 27 = .ok (.ireturn, 1) := by decide +kernel
theorem dX11_isBody_0 : decode cX11_isBody 0 = .ok (.iload_n 1, 1) := by decide +kernel
theorem dX11_isBody_1 : decode cX11_isBody 1 = .ok (.iconst 0, 1) := by decide +kernel
theorem dX11_isBody_2 : decode cX11_isBody 2 = .ok (.aload_n 0, 1) := by decide +kernel
theorem dX11_isBody_3 : decode cX11_isBody 3 = .ok (.getfield 416, 3) := by decide +kernel
theorem dX11_isBody_6 : decode cX11_isBody 6 = .ok (.iconst 1, 1) := by decide +kernel
theorem dX11_isBody_7 : decode cX11_isBody 7 = .ok (.isub, 1) := by decide +kernel
theorem dX11_isBody_8 : decode cX11_isBody 8 = .ok (.invokestatic 323, 3) := by decide +kernel
theorem dX11_isBody_11 : decode cX11_isBody 11 = .ok (.ireturn, 1) := by decide +kernel
theorem dX11_tell_0 : decode cX11_tell 0 = .ok (.aload_n 0, 1) := by decide +kernel
theorem dX11_tell_1 : decode cX11_tell 1 = .ok (.getfield 275, 3) := by decide +kernel
theorem dX11_tell_4 : decode cX11_tell 4 = .ok (.sipush 200, 3) := by decide +kernel
theorem dX11_tell_7 : decode cX11_tell 7 = .ok (.if_icmp .ne 5, 3) := by decide +kernel
theorem dX11_tell_10 : decode cX11_tell 10 = .ok (.iconst (-1), 1) := by decide +kernel
theorem dX11_tell_11 : decode cX11_tell 11 = .ok (.ireturn, 1) := by decide +kernel
theorem dX11_tell_12 : decode cX11_tell 12 = .ok (.aload_n 0, 1) := by decide +kernel
theorem dX11_tell_13 : decode cX11_tell 13 = .ok (.getfield 101, 3) := by decide +kernel
theorem dX11_tell_16 : decode cX11_tell 16 = .ok (.aload_n 0, 1) := by decide +kernel
theorem dX11_tell_17 : decode cX11_tell 17 = .ok (.getfield 275, 3) := by decide +kernel
theorem dX11_tell_20 : decode cX11_tell 20 = .ok (.iload_n 1, 1) := by decide +kernel
theorem dX11_tell_21 : decode cX11_tell 21 = .ok (.iastore, 1) := by decide +kernel
theorem dX11_tell_22 : decode cX11_tell 22 = .ok (.aload_n 0, 1) := by decide +kernel
theorem dX11_tell_23 : decode cX11_tell 23 = .ok (.getfield 104, 3) := by decide +kernel
theorem dX11_tell_26 : decode cX11_tell 26 = .ok (.aload_n 0, 1) := by decide +kernel
theorem dX11_tell_27 : decode cX11_tell 27 = .ok (.getfield 275, 3) := by decide +kernel
theorem dX11_tell_30 : decode cX11_tell 30 = .ok (.iload_n 2, 1) := by decide +kernel
theorem dX11_tell_31 : decode cX11_tell 31 = .ok (.iastore, 1) := by decide +kernel
theorem dX11_tell_32 : decode cX11_tell 32 = .ok (.aload_n 0, 1) := by decide +kernel
theorem dX11_tell_33 : decode cX11_tell 33 = .ok (.getfield 107, 3) := by decide +kernel
theorem dX11_tell_36 : decode cX11_tell 36 = .ok (.aload_n 0, 1) := by decide +kernel
theorem dX11_tell_37 : decode cX11_tell 37 = .ok (.getfield 275, 3) := by decide +kernel
theorem dX11_tell_40 : decode cX11_tell 40 = .ok (.iload_n 3, 1) := by decide +kernel
theorem dX11_tell_41 : decode cX11_tell 41 = .ok (.iastore, 1) := by decide +kernel
theorem dX11_tell_42 : decode cX11_tell 42 = .ok (.aload_n 0, 1) := by decide +kernel
theorem dX11_tell_43 : decode cX11_tell 43 = .ok (.getfield 110, 3) := by decide +kernel
theorem dX11_tell_46 : decode cX11_tell 46 = .ok (.aload_n 0, 1) := by decide +kernel
theorem dX11_tell_47 : decode cX11_tell 47 = .ok (.getfield 275, 3) := by decide +kernel
theorem dX11_tell_50 : decode cX11_tell 50 = .ok (.iload 4, 2) := by decide +kernel
theorem dX11_tell_52 : decode cX11_tell 52 = .ok (.iastore, 1) := by decide +kernel
theorem dX11_tell_53 : decode cX11_tell 53 = .ok (.aload_n 0, 1) := by decide +kernel
theorem dX11_tell_54 : decode cX11_tell 54 = .ok (.getfield 113, 3) := by decide +kernel
theorem dX11_tell_57 : decode cX11_tell 57 = .ok (.aload_n 0, 1) := by decide +kernel
theorem dX11_tell_58 : decode cX11_tell 58 = .ok (.getfield 275, 3) := by decide +kernel
theorem dX11_tell_61 : decode cX11_tell 61 = .ok (.aload_n 0, 1) := by decide +kernel
theorem dX11_tell_62 : decode cX11_tell 62 = .ok (.getfield 419, 3) := by decide +kernel
theorem dX11_tell_65 : decode cX11_tell 65 = .ok (.iastore, 1) := by decide +kernel
theorem dX11_tell_66 : decode cX11_tell 66 = .ok (.aload_n 0, 1) := by decide +kernel
theorem dX11_tell_67 : decode cX11_tell 67 = .ok (.getfield 116, 3) := by decide +kernel
theorem dX11_tell_70 : decode cX11_tell 70 = .ok (.aload_n 0, 1) := by decide +kernel
theorem dX11_tell_71 : decode cX11_tell 71 = .ok (.getfield 275, 3) := by decide +kernel
theorem dX11_tell_74 : decode cX11_tell 74 = .ok (.iconst (-1), 1) := by decide +kernel
theorem dX11_tell_75 : decode cX11_tell 75 = .ok (.iastore, 1) := by decide +kernel
theorem dX11_tell_76 : decode cX11_tell 76 = .ok (.aload_n 0, 1) := by decide +kernel
theorem dX11_tell_77 : decode cX11_tell 77 = .ok (.dup, 1) := by decide +kernel
theorem dX11_tell_78 : decode cX11_tell 78 = .ok (.getfield 275, 3) := by decide +kernel
theorem dX11_tell_81 : decode cX11_tell 81 = .ok (.iconst 1, 1) := by decide +kernel
theorem dX11_tell_82 : decode cX11_tell 82 = .ok (.iadd, 1) := by decide +kernel
theorem dX11_tell_83 : decode cX11_tell 83 = .ok (.putfield 275, 3) := by decide +kernel
theorem dX11_tell_86 : decode cX11_tell 86 = .ok (.aload_n 0, 1) := by decide +kernel
theorem dX11_tell_87 : decode cX11_tell 87 = .ok (.getfield 275, 3) := by decide +kernel
theorem dX11_tell_90 : decode cX11_tell 90 = .ok (.iconst 1, 1) := by decide +kernel
theorem dX11_tell_91 : decode cX11_tell 91 = .ok (.isub, 1) := by decide +kernel
theorem dX11_tell_92 : decode cX11_tell 92 = .ok (.ireturn, 1) := by decide +kernel
theorem dX11_knows_0 : decode cX11_knows 0 = .ok (.aload_n 0, 1) := by decide +kernel
theorem dX11_knows_1 : decode cX11_knows 1 = .ok (.iload_n 1, 1) := by decide +kernel
theorem dX11_knows_2 : decode cX11_knows 2 = .ok (.invokevirtual 422, 3) := by decide +kernel
theorem dX11_knows_5 : decode cX11_knows 5 = .ok (.ifCond .eq 29, 3) := by decide +kernel
theorem dX11_knows_8 : decode cX11_knows 8 = .ok (.aload_n 0, 1) := by decide +kernel
theorem dX11_knows_9 : decode cX11_knows 9 = .ok (.iload_n 2, 1) := by decide +kernel
theorem dX11_knows_10 : decode cX11_knows 10 = .ok (.invokevirtual 333, 3) := by decide +kernel
theorem dX11_knows_13 : decode cX11_knows 13 = .ok (.ifCond .eq 21, 3) := by decide +kernel
theorem dX11_knows_16 : decode cX11_knows 16 = .ok (.iload_n 3, 1) := by decide +kernel
theorem dX11_knows_17 : decode cX11_knows 17 = .ok (.invokestatic 371, 3) := by decide +kernel
theorem dX11_knows_20 : decode cX11_knows 20 = .ok (.ifCond .eq 14, 3) := by decide +kernel
theorem dX11_knows_23 : decode cX11_knows 23 = .ok (.aload_n 0, 1) := by decide +kernel
theorem dX11_knows_24 : decode cX11_knows 24 = .ok (.iconst 0, 1) := by decide +kernel
theorem dX11_knows_25 : decode cX11_knows 25 = .ok (.iload_n 1, 1) := by decide +kernel
theorem dX11_knows_26 : decode cX11_knows 26 = .ok (.iload_n 2, 1) := by decide +kernel
theorem dX11_knows_27 : decode cX11_knows 27 = .ok (.iload_n 3, 1) := by decide +kernel
theorem dX11_knows_28 : decode cX11_knows 28 = .ok (.invokevirtual 425, 3) := by decide +kernel
theorem dX11_knows_31 : decode cX11_knows 31 = .ok (.goto 4, 3) := by decide +kernel
theorem dX11_knows_34 : decode cX11_knows 34 = .ok (.iconst (-1), 1) := by decide +kernel
theorem dX11_knows_35 : decode cX11_knows 35 = .ok (.ireturn, 1) := by decide +kernel
theorem dX11_danced_0 : decode cX11_danced 0 = .ok (.aload_n 0, 1) := by decide +kernel
theorem dX11_danced_1 : decode cX11_danced 1 = .ok (.iload_n 1, 1) := by decide +kernel
theorem dX11_danced_2 : decode cX11_danced 2 = .ok (.invokevirtual 422, 3) := by decide +kernel
theorem dX11_danced_5 : decode cX11_danced 5 = .ok (.ifCond .eq 29, 3) := by decide +kernel
theorem dX11_danced_8 : decode cX11_danced 8 = .ok (.aload_n 0, 1) := by decide +kernel
theorem dX11_danced_9 : decode cX11_danced 9 = .ok (.iload_n 2, 1) := by decide +kernel
theorem dX11_danced_10 : decode cX11_danced 10 = .ok (.invokevirtual 333, 3) := by decide +kernel
theorem dX11_danced_13 : decode cX11_danced 13 = .ok (.ifCond .eq 21, 3) := by decide +kernel
theorem dX11_danced_16 : decode cX11_danced 16 = .ok (.iload_n 3, 1) := by decide +kernel
theorem dX11_danced_17 : decode cX11_danced 17 = .ok (.invokestatic 371, 3) := by decide +kernel
theorem dX11_danced_20 : decode cX11_danced 20 = .ok (.ifCond .eq 14, 3) := by decide +kernel
theorem dX11_danced_23 : decode cX11_danced 23 = .ok (.aload_n 0, 1) := by decide +kernel
theorem dX11_danced_24 : decode cX11_danced 24 = .ok (.iconst 1, 1) := by decide +kernel
theorem dX11_danced_25 : decode cX11_danced 25 = .ok (.iload_n 1, 1) := by decide +kernel
theorem dX11_danced_26 : decode cX11_danced 26 = .ok (.iload_n 2, 1) := by decide +kernel
theorem dX11_danced_27 : decode cX11_danced 27 = .ok (.iload_n 3, 1) := by decide +kernel
theorem dX11_danced_28 : decode cX11_danced 28 = .ok (.invokevirtual 425, 3) := by decide +kernel
theorem dX11_danced_31 : decode cX11_danced 31 = .ok (.goto 4, 3) := by decide +kernel
theorem dX11_danced_34 : decode cX11_danced 34 = .ok (.iconst (-1), 1) := by decide +kernel
theorem dX11_danced_35 : decode cX11_danced 35 = .ok (.ireturn, 1) := by decide +kernel
theorem dX11_out_0 : decode cX11_out 0 = .ok (.aload_n 0, 1) := by decide +kernel
theorem dX11_out_1 : decode cX11_out 1 = .ok (.iload_n 1, 1) := by decide +kernel
theorem dX11_out_2 : decode cX11_out 2 = .ok (.invokevirtual 422, 3) := by decide +kernel
theorem dX11_out_5 : decode cX11_out 5 = .ok (.ifCond .eq 32, 3) := by decide +kernel
theorem dX11_out_8 : decode cX11_out 8 = .ok (.iload_n 2, 1) := by decide +kernel
theorem dX11_out_9 : decode cX11_out 9 = .ok (.invokestatic 371, 3) := by decide +kernel
theorem dX11_out_12 : decode cX11_out 12 = .ok (.ifCond .eq 25, 3) := by decide +kernel
theorem dX11_out_15 : decode cX11_out 15 = .ok (.iload_n 3, 1) := by decide +kernel
theorem dX11_out_16 : decode cX11_out 16 = .ok (.iload_n 2, 1) := by decide +kernel
theorem dX11_out_17 : decode cX11_out 17 = .ok (.sipush 999, 3) := by decide +kernel
theorem dX11_out_20 : decode cX11_out 20 = .ok (.invokestatic 323, 3) := by decide +kernel
theorem dX11_out_23 : decode cX11_out 23 = .ok (.ifCond .eq 14, 3) := by decide +kernel
theorem dX11_out_26 : decode cX11_out 26 = .ok (.aload_n 0, 1) := by decide +kernel
theorem dX11_out_27 : decode cX11_out 27 = .ok (.iconst 2, 1) := by decide +kernel
theorem dX11_out_28 : decode cX11_out 28 = .ok (.iload_n 1, 1) := by decide +kernel
theorem dX11_out_29 : decode cX11_out 29 = .ok (.iload_n 2, 1) := by decide +kernel
theorem dX11_out_30 : decode cX11_out 30 = .ok (.iload_n 3, 1) := by decide +kernel
theorem dX11_out_31 : decode cX11_out 31 = .ok (.invokevirtual 425, 3) := by decide +kernel
theorem dX11_out_34 : decode cX11_out 34 = .ok (.goto 4, 3) := by decide +kernel
theorem dX11_out_37 : decode cX11_out 37 = .ok (.iconst (-1), 1) := by decide +kernel
theorem dX11_out_38 : decode cX11_out 38 = .ok (.ireturn, 1) := by decide +kernel
theorem dX11_leaves_0 : decode cX11_leaves 0 = .ok (.aload_n 0, 1) := by decide +kernel
theorem dX11_leaves_1 : decode cX11_leaves 1 = .ok (.iload_n 1, 1) := by decide +kernel
theorem dX11_leaves_2 : decode cX11_leaves 2 = .ok (.invokevirtual 422, 3) := by decide +kernel
theorem dX11_leaves_5 : decode cX11_leaves 5 = .ok (.ifCond .eq 21, 3) := by decide +kernel
theorem dX11_leaves_8 : decode cX11_leaves 8 = .ok (.iload_n 2, 1) := by decide +kernel
theorem dX11_leaves_9 : decode cX11_leaves 9 = .ok (.invokestatic 371, 3) := by decide +kernel
theorem dX11_leaves_12 : decode cX11_leaves 12 = .ok (.ifCond .eq 14, 3) := by decide +kernel
theorem dX11_leaves_15 : decode cX11_leaves 15 = .ok (.aload_n 0, 1) := by decide +kernel
theorem dX11_leaves_16 : decode cX11_leaves 16 = .ok (.iconst 3, 1) := by decide +kernel
theorem dX11_leaves_17 : decode cX11_leaves 17 = .ok (.iload_n 1, 1) := by decide +kernel
theorem dX11_leaves_18 : decode cX11_leaves 18 = .ok (.iload_n 2, 1) := by decide +kernel
theorem dX11_leaves_19 : decode cX11_leaves 19 = .ok (.iconst 0, 1) := by decide +kernel
theorem dX11_leaves_20 : decode cX11_leaves 20 = .ok (.invokevirtual 425, 3) := by decide +kernel
theorem dX11_leaves_23 : decode cX11_leaves 23 = .ok (.goto 4, 3) := by decide +kernel
theorem dX11_leaves_26 : decode cX11_leaves 26 = .ok (.iconst (-1), 1) := by decide +kernel
theorem dX11_leaves_27 : decode cX11_leaves 27 = .ok (.ireturn, 1) := by decide +kernel
theorem dX11_film_0 : decode cX11_film 0 = .ok (.aload_n 0, 1) := by decide +kernel
theorem dX11_film_1 : decode cX11_film 1 = .ok (.iload_n 1, 1) := by decide +kernel
theorem dX11_film_2 : decode cX11_film 2 = .ok (.invokevirtual 368, 3) := by decide +kernel
theorem dX11_film_5 : decode cX11_film 5 = .ok (.ifCond .eq 36, 3) := by decide +kernel
theorem dX11_film_8 : decode cX11_film 8 = .ok (.iload_n 2, 1) := by decide +kernel
theorem dX11_film_9 : decode cX11_film 9 = .ok (.iconst 1, 1) := by decide +kernel
theorem dX11_film_10 : decode cX11_film 10 = .ok (.aload_n 0, 1) := by decide +kernel
theorem dX11_film_11 : decode cX11_film 11 = .ok (.iload_n 1, 1) := by decide +kernel
theorem dX11_film_12 : decode cX11_film 12 = .ok (.invokevirtual 339, 3) := by decide +kernel
theorem dX11_film_15 : decode cX11_film 15 = .ok (.invokestatic 323, 3) := by decide +kernel
theorem dX11_film_18 : decode cX11_film 18 = .ok (.ifCond .eq 23, 3) := by decide +kernel
theorem dX11_film_21 : decode cX11_film 21 = .ok (.iload_n 3, 1) := by decide +kernel
theorem dX11_film_22 : decode cX11_film 22 = .ok (.iconst 0, 1) := by decide +kernel
theorem dX11_film_23 : decode cX11_film 23 = .ok (.iconst 5, 1) := by decide +kernel
theorem dX11_film_24 : decode cX11_film 24 = .ok (.invokestatic 323, 3) := by decide +kernel
theorem dX11_film_27 : decode cX11_film 27 = .ok (.ifCond .eq 14, 3) := by decide +kernel
theorem dX11_film_30 : decode cX11_film 30 = .ok (.aload_n 0, 1) := by decide +kernel
theorem dX11_film_31 : decode cX11_film 31 = .ok (.iconst 4, 1) := by decide +kernel
theorem dX11_film_32 : decode cX11_film 32 = .ok (.iload_n 1, 1) := by decide +kernel
theorem dX11_film_33 : decode cX11_film 33 = .ok (.iload_n 2, 1) := by decide +kernel
theorem dX11_film_34 : decode cX11_film 34 = .ok (.iload_n 3, 1) := by decide +kernel
theorem dX11_film_35 : decode cX11_film 35 = .ok (.invokevirtual 425, 3) := by decide +kernel
theorem dX11_film_38 : decode cX11_film 38 = .ok (.goto 4, 3) := by decide +kernel
theorem dX11_film_41 : decode cX11_film 41 = .ok (.iconst (-1), 1) := by decide +kernel
theorem dX11_film_42 : decode cX11_film 42 = .ok (.ireturn, 1) := by decide +kernel
theorem dX11_untell_0 : decode cX11_untell 0 = .ok (.iload_n 1, 1) := by decide +kernel
theorem dX11_untell_1 : decode cX11_untell 1 = .ok (.ifCond .lt 20, 3) := by decide +kernel
theorem dX11_untell_4 : decode cX11_untell 4 = .ok (.iload_n 1, 1) := by decide +kernel
theorem dX11_untell_5 : decode cX11_untell 5 = .ok (.aload_n 0, 1) := by decide +kernel
theorem dX11_untell_6 : decode cX11_untell 6 = .ok (.getfield 275, 3) := by decide +kernel
theorem dX11_untell_9 : decode cX11_untell 9 = .ok (.if_icmp .ge 12, 3) := by decide +kernel
theorem dX11_untell_12 : decode cX11_untell 12 = .ok (.aload_n 0, 1) := by decide +kernel
theorem dX11_untell_13 : decode cX11_untell 13 = .ok (.getfield 116, 3) := by decide +kernel
theorem dX11_untell_16 : decode cX11_untell 16 = .ok (.iload_n 1, 1) := by decide +kernel
theorem dX11_untell_17 : decode cX11_untell 17 = .ok (.iaload, 1) := by decide +kernel
theorem dX11_untell_18 : decode cX11_untell 18 = .ok (.ifCond .lt 5, 3) := by decide +kernel
theorem dX11_untell_21 : decode cX11_untell 21 = .ok (.iconst 0, 1) := by decide +kernel
theorem dX11_untell_22 : decode cX11_untell 22 = .ok (.ireturn, 1) := by decide +kernel
theorem dX11_untell_23 : decode cX11_untell 23 = .ok (.aload_n 0, 1) := by decide +kernel
theorem dX11_untell_24 : decode cX11_untell 24 = .ok (.getfield 116, 3) := by decide +kernel
theorem dX11_untell_27 : decode cX11_untell 27 = .ok (.iload_n 1, 1) := by decide +kernel
theorem dX11_untell_28 : decode cX11_untell 28 = .ok (.aload_n 0, 1) := by decide +kernel
theorem dX11_untell_29 : decode cX11_untell 29 = .ok (.getfield 419, 3) := by decide +kernel
theorem dX11_untell_32 : decode cX11_untell 32 = .ok (.iastore, 1) := by decide +kernel
theorem dX11_untell_33 : decode cX11_untell 33 = .ok (.iconst 1, 1) := by decide +kernel
theorem dX11_untell_34 : decode cX11_untell 34 = .ok (.ireturn, 1) := by decide +kernel
theorem dX11_later_0 : decode cX11_later 0 = .ok (.iload_n 1, 1) := by decide +kernel
theorem dX11_later_1 : decode cX11_later 1 = .ok (.ifCond .lt 22, 3) := by decide +kernel
theorem dX11_later_4 : decode cX11_later 4 = .ok (.iload_n 1, 1) := by decide +kernel
theorem dX11_later_5 : decode cX11_later 5 = .ok (.sipush 1000, 3) := by decide +kernel
theorem dX11_later_8 : decode cX11_later 8 = .ok (.if_icmp .gt 15, 3) := by decide +kernel
theorem dX11_later_11 : decode cX11_later 11 = .ok (.aload_n 0, 1) := by decide +kernel
theorem dX11_later_12 : decode cX11_later 12 = .ok (.getfield 419, 3) := by decide +kernel
theorem dX11_later_15 : decode cX11_later 15 = .ok (.iload_n 1, 1) := by decide +kernel
theorem dX11_later_16 : decode cX11_later 16 = .ok (.iadd, 1) := by decide +kernel
theorem dX11_later_17 : decode cX11_later 17 = .ok (.ldc_w 429, 3) := by decide +kernel
theorem dX11_later_20 : decode cX11_later 20 = .ok (.if_icmp .le 5, 3) := by decide +kernel
theorem dX11_later_23 : decode cX11_later 23 = .ok (.iconst (-1), 1) := by decide +kernel
theorem dX11_later_24 : decode cX11_later 24 = .ok (.ireturn, 1) := by decide +kernel
theorem dX11_later_25 : decode cX11_later 25 = .ok (.aload_n 0, 1) := by decide +kernel
theorem dX11_later_26 : decode cX11_later 26 = .ok (.dup, 1) := by decide +kernel
theorem dX11_later_27 : decode cX11_later 27 = .ok (.getfield 419, 3) := by decide +kernel
theorem dX11_later_30 : decode cX11_later 30 = .ok (.iload_n 1, 1) := by decide +kernel
theorem dX11_later_31 : decode cX11_later 31 = .ok (.iadd, 1) := by decide +kernel
theorem dX11_later_32 : decode cX11_later 32 = .ok (.putfield 419, 3) := by decide +kernel
theorem dX11_later_35 : decode cX11_later 35 = .ok (.aload_n 0, 1) := by decide +kernel
theorem dX11_later_36 : decode cX11_later 36 = .ok (.getfield 419, 3) := by decide +kernel
theorem dX11_later_39 : decode cX11_later 39 = .ok (.ireturn, 1) := by decide +kernel
theorem dX11_isFact_0 : decode cX11_isFact 0 = .ok (.aload_n 0, 1) := by decide +kernel
theorem dX11_isFact_1 : decode cX11_isFact 1 = .ok (.getfield 101, 3) := by decide +kernel
theorem dX11_isFact_4 : decode cX11_isFact 4 = .ok (.iload_n 1, 1) := by decide +kernel
theorem dX11_isFact_5 : decode cX11_isFact 5 = .ok (.iaload, 1) := by decide +kernel
theorem dX11_isFact_6 : decode cX11_isFact 6 = .ok (.iload_n 2, 1) := by decide +kernel
theorem dX11_isFact_7 : decode cX11_isFact 7 = .ok (.if_icmp .ne 48, 3) := by decide +kernel
theorem dX11_isFact_10 : decode cX11_isFact 10 = .ok (.aload_n 0, 1) := by decide +kernel
theorem dX11_isFact_11 : decode cX11_isFact 11 = .ok (.getfield 104, 3) := by decide +kernel
theorem dX11_isFact_14 : decode cX11_isFact 14 = .ok (.iload_n 1, 1) := by decide +kernel
theorem dX11_isFact_15 : decode cX11_isFact 15 = .ok (.iaload, 1) := by decide +kernel
theorem dX11_isFact_16 : decode cX11_isFact 16 = .ok (.iload_n 3, 1) := by decide +kernel
theorem dX11_isFact_17 : decode cX11_isFact 17 = .ok (.if_icmp .ne 38, 3) := by decide +kernel
theorem dX11_isFact_20 : decode cX11_isFact 20 = .ok (.aload_n 0, 1) := by decide +kernel
theorem dX11_isFact_21 : decode cX11_isFact 21 = .ok (.getfield 113, 3) := by decide +kernel
theorem dX11_isFact_24 : decode cX11_isFact 24 = .ok (.iload_n 1, 1) := by decide +kernel
theorem dX11_isFact_25 : decode cX11_isFact 25 = .ok (.iaload, 1) := by decide +kernel
theorem dX11_isFact_26 : decode cX11_isFact 26 = .ok (.iload 4, 2) := by decide +kernel
theorem dX11_isFact_28 : decode cX11_isFact 28 = .ok (.if_icmp .gt 27, 3) := by decide +kernel
theorem dX11_isFact_31 : decode cX11_isFact 31 = .ok (.aload_n 0, 1) := by decide +kernel
theorem dX11_isFact_32 : decode cX11_isFact 32 = .ok (.getfield 116, 3) := by decide +kernel
theorem dX11_isFact_35 : decode cX11_isFact 35 = .ok (.iload_n 1, 1) := by decide +kernel
theorem dX11_isFact_36 : decode cX11_isFact 36 = .ok (.iaload, 1) := by decide +kernel
theorem dX11_isFact_37 : decode cX11_isFact 37 = .ok (.ifCond .lt 14, 3) := by decide +kernel
theorem dX11_isFact_40 : decode cX11_isFact 40 = .ok (.aload_n 0, 1) := by decide +kernel
theorem dX11_isFact_41 : decode cX11_isFact 41 = .ok (.getfield 116, 3) := by decide +kernel
theorem dX11_isFact_44 : decode cX11_isFact 44 = .ok (.iload_n 1, 1) := by decide +kernel
theorem dX11_isFact_45 : decode cX11_isFact 45 = .ok (.iaload, 1) := by decide +kernel
theorem dX11_isFact_46 : decode cX11_isFact 46 = .ok (.iload 4, 2) := by decide +kernel
theorem dX11_isFact_48 : decode cX11_isFact 48 = .ok (.if_icmp .le 7, 3) := by decide +kernel
theorem dX11_isFact_51 : decode cX11_isFact 51 = .ok (.iconst 1, 1) := by decide +kernel
theorem dX11_isFact_52 : decode cX11_isFact 52 = .ok (.goto 4, 3) := by decide +kernel
theorem dX11_isFact_55 : decode cX11_isFact 55 = .ok (.iconst 0, 1) := by decide +kernel
theorem dX11_isFact_56 : decode cX11_isFact 56 = .ok (.ireturn, 1) := by decide +kernel
theorem dX11_borne_0 : decode cX11_borne 0 = .ok (.aload_n 0, 1) := by decide +kernel
theorem dX11_borne_1 : decode cX11_borne 1 = .ok (.iload_n 1, 1) := by decide +kernel
theorem dX11_borne_2 : decode cX11_borne 2 = .ok (.invokevirtual 368, 3) := by decide +kernel
theorem dX11_borne_5 : decode cX11_borne 5 = .ok (.ifCond .eq 10, 3) := by decide +kernel
theorem dX11_borne_8 : decode cX11_borne 8 = .ok (.iload_n 2, 1) := by decide +kernel
theorem dX11_borne_9 : decode cX11_borne 9 = .ok (.invokestatic 342, 3) := by decide +kernel
theorem dX11_borne_12 : decode cX11_borne 12 = .ok (.ifCond .ne 5, 3) := by decide +kernel
theorem dX11_borne_15 : decode cX11_borne 15 = .ok (.iconst (-1), 1) := by decide +kernel
theorem dX11_borne_16 : decode cX11_borne 16 = .ok (.ireturn, 1) := by decide +kernel
theorem dX11_borne_17 : decode cX11_borne 17 = .ok (.iconst 0, 1) := by decide +kernel
theorem dX11_borne_18 : decode cX11_borne 18 = .ok (.istore 4, 2) := by decide +kernel
theorem dX11_borne_20 : decode cX11_borne 20 = .ok (.iconst 0, 1) := by decide +kernel
theorem dX11_borne_21 : decode cX11_borne 21 = .ok (.istore 5, 2) := by decide +kernel
theorem dX11_borne_23 : decode cX11_borne 23 = .ok (.iload 5, 2) := by decide +kernel
theorem dX11_borne_25 : decode cX11_borne 25 = .ok (.aload_n 0, 1) := by decide +kernel
theorem dX11_borne_26 : decode cX11_borne 26 = .ok (.getfield 275, 3) := by decide +kernel
theorem dX11_borne_29 : decode cX11_borne 29 = .ok (.if_icmp .ge 54, 3) := by decide +kernel
theorem dX11_borne_32 : decode cX11_borne 32 = .ok (.iload 4, 2) := by decide +kernel
theorem dX11_borne_34 : decode cX11_borne 34 = .ok (.aload_n 0, 1) := by decide +kernel
theorem dX11_borne_35 : decode cX11_borne 35 = .ok (.iload 5, 2) := by decide +kernel
theorem dX11_borne_37 : decode cX11_borne 37 = .ok (.iconst 4, 1) := by decide +kernel
theorem dX11_borne_38 : decode cX11_borne 38 = .ok (.iload_n 1, 1) := by decide +kernel
theorem dX11_borne_39 : decode cX11_borne 39 = .ok (.iload_n 3, 1) := by decide +kernel
theorem dX11_borne_40 : decode cX11_borne 40 = .ok (.invokevirtual 430, 3) := by decide +kernel
theorem dX11_borne_43 : decode cX11_borne 43 = .ok (.ifCond .eq 30, 3) := by decide +kernel
theorem dX11_borne_46 : decode cX11_borne 46 = .ok (.aload_n 0, 1) := by decide +kernel
theorem dX11_borne_47 : decode cX11_borne 47 = .ok (.iload_n 1, 1) := by decide +kernel
theorem dX11_borne_48 : decode cX11_borne 48 = .ok (.aload_n 0, 1) := by decide +kernel
theorem dX11_borne_49 : decode cX11_borne 49 = .ok (.getfield 107, 3) := by decide +kernel
theorem dX11_borne_52 : decode cX11_borne 52 = .ok (.iload 5, 2) := by decide +kernel
theorem dX11_borne_54 : decode cX11_borne 54 = .ok (.iaload, 1) := by decide +kernel
theorem dX11_borne_55 : decode cX11_borne 55 = .ok (.iload_n 2, 1) := by decide +kernel
theorem dX11_borne_56 : decode cX11_borne 56 = .ok (.invokevirtual 345, 3) := by decide +kernel
theorem dX11_borne_59 : decode cX11_borne 59 = .ok (.aload_n 0, 1) := by decide +kernel
theorem dX11_borne_60 : decode cX11_borne 60 = .ok (.getfield 110, 3) := by decide +kernel
theorem dX11_borne_63 : decode cX11_borne 63 = .ok (.iload 5, 2) := by decide +kernel
theorem dX11_borne_65 : decode cX11_borne 65 = .ok (.iaload, 1) := by decide +kernel
theorem dX11_borne_66 : decode cX11_borne 66 = .ok (.if_icmp .ne 7, 3) := by decide +kernel
theorem dX11_borne_69 : decode cX11_borne 69 = .ok (.iconst 1, 1) := by decide +kernel
theorem dX11_borne_70 : decode cX11_borne 70 = .ok (.goto 4, 3) := by decide +kernel
theorem dX11_borne_73 : decode cX11_borne 73 = .ok (.iconst 0, 1) := by decide +kernel
theorem dX11_borne_74 : decode cX11_borne 74 = .ok (.iadd, 1) := by decide +kernel
theorem dX11_borne_75 : decode cX11_borne 75 = .ok (.istore 4, 2) := by decide +kernel
theorem dX11_borne_77 : decode cX11_borne 77 = .ok (.iinc 5 1, 3) := by decide +kernel
theorem dX11_borne_80 : decode cX11_borne 80 = .ok (.goto (-57), 3) := by decide +kernel
theorem dX11_borne_83 : decode cX11_borne 83 = .ok (.iload 4, 2) := by decide +kernel
theorem dX11_borne_85 : decode cX11_borne 85 = .ok (.ireturn, 1) := by decide +kernel
theorem dX11_ask_0 : decode cX11_ask 0 = .ok (.aload_n 0, 1) := by decide +kernel
theorem dX11_ask_1 : decode cX11_ask 1 = .ok (.iload_n 1, 1) := by decide +kernel
theorem dX11_ask_2 : decode cX11_ask 2 = .ok (.putfield 434, 3) := by decide +kernel
theorem dX11_ask_5 : decode cX11_ask 5 = .ok (.aload_n 0, 1) := by decide +kernel
theorem dX11_ask_6 : decode cX11_ask 6 = .ok (.iload_n 2, 1) := by decide +kernel
theorem dX11_ask_7 : decode cX11_ask 7 = .ok (.putfield 437, 3) := by decide +kernel
theorem dX11_ask_10 : decode cX11_ask 10 = .ok (.aload_n 0, 1) := by decide +kernel
theorem dX11_ask_11 : decode cX11_ask 11 = .ok (.iload_n 3, 1) := by decide +kernel
theorem dX11_ask_12 : decode cX11_ask 12 = .ok (.putfield 440, 3) := by decide +kernel
theorem dX11_ask_15 : decode cX11_ask 15 = .ok (.aload_n 0, 1) := by decide +kernel
theorem dX11_ask_16 : decode cX11_ask 16 = .ok (.sipush 999, 3) := by decide +kernel
theorem dX11_ask_19 : decode cX11_ask 19 = .ok (.putfield 443, 3) := by decide +kernel
theorem dX11_ask_22 : decode cX11_ask 22 = .ok (.aload_n 0, 1) := by decide +kernel
theorem dX11_ask_23 : decode cX11_ask 23 = .ok (.sipush 999, 3) := by decide +kernel
theorem dX11_ask_26 : decode cX11_ask 26 = .ok (.putfield 446, 3) := by decide +kernel
theorem dX11_ask_29 : decode cX11_ask 29 = .ok (.aload_n 0, 1) := by decide +kernel
theorem dX11_ask_30 : decode cX11_ask 30 = .ok (.iconst 0, 1) := by decide +kernel
theorem dX11_ask_31 : decode cX11_ask 31 = .ok (.putfield 449, 3) := by decide +kernel
theorem dX11_ask_34 : decode cX11_ask 34 = .ok (.aload_n 0, 1) := by decide +kernel
theorem dX11_ask_35 : decode cX11_ask 35 = .ok (.sipush 999, 3) := by decide +kernel
theorem dX11_ask_38 : decode cX11_ask 38 = .ok (.putfield 452, 3) := by decide +kernel
theorem dX11_ask_41 : decode cX11_ask 41 = .ok (.iconst (-1), 1) := by decide +kernel
theorem dX11_ask_42 : decode cX11_ask 42 = .ok (.istore 5, 2) := by decide +kernel
theorem dX11_ask_44 : decode cX11_ask 44 = .ok (.iconst 0, 1) := by decide +kernel
theorem dX11_ask_45 : decode cX11_ask 45 = .ok (.istore 6, 2) := by decide +kernel
theorem dX11_ask_47 : decode cX11_ask 47 = .ok (.iload 6, 2) := by decide +kernel
theorem dX11_ask_49 : decode cX11_ask 49 = .ok (.aload_n 0, 1) := by decide +kernel
theorem dX11_ask_50 : decode cX11_ask 50 = .ok (.getfield 275, 3) := by decide +kernel
theorem dX11_ask_53 : decode cX11_ask 53 = .ok (.if_icmp .ge 170, 3) := by decide +kernel
theorem dX11_ask_56 : decode cX11_ask 56 = .ok (.iload_n 3, 1) := by decide +kernel
theorem dX11_ask_57 : decode cX11_ask 57 = .ok (.aload_n 0, 1) := by decide +kernel
theorem dX11_ask_58 : decode cX11_ask 58 = .ok (.getfield 110, 3) := by decide +kernel
theorem dX11_ask_61 : decode cX11_ask 61 = .ok (.iload 6, 2) := by decide +kernel
theorem dX11_ask_63 : decode cX11_ask 63 = .ok (.iaload, 1) := by decide +kernel
theorem dX11_ask_64 : decode cX11_ask 64 = .ok (.isub, 1) := by decide +kernel
theorem dX11_ask_65 : decode cX11_ask 65 = .ok (.istore 7, 2) := by decide +kernel
theorem dX11_ask_67 : decode cX11_ask 67 = .ok (.aload_n 0, 1) := by decide +kernel
theorem dX11_ask_68 : decode cX11_ask 68 = .ok (.iload 6, 2) := by decide +kernel
theorem dX11_ask_70 : decode cX11_ask 70 = .ok (.iconst 0, 1) := by decide +kernel
theorem dX11_ask_71 : decode cX11_ask 71 = .ok (.iload_n 1, 1) := by decide +kernel
theorem dX11_ask_72 : decode cX11_ask 72 = .ok (.iload 4, 2) := by decide +kernel
theorem dX11_ask_74 : decode cX11_ask 74 = .ok (.invokevirtual 430, 3) := by decide +kernel
theorem dX11_ask_77 : decode cX11_ask 77 = .ok (.ifCond .eq 35, 3) := by decide +kernel
theorem dX11_ask_80 : decode cX11_ask 80 = .ok (.aload_n 0, 1) := by decide +kernel
theorem dX11_ask_81 : decode cX11_ask 81 = .ok (.getfield 107, 3) := by decide +kernel
theorem dX11_ask_84 : decode cX11_ask 84 = .ok (.iload 6, 2) := by decide +kernel
theorem dX11_ask_86 : decode cX11_ask 86 = .ok (.iaload, 1) := by decide +kernel
theorem dX11_ask_87 : decode cX11_ask 87 = .ok (.iload_n 2, 1) := by decide +kernel
theorem dX11_ask_88 : decode cX11_ask 88 = .ok (.if_icmp .ne 24, 3) := by decide +kernel
theorem dX11_ask_91 : decode cX11_ask 91 = .ok (.iload 7, 2) := by decide +kernel
theorem dX11_ask_93 : decode cX11_ask 93 = .ok (.ifCond .lt 19, 3) := by decide +kernel
theorem dX11_ask_96 : decode cX11_ask 96 = .ok (.iload 7, 2) := by decide +kernel
theorem dX11_ask_98 : decode cX11_ask 98 = .ok (.iload 5, 2) := by decide +kernel
theorem dX11_ask_100 : decode cX11_ask 100 = .ok (.if_icmp .le 8, 3) := by decide +kernel
theorem dX11_ask_103 : decode cX11_ask 103 = .ok (.iload 7, 2) := by decide +kernel
theorem dX11_ask_105 : decode cX11_ask 105 = .ok (.goto 5, 3) := by decide +kernel
theorem dX11_ask_108 : decode cX11_ask 108 = .ok (.iload 5, 2) := by decide +kernel
theorem dX11_ask_110 : decode cX11_ask 110 = .ok (.istore 5, 2) := by decide +kernel
theorem dX11_ask_112 : decode cX11_ask 112 = .ok (.aload_n 0, 1) := by decide +kernel
theorem dX11_ask_113 : decode cX11_ask 113 = .ok (.iload 6, 2) := by decide +kernel
theorem dX11_ask_115 : decode cX11_ask 115 = .ok (.iconst 1, 1) := by decide +kernel
theorem dX11_ask_116 : decode cX11_ask 116 = .ok (.iload_n 1, 1) := by decide +kernel
theorem dX11_ask_117 : decode cX11_ask 117 = .ok (.iload 4, 2) := by decide +kernel
theorem dX11_ask_119 : decode cX11_ask 119 = .ok (.invokevirtual 430, 3) := by decide +kernel
theorem dX11_ask_122 : decode cX11_ask 122 = .ok (.ifCond .eq 95, 3) := by decide +kernel
theorem dX11_ask_125 : decode cX11_ask 125 = .ok (.iload 7, 2) := by decide +kernel
theorem dX11_ask_127 : decode cX11_ask 127 = .ok (.iconst 1, 1) := by decide +kernel
theorem dX11_ask_128 : decode cX11_ask 128 = .ok (.if_icmp .ge 6, 3) := by decide +kernel
theorem dX11_ask_131 : decode cX11_ask 131 = .ok (.goto 86, 3) := by decide +kernel
theorem dX11_ask_134 : decode cX11_ask 134 = .ok (.aload_n 0, 1) := by decide +kernel
theorem dX11_ask_135 : decode cX11_ask 135 = .ok (.iload 7, 2) := by decide +kernel
theorem dX11_ask_137 : decode cX11_ask 137 = .ok (.aload_n 0, 1) := by decide +kernel
theorem dX11_ask_138 : decode cX11_ask 138 = .ok (.getfield 452, 3) := by decide +kernel
theorem dX11_ask_141 : decode cX11_ask 141 = .ok (.if_icmp .ge 8, 3) := by decide +kernel
theorem dX11_ask_144 : decode cX11_ask 144 = .ok (.iload 7, 2) := by decide +kernel
theorem dX11_ask_146 : decode cX11_ask 146 = .ok (.goto 7, 3) := by decide +kernel
theorem dX11_ask_149 : decode cX11_ask 149 = .ok (.aload_n 0, 1) := by decide +kernel
theorem dX11_ask_150 : decode cX11_ask 150 = .ok (.getfield 452, 3) := by decide +kernel
theorem dX11_ask_153 : decode cX11_ask 153 = .ok (.putfield 452, 3) := by decide +kernel
theorem dX11_ask_156 : decode cX11_ask 156 = .ok (.aload_n 0, 1) := by decide +kernel
theorem dX11_ask_157 : decode cX11_ask 157 = .ok (.getfield 107, 3) := by decide +kernel
theorem dX11_ask_160 : decode cX11_ask 160 = .ok (.iload 6, 2) := by decide +kernel
theorem dX11_ask_162 : decode cX11_ask 162 = .ok (.iaload, 1) := by decide +kernel
theorem dX11_ask_163 : decode cX11_ask 163 = .ok (.iload_n 2, 1) := by decide +kernel
theorem dX11_ask_164 : decode cX11_ask 164 = .ok (.if_icmp .ne 25, 3) := by decide +kernel
theorem dX11_ask_167 : decode cX11_ask 167 = .ok (.aload_n 0, 1) := by decide +kernel
theorem dX11_ask_168 : decode cX11_ask 168 = .ok (.iload 7, 2) := by decide +kernel
theorem dX11_ask_170 : decode cX11_ask 170 = .ok (.aload_n 0, 1) := by decide +kernel
theorem dX11_ask_171 : decode cX11_ask 171 = .ok (.getfield 446, 3) := by decide +kernel
theorem dX11_ask_174 : decode cX11_ask 174 = .ok (.if_icmp .ge 8, 3) := by decide +kernel
theorem dX11_ask_177 : decode cX11_ask 177 = .ok (.iload 7, 2) := by decide +kernel
theorem dX11_ask_179 : decode cX11_ask 179 = .ok (.goto 7, 3) := by decide +kernel
theorem dX11_ask_182 : decode cX11_ask 182 = .ok (.aload_n 0, 1) := by decide +kernel
theorem dX11_ask_183 : decode cX11_ask 183 = .ok (.getfield 446, 3) := by decide +kernel
theorem dX11_ask_186 : decode cX11_ask 186 = .ok (.putfield 446, 3) := by decide +kernel
theorem dX11_ask_189 : decode cX11_ask 189 = .ok (.iload 7, 2) := by decide +kernel
theorem dX11_ask_191 : decode cX11_ask 191 = .ok (.bipush 7, 2) := by decide +kernel
theorem dX11_ask_193 : decode cX11_ask 193 = .ok (.if_icmp .gt 24, 3) := by decide +kernel
theorem dX11_ask_196 : decode cX11_ask 196 = .ok (.aload_n 0, 1) := by decide +kernel
theorem dX11_ask_197 : decode cX11_ask 197 = .ok (.dup, 1) := by decide +kernel
theorem dX11_ask_198 : decode cX11_ask 198 = .ok (.getfield 449, 3) := by decide +kernel
theorem dX11_ask_201 : decode cX11_ask 201 = .ok (.aload_n 0, 1) := by decide +kernel
theorem dX11_ask_202 : decode cX11_ask 202 = .ok (.aload_n 0, 1) := by decide +kernel
theorem dX11_ask_203 : decode cX11_ask 203 = .ok (.getfield 107, 3) := by decide +kernel
theorem dX11_ask_206 : decode cX11_ask 206 = .ok (.iload 6, 2) := by decide +kernel
theorem dX11_ask_208 : decode cX11_ask 208 = .ok (.iaload, 1) := by decide +kernel
theorem dX11_ask_209 : decode cX11_ask 209 = .ok (.iconst 0, 1) := by decide +kernel
theorem dX11_ask_210 : decode cX11_ask 210 = .ok (.invokevirtual 362, 3) := by decide +kernel
theorem dX11_ask_213 : decode cX11_ask 213 = .ok (.iadd, 1) := by decide +kernel
theorem dX11_ask_214 : decode cX11_ask 214 = .ok (.putfield 449, 3) := by decide +kernel
theorem dX11_ask_217 : decode cX11_ask 217 = .ok (.iinc 6 1, 3) := by decide +kernel
theorem dX11_ask_220 : decode cX11_ask 220 = .ok (.goto (-173), 3) := by decide +kernel
theorem dX11_ask_223 : decode cX11_ask 223 = .ok (.aload_n 0, 1) := by decide +kernel
theorem dX11_ask_224 : decode cX11_ask 224 = .ok (.iload 5, 2) := by decide +kernel
theorem dX11_ask_226 : decode cX11_ask 226 = .ok (.ifCond .ge 9, 3) := by decide +kernel
theorem dX11_ask_229 : decode cX11_ask 229 = .ok (.sipush 999, 3) := by decide +kernel
theorem dX11_ask_232 : decode cX11_ask 232 = .ok (.goto 5, 3) := by decide +kernel
theorem dX11_ask_235 : decode cX11_ask 235 = .ok (.iload 5, 2) := by decide +kernel
theorem dX11_ask_237 : decode cX11_ask 237 = .ok (.putfield 443, 3) := by decide +kernel
theorem dX11_ask_240 : decode cX11_ask 240 = .ok (.return_, 1) := by decide +kernel
theorem dX11_knowsIt_0 : decode cX11_knowsIt 0 = .ok (.iconst 0, 1) := by decide +kernel
theorem dX11_knowsIt_1 : decode cX11_knowsIt 1 = .ok (.istore 5, 2) := by decide +kernel
theorem dX11_knowsIt_3 : decode cX11_knowsIt 3 = .ok (.iload 5, 2) := by decide +kernel
theorem dX11_knowsIt_5 : decode cX11_knowsIt 5 = .ok (.aload_n 0, 1) := by decide +kernel
theorem dX11_knowsIt_6 : decode cX11_knowsIt 6 = .ok (.getfield 275, 3) := by decide +kernel
theorem dX11_knowsIt_9 : decode cX11_knowsIt 9 = .ok (.if_icmp .ge 46, 3) := by decide +kernel
theorem dX11_knowsIt_12 : decode cX11_knowsIt 12 = .ok (.aload_n 0, 1) := by decide +kernel
theorem dX11_knowsIt_13 : decode cX11_knowsIt 13 = .ok (.iload 5, 2) := by decide +kernel
theorem dX11_knowsIt_15 : decode cX11_knowsIt 15 = .ok (.iconst 0, 1) := by decide +kernel
theorem dX11_knowsIt_16 : decode cX11_knowsIt 16 = .ok (.iload_n 1, 1) := by decide +kernel
theorem dX11_knowsIt_17 : decode cX11_knowsIt 17 = .ok (.iload 4, 2) := by decide +kernel
theorem dX11_knowsIt_19 : decode cX11_knowsIt 19 = .ok (.invokevirtual 430, 3) := by decide +kernel
theorem dX11_knowsIt_22 : decode cX11_knowsIt 22 = .ok (.ifCond .eq 27, 3) := by decide +kernel
theorem dX11_knowsIt_25 : decode cX11_knowsIt 25 = .ok (.aload_n 0, 1) := by decide +kernel
theorem dX11_knowsIt_26 : decode cX11_knowsIt 26 = .ok (.getfield 107, 3) := by decide +kernel
theorem dX11_knowsIt_29 : decode cX11_knowsIt 29 = .ok (.iload 5, 2) := by decide +kernel
theorem dX11_knowsIt_31 : decode cX11_knowsIt 31 = .ok (.iaload, 1) := by decide +kernel
theorem dX11_knowsIt_32 : decode cX11_knowsIt 32 = .ok (.iload_n 2, 1) := by decide +kernel
theorem dX11_knowsIt_33 : decode cX11_knowsIt 33 = .ok (.if_icmp .ne 16, 3) := by decide +kernel
theorem dX11_knowsIt_36 : decode cX11_knowsIt 36 = .ok (.aload_n 0, 1) := by decide +kernel
theorem dX11_knowsIt_37 : decode cX11_knowsIt 37 = .ok (.getfield 110, 3) := by decide +kernel
theorem dX11_knowsIt_40 : decode cX11_knowsIt 40 = .ok (.iload 5, 2) := by decide +kernel
theorem dX11_knowsIt_42 : decode cX11_knowsIt 42 = .ok (.iaload, 1) := by decide +kernel
theorem dX11_knowsIt_43 : decode cX11_knowsIt 43 = .ok (.iload_n 3, 1) := by decide +kernel
theorem dX11_knowsIt_44 : decode cX11_knowsIt 44 = .ok (.if_icmp .gt 5, 3) := by decide +kernel
theorem dX11_knowsIt_47 : decode cX11_knowsIt 47 = .ok (.iconst 1, 1) := by decide +kernel
theorem dX11_knowsIt_48 : decode cX11_knowsIt 48 = .ok (.ireturn, 1) := by decide +kernel
theorem dX11_knowsIt_49 : decode cX11_knowsIt 49 = .ok (.iinc 5 1, 3) := by decide +kernel
theorem dX11_knowsIt_52 : decode cX11_knowsIt 52 = .ok (.goto (-49), 3) := by decide +kernel
theorem dX11_knowsIt_55 : decode cX11_knowsIt 55 = .ok (.iconst 0, 1) := by decide +kernel
theorem dX11_knowsIt_56 : decode cX11_knowsIt 56 = .ok (.ireturn, 1) := by decide +kernel
theorem dX11_isOut_0 : decode cX11_isOut 0 = .ok (.iconst 0, 1) := by decide +kernel
theorem dX11_isOut_1 : decode cX11_isOut 1 = .ok (.istore 4, 2) := by decide +kernel
theorem dX11_isOut_3 : decode cX11_isOut 3 = .ok (.iload 4, 2) := by decide +kernel
theorem dX11_isOut_5 : decode cX11_isOut 5 = .ok (.aload_n 0, 1) := by decide +kernel
theorem dX11_isOut_6 : decode cX11_isOut 6 = .ok (.getfield 275, 3) := by decide +kernel
theorem dX11_isOut_9 : decode cX11_isOut 9 = .ok (.if_icmp .ge 45, 3) := by decide +kernel
theorem dX11_isOut_12 : decode cX11_isOut 12 = .ok (.aload_n 0, 1) := by decide +kernel
theorem dX11_isOut_13 : decode cX11_isOut 13 = .ok (.iload 4, 2) := by decide +kernel
theorem dX11_isOut_15 : decode cX11_isOut 15 = .ok (.iconst 2, 1) := by decide +kernel
theorem dX11_isOut_16 : decode cX11_isOut 16 = .ok (.iload_n 1, 1) := by decide +kernel
theorem dX11_isOut_17 : decode cX11_isOut 17 = .ok (.iload_n 3, 1) := by decide +kernel
theorem dX11_isOut_18 : decode cX11_isOut 18 = .ok (.invokevirtual 430, 3) := by decide +kernel
theorem dX11_isOut_21 : decode cX11_isOut 21 = .ok (.ifCond .eq 27, 3) := by decide +kernel
theorem dX11_isOut_24 : decode cX11_isOut 24 = .ok (.aload_n 0, 1) := by decide +kernel
theorem dX11_isOut_25 : decode cX11_isOut 25 = .ok (.getfield 107, 3) := by decide +kernel
theorem dX11_isOut_28 : decode cX11_isOut 28 = .ok (.iload 4, 2) := by decide +kernel
theorem dX11_isOut_30 : decode cX11_isOut 30 = .ok (.iaload, 1) := by decide +kernel
theorem dX11_isOut_31 : decode cX11_isOut 31 = .ok (.iload_n 2, 1) := by decide +kernel
theorem dX11_isOut_32 : decode cX11_isOut 32 = .ok (.if_icmp .gt 16, 3) := by decide +kernel
theorem dX11_isOut_35 : decode cX11_isOut 35 = .ok (.aload_n 0, 1) := by decide +kernel
theorem dX11_isOut_36 : decode cX11_isOut 36 = .ok (.getfield 110, 3) := by decide +kernel
theorem dX11_isOut_39 : decode cX11_isOut 39 = .ok (.iload 4, 2) := by decide +kernel
theorem dX11_isOut_41 : decode cX11_isOut 41 = .ok (.iaload, 1) := by decide +kernel
theorem dX11_isOut_42 : decode cX11_isOut 42 = .ok (.iload_n 2, 1) := by decide +kernel
theorem dX11_isOut_43 : decode cX11_isOut 43 = .ok (.if_icmp .lt 5, 3) := by decide +kernel
theorem dX11_isOut_46 : decode cX11_isOut 46 = .ok (.iconst 1, 1) := by decide +kernel
theorem dX11_isOut_47 : decode cX11_isOut 47 = .ok (.ireturn, 1) := by decide +kernel
theorem dX11_isOut_48 : decode cX11_isOut 48 = .ok (.iinc 4 1, 3) := by decide +kernel
theorem dX11_isOut_51 : decode cX11_isOut 51 = .ok (.goto (-48), 3) := by decide +kernel
theorem dX11_isOut_54 : decode cX11_isOut 54 = .ok (.iconst 0, 1) := by decide +kernel
theorem dX11_isOut_55 : decode cX11_isOut 55 = .ok (.ireturn, 1) := by decide +kernel
theorem dX11_isGone_0 : decode cX11_isGone 0 = .ok (.iconst 0, 1) := by decide +kernel
theorem dX11_isGone_1 : decode cX11_isGone 1 = .ok (.istore 4, 2) := by decide +kernel
theorem dX11_isGone_3 : decode cX11_isGone 3 = .ok (.iload 4, 2) := by decide +kernel
theorem dX11_isGone_5 : decode cX11_isGone 5 = .ok (.aload_n 0, 1) := by decide +kernel
theorem dX11_isGone_6 : decode cX11_isGone 6 = .ok (.getfield 275, 3) := by decide +kernel
theorem dX11_isGone_9 : decode cX11_isGone 9 = .ok (.if_icmp .ge 34, 3) := by decide +kernel
theorem dX11_isGone_12 : decode cX11_isGone 12 = .ok (.aload_n 0, 1) := by decide +kernel
theorem dX11_isGone_13 : decode cX11_isGone 13 = .ok (.iload 4, 2) := by decide +kernel
theorem dX11_isGone_15 : decode cX11_isGone 15 = .ok (.iconst 3, 1) := by decide +kernel
theorem dX11_isGone_16 : decode cX11_isGone 16 = .ok (.iload_n 1, 1) := by decide +kernel
theorem dX11_isGone_17 : decode cX11_isGone 17 = .ok (.iload_n 3, 1) := by decide +kernel
theorem dX11_isGone_18 : decode cX11_isGone 18 = .ok (.invokevirtual 430, 3) := by decide +kernel
theorem dX11_isGone_21 : decode cX11_isGone 21 = .ok (.ifCond .eq 16, 3) := by decide +kernel
theorem dX11_isGone_24 : decode cX11_isGone 24 = .ok (.aload_n 0, 1) := by decide +kernel
theorem dX11_isGone_25 : decode cX11_isGone 25 = .ok (.getfield 107, 3) := by decide +kernel
theorem dX11_isGone_28 : decode cX11_isGone 28 = .ok (.iload 4, 2) := by decide +kernel
theorem dX11_isGone_30 : decode cX11_isGone 30 = .ok (.iaload, 1) := by decide +kernel
theorem dX11_isGone_31 : decode cX11_isGone 31 = .ok (.iload_n 2, 1) := by decide +kernel
theorem dX11_isGone_32 : decode cX11_isGone 32 = .ok (.if_icmp .gt 5, 3) := by decide +kernel
theorem dX11_isGone_35 : decode cX11_isGone 35 = .ok (.iconst 1, 1) := by decide +kernel
theorem dX11_isGone_36 : decode cX11_isGone 36 = .ok (.ireturn, 1) := by decide +kernel
theorem dX11_isGone_37 : decode cX11_isGone 37 = .ok (.iinc 4 1, 3) := by decide +kernel
theorem dX11_isGone_40 : decode cX11_isGone 40 = .ok (.goto (-37), 3) := by decide +kernel
theorem dX11_isGone_43 : decode cX11_isGone 43 = .ok (.iconst 0, 1) := by decide +kernel
theorem dX11_isGone_44 : decode cX11_isGone 44 = .ok (.ireturn, 1) := by decide +kernel
theorem dX11_asked_0 : decode cX11_asked 0 = .ok (.aload_n 0, 1) := by decide +kernel
theorem dX11_asked_1 : decode cX11_asked 1 = .ok (.iload_n 1, 1) := by decide +kernel
theorem dX11_asked_2 : decode cX11_asked 2 = .ok (.invokevirtual 422, 3) := by decide +kernel
theorem dX11_asked_5 : decode cX11_asked 5 = .ok (.ifCond .eq 18, 3) := by decide +kernel
theorem dX11_asked_8 : decode cX11_asked 8 = .ok (.aload_n 0, 1) := by decide +kernel
theorem dX11_asked_9 : decode cX11_asked 9 = .ok (.iload_n 2, 1) := by decide +kernel
theorem dX11_asked_10 : decode cX11_asked 10 = .ok (.invokevirtual 333, 3) := by decide +kernel
theorem dX11_asked_13 : decode cX11_asked 13 = .ok (.ifCond .eq 10, 3) := by decide +kernel
theorem dX11_asked_16 : decode cX11_asked 16 = .ok (.iload_n 3, 1) := by decide +kernel
theorem dX11_asked_17 : decode cX11_asked 17 = .ok (.invokestatic 371, 3) := by decide +kernel
theorem dX11_asked_20 : decode cX11_asked 20 = .ok (.ifCond .ne 5, 3) := by decide +kernel
theorem dX11_asked_23 : decode cX11_asked 23 = .ok (.iconst (-1), 1) := by decide +kernel
theorem dX11_asked_24 : decode cX11_asked 24 = .ok (.ireturn, 1) := by decide +kernel
theorem dX11_asked_25 : decode cX11_asked 25 = .ok (.aload_n 0, 1) := by decide +kernel
theorem dX11_asked_26 : decode cX11_asked 26 = .ok (.iload_n 1, 1) := by decide +kernel
theorem dX11_asked_27 : decode cX11_asked 27 = .ok (.iload_n 2, 1) := by decide +kernel
theorem dX11_asked_28 : decode cX11_asked 28 = .ok (.iload_n 3, 1) := by decide +kernel
theorem dX11_asked_29 : decode cX11_asked 29 = .ok (.iload 5, 2) := by decide +kernel
theorem dX11_asked_31 : decode cX11_asked 31 = .ok (.invokevirtual 455, 3) := by decide +kernel
theorem dX11_asked_34 : decode cX11_asked 34 = .ok (.iload 4, 2) := by decide +kernel
theorem dX11_asked_36 : decode cX11_asked 36 = .ok (.ifCond .ne 10, 3) := by decide +kernel
theorem dX11_asked_39 : decode cX11_asked 39 = .ok (.aload_n 0, 1) := by decide +kernel
theorem dX11_asked_40 : decode cX11_asked 40 = .ok (.getfield 443, 3) := by decide +kernel
theorem dX11_asked_43 : decode cX11_asked 43 = .ok (.goto 43, 3) := by decide +kernel
theorem dX11_asked_46 : decode cX11_asked 46 = .ok (.iload 4, 2) := by decide +kernel
theorem dX11_asked_48 : decode cX11_asked 48 = .ok (.iconst 1, 1) := by decide +kernel
theorem dX11_asked_49 : decode cX11_asked 49 = .ok (.if_icmp .ne 10, 3) := by decide +kernel
theorem dX11_asked_52 : decode cX11_asked 52 = .ok (.aload_n 0, 1) := by decide +kernel
theorem dX11_asked_53 : decode cX11_asked 53 = .ok (.getfield 446, 3) := by decide +kernel
theorem dX11_asked_56 : decode cX11_asked 56 = .ok (.goto 30, 3) := by decide +kernel
theorem dX11_asked_59 : decode cX11_asked 59 = .ok (.iload 4, 2) := by decide +kernel
theorem dX11_asked_61 : decode cX11_asked 61 = .ok (.iconst 2, 1) := by decide +kernel
theorem dX11_asked_62 : decode cX11_asked 62 = .ok (.if_icmp .ne 10, 3) := by decide +kernel
theorem dX11_asked_65 : decode cX11_asked 65 = .ok (.aload_n 0, 1) := by decide +kernel
theorem dX11_asked_66 : decode cX11_asked 66 = .ok (.getfield 449, 3) := by decide +kernel
theorem dX11_asked_69 : decode cX11_asked 69 = .ok (.goto 17, 3) := by decide +kernel
theorem dX11_asked_72 : decode cX11_asked 72 = .ok (.iload 4, 2) := by decide +kernel
theorem dX11_asked_74 : decode cX11_asked 74 = .ok (.iconst 3, 1) := by decide +kernel
theorem dX11_asked_75 : decode cX11_asked 75 = .ok (.if_icmp .ne 10, 3) := by decide +kernel
theorem dX11_asked_78 : decode cX11_asked 78 = .ok (.aload_n 0, 1) := by decide +kernel
theorem dX11_asked_79 : decode cX11_asked 79 = .ok (.getfield 452, 3) := by decide +kernel
theorem dX11_asked_82 : decode cX11_asked 82 = .ok (.goto 4, 3) := by decide +kernel
theorem dX11_asked_85 : decode cX11_asked 85 = .ok (.iconst (-1), 1) := by decide +kernel
theorem dX11_asked_86 : decode cX11_asked 86 = .ok (.ireturn, 1) := by decide +kernel
theorem dX11_term_0 : decode cX11_term 0 = .ok (.iload_n 1, 1) := by decide +kernel
theorem dX11_term_1 : decode cX11_term 1 = .ok (.tableswitch 136 97 112 #[121, 81, 136, 131, 136, 136, 136, 111, 106, 136, 91, 96, 136, 79, 101, 86], 79) := by decide +kernel
theorem dX11_term_80 : decode cX11_term 80 = .ok (.iload_n 2, 1) := by decide +kernel
theorem dX11_term_81 : decode cX11_term 81 = .ok (.ireturn, 1) := by decide +kernel
theorem dX11_term_82 : decode cX11_term 82 = .ok (.aload_n 0, 1) := by decide +kernel
theorem dX11_term_83 : decode cX11_term 83 = .ok (.getfield 434, 3) := by decide +kernel
theorem dX11_term_86 : decode cX11_term 86 = .ok (.ireturn, 1) := by decide +kernel
theorem dX11_term_87 : decode cX11_term 87 = .ok (.aload_n 0, 1) := by decide +kernel
theorem dX11_term_88 : decode cX11_term 88 = .ok (.getfield 437, 3) := by decide +kernel
theorem dX11_term_91 : decode cX11_term 91 = .ok (.ireturn, 1) := by decide +kernel
theorem dX11_term_92 : decode cX11_term 92 = .ok (.aload_n 0, 1) := by decide +kernel
theorem dX11_term_93 : decode cX11_term 93 = .ok (.getfield 443, 3) := by decide +kernel
theorem dX11_term_96 : decode cX11_term 96 = .ok (.ireturn, 1) := by decide +kernel
theorem dX11_term_97 : decode cX11_term 97 = .ok (.aload_n 0, 1) := by decide +kernel
theorem dX11_term_98 : decode cX11_term 98 = .ok (.getfield 446, 3) := by decide +kernel
theorem dX11_term_101 : decode cX11_term 101 = .ok (.ireturn, 1) := by decide +kernel
theorem dX11_term_102 : decode cX11_term 102 = .ok (.aload_n 0, 1) := by decide +kernel
theorem dX11_term_103 : decode cX11_term 103 = .ok (.getfield 449, 3) := by decide +kernel
theorem dX11_term_106 : decode cX11_term 106 = .ok (.ireturn, 1) := by decide +kernel
theorem dX11_term_107 : decode cX11_term 107 = .ok (.aload_n 0, 1) := by decide +kernel
theorem dX11_term_108 : decode cX11_term 108 = .ok (.getfield 452, 3) := by decide +kernel
theorem dX11_term_111 : decode cX11_term 111 = .ok (.ireturn, 1) := by decide +kernel
theorem dX11_term_112 : decode cX11_term 112 = .ok (.aload_n 0, 1) := by decide +kernel
theorem dX11_term_113 : decode cX11_term 113 = .ok (.aload_n 0, 1) := by decide +kernel
theorem dX11_term_114 : decode cX11_term 114 = .ok (.getfield 437, 3) := by decide +kernel
theorem dX11_term_117 : decode cX11_term 117 = .ok (.iconst 0, 1) := by decide +kernel
theorem dX11_term_118 : decode cX11_term 118 = .ok (.invokevirtual 362, 3) := by decide +kernel
theorem dX11_term_121 : decode cX11_term 121 = .ok (.ireturn, 1) := by decide +kernel
theorem dX11_term_122 : decode cX11_term 122 = .ok (.aload_n 0, 1) := by decide +kernel
theorem dX11_term_123 : decode cX11_term 123 = .ok (.getfield 39, 3) := by decide +kernel
theorem dX11_term_126 : decode cX11_term 126 = .ok (.aload_n 0, 1) := by decide +kernel
theorem dX11_term_127 : decode cX11_term 127 = .ok (.getfield 266, 3) := by decide +kernel
theorem dX11_term_130 : decode cX11_term 130 = .ok (.iaload, 1) := by decide +kernel
theorem dX11_term_131 : decode cX11_term 131 = .ok (.ireturn, 1) := by decide +kernel
theorem dX11_term_132 : decode cX11_term 132 = .ok (.aload_n 0, 1) := by decide +kernel
theorem dX11_term_133 : decode cX11_term 133 = .ok (.getfield 440, 3) := by decide +kernel
theorem dX11_term_136 : decode cX11_term 136 = .ok (.ireturn, 1) := by decide +kernel
theorem dX11_term_137 : decode cX11_term 137 = .ok (.aload_n 0, 1) := by decide +kernel
theorem dX11_term_138 : decode cX11_term 138 = .ok (.aload_n 0, 1) := by decide +kernel
theorem dX11_term_139 : decode cX11_term 139 = .ok (.getfield 437, 3) := by decide +kernel
theorem dX11_term_142 : decode cX11_term 142 = .ok (.invokevirtual 339, 3) := by decide +kernel
theorem dX11_term_145 : decode cX11_term 145 = .ok (.ireturn, 1) := by decide +kernel
theorem dX11_two_0 : decode cX11_two 0 = .ok (.iload_n 0, 1) := by decide +kernel
theorem dX11_two_1 : decode cX11_two 1 = .ok (.tableswitch 174 38 62 #[160, 174, 174, 174, 123, 115, 174, 119, 174, 174, 174, 174, 174, 174, 174, 174, 174, 174, 174, 174, 174, 174, 127, 149, 138], 115) := by decide +kernel
theorem dX11_two_116 : decode cX11_two 116 = .ok (.iload_n 1, 1) := by decide +kernel
theorem dX11_two_117 : decode cX11_two 117 = .ok (.iload_n 2, 1) := by decide +kernel
theorem dX11_two_118 : decode cX11_two 118 = .ok (.iadd, 1) := by decide +kernel
theorem dX11_two_119 : decode cX11_two 119 = .ok (.ireturn, 1) := by decide +kernel
theorem dX11_two_120 : decode cX11_two 120 = .ok (.iload_n 1, 1) := by decide +kernel
theorem dX11_two_121 : decode cX11_two 121 = .ok (.iload_n 2, 1) := by decide +kernel
theorem dX11_two_122 : decode cX11_two 122 = .ok (.isub, 1) := by decide +kernel
theorem dX11_two_123 : decode cX11_two 123 = .ok (.ireturn, 1) := by decide +kernel
theorem dX11_two_124 : decode cX11_two 124 = .ok (.iload_n 1, 1) := by decide +kernel
theorem dX11_two_125 : decode cX11_two 125 = .ok (.iload_n 2, 1) := by decide +kernel
theorem dX11_two_126 : decode cX11_two 126 = .ok (.imul, 1) := by decide +kernel
theorem dX11_two_127 : decode cX11_two 127 = .ok (.ireturn, 1) := by decide +kernel
theorem dX11_two_128 : decode cX11_two 128 = .ok (.iload_n 1, 1) := by decide +kernel
theorem dX11_two_129 : decode cX11_two 129 = .ok (.iload_n 2, 1) := by decide +kernel
theorem dX11_two_130 : decode cX11_two 130 = .ok (.if_icmp .ge 7, 3) := by decide +kernel
theorem dX11_two_133 : decode cX11_two 133 = .ok (.iconst 1, 1) := by decide +kernel
theorem dX11_two_134 : decode cX11_two 134 = .ok (.goto 4, 3) := by decide +kernel
theorem dX11_two_137 : decode cX11_two 137 = .ok (.iconst 0, 1) := by decide +kernel
theorem dX11_two_138 : decode cX11_two 138 = .ok (.ireturn, 1) := by decide +kernel
theorem dX11_two_139 : decode cX11_two 139 = .ok (.iload_n 1, 1) := by decide +kernel
theorem dX11_two_140 : decode cX11_two 140 = .ok (.iload_n 2, 1) := by decide +kernel
theorem dX11_two_141 : decode cX11_two 141 = .ok (.if_icmp .le 7, 3) := by decide +kernel
theorem dX11_two_144 : decode cX11_two 144 = .ok (.iconst 1, 1) := by decide +kernel
theorem dX11_two_145 : decode cX11_two 145 = .ok (.goto 4, 3) := by decide +kernel
theorem dX11_two_148 : decode cX11_two 148 = .ok (.iconst 0, 1) := by decide +kernel
theorem dX11_two_149 : decode cX11_two 149 = .ok (.ireturn, 1) := by decide +kernel
theorem dX11_two_150 : decode cX11_two 150 = .ok (.iload_n 1, 1) := by decide +kernel
theorem dX11_two_151 : decode cX11_two 151 = .ok (.iload_n 2, 1) := by decide +kernel
theorem dX11_two_152 : decode cX11_two 152 = .ok (.if_icmp .ne 7, 3) := by decide +kernel
theorem dX11_two_155 : decode cX11_two 155 = .ok (.iconst 1, 1) := by decide +kernel
theorem dX11_two_156 : decode cX11_two 156 = .ok (.goto 4, 3) := by decide +kernel
theorem dX11_two_159 : decode cX11_two 159 = .ok (.iconst 0, 1) := by decide +kernel
theorem dX11_two_160 : decode cX11_two 160 = .ok (.ireturn, 1) := by decide +kernel
theorem dX11_two_161 : decode cX11_two 161 = .ok (.iload_n 1, 1) := by decide +kernel
theorem dX11_two_162 : decode cX11_two 162 = .ok (.ifCond .eq 11, 3) := by decide +kernel
theorem dX11_two_165 : decode cX11_two 165 = .ok (.iload_n 2, 1) := by decide +kernel
theorem dX11_two_166 : decode cX11_two 166 = .ok (.ifCond .eq 7, 3) := by decide +kernel
theorem dX11_two_169 : decode cX11_two 169 = .ok (.iconst 1, 1) := by decide +kernel
theorem dX11_two_170 : decode cX11_two 170 = .ok (.goto 4, 3) := by decide +kernel
theorem dX11_two_173 : decode cX11_two 173 = .ok (.iconst 0, 1) := by decide +kernel
theorem dX11_two_174 : decode cX11_two 174 = .ok (.ireturn, 1) := by decide +kernel
theorem dX11_two_175 : decode cX11_two 175 = .ok (.iload_n 1, 1) := by decide +kernel
theorem dX11_two_176 : decode cX11_two 176 = .ok (.ifCond .ne 7, 3) := by decide +kernel
theorem dX11_two_179 : decode cX11_two 179 = .ok (.iload_n 2, 1) := by decide +kernel
theorem dX11_two_180 : decode cX11_two 180 = .ok (.ifCond .eq 7, 3) := by decide +kernel
theorem dX11_two_183 : decode cX11_two 183 = .ok (.iconst 1, 1) := by decide +kernel
theorem dX11_two_184 : decode cX11_two 184 = .ok (.goto 4, 3) := by decide +kernel
theorem dX11_two_187 : decode cX11_two 187 = .ok (.iconst 0, 1) := by decide +kernel
theorem dX11_two_188 : decode cX11_two 188 = .ok (.ireturn, 1) := by decide +kernel
theorem dX11_work_0 : decode cX11_work 0 = .ok (.aload_n 0, 1) := by decide +kernel
theorem dX11_work_1 : decode cX11_work 1 = .ok (.aload_n 0, 1) := by decide +kernel
theorem dX11_work_2 : decode cX11_work 2 = .ok (.getfield 440, 3) := by decide +kernel
theorem dX11_work_5 : decode cX11_work 5 = .ok (.invokevirtual 459, 3) := by decide +kernel
theorem dX11_work_8 : decode cX11_work 8 = .ok (.istore_n 3, 1) := by decide +kernel
theorem dX11_work_9 : decode cX11_work 9 = .ok (.iload_n 3, 1) := by decide +kernel
theorem dX11_work_10 : decode cX11_work 10 = .ok (.ifCond .lt 16, 3) := by decide +kernel
theorem dX11_work_13 : decode cX11_work 13 = .ok (.aload_n 0, 1) := by decide +kernel
theorem dX11_work_14 : decode cX11_work 14 = .ok (.getfield 98, 3) := by decide +kernel
theorem dX11_work_17 : decode cX11_work 17 = .ok (.iconst 3, 1) := by decide +kernel
theorem dX11_work_18 : decode cX11_work 18 = .ok (.iload_n 3, 1) := by decide +kernel
theorem dX11_work_19 : decode cX11_work 19 = .ok (.imul, 1) := by decide +kernel
theorem dX11_work_20 : decode cX11_work 20 = .ok (.iload_n 1, 1) := by decide +kernel
theorem dX11_work_21 : decode cX11_work 21 = .ok (.iadd, 1) := by decide +kernel
theorem dX11_work_22 : decode cX11_work 22 = .ok (.baload, 1) := by decide +kernel
theorem dX11_work_23 : decode cX11_work 23 = .ok (.ifCond .ne 5, 3) := by decide +kernel
theorem dX11_work_26 : decode cX11_work 26 = .ok (.iload_n 2, 1) := by decide +kernel
theorem dX11_work_27 : decode cX11_work 27 = .ok (.ireturn, 1) := by decide +kernel
theorem dX11_work_28 : decode cX11_work 28 = .ok (.iconst 0, 1) := by decide +kernel
theorem dX11_work_29 : decode cX11_work 29 = .ok (.istore 4, 2) := by decide +kernel
theorem dX11_work_31 : decode cX11_work 31 = .ok (.sipush 600, 3) := by decide +kernel
theorem dX11_work_34 : decode cX11_work 34 = .ok (.iload_n 3, 1) := by decide +kernel
theorem dX11_work_35 : decode cX11_work 35 = .ok (.imul, 1) := by decide +kernel
theorem dX11_work_36 : decode cX11_work 36 = .ok (.aload_n 0, 1) := by decide +kernel
theorem dX11_work_37 : decode cX11_work 37 = .ok (.getfield 77, 3) := by decide +kernel
theorem dX11_work_40 : decode cX11_work 40 = .ok (.iconst 3, 1) := by decide +kernel
theorem dX11_work_41 : decode cX11_work 41 = .ok (.iload_n 3, 1) := by decide +kernel
theorem dX11_work_42 : decode cX11_work 42 = .ok (.imul, 1) := by decide +kernel
theorem dX11_work_43 : decode cX11_work 43 = .ok (.iload_n 1, 1) := by decide +kernel
theorem dX11_work_44 : decode cX11_work 44 = .ok (.iadd, 1) := by decide +kernel
theorem dX11_work_45 : decode cX11_work 45 = .ok (.iaload, 1) := by decide +kernel
theorem dX11_work_46 : decode cX11_work 46 = .ok (.iadd, 1) := by decide +kernel
theorem dX11_work_47 : decode cX11_work 47 = .ok (.istore 5, 2) := by decide +kernel
theorem dX11_work_49 : decode cX11_work 49 = .ok (.iload 5, 2) := by decide +kernel
theorem dX11_work_51 : decode cX11_work 51 = .ok (.sipush 600, 3) := by decide +kernel
theorem dX11_work_54 : decode cX11_work 54 = .ok (.iload_n 3, 1) := by decide +kernel
theorem dX11_work_55 : decode cX11_work 55 = .ok (.imul, 1) := by decide +kernel
theorem dX11_work_56 : decode cX11_work 56 = .ok (.aload_n 0, 1) := by decide +kernel
theorem dX11_work_57 : decode cX11_work 57 = .ok (.getfield 80, 3) := by decide +kernel
theorem dX11_work_60 : decode cX11_work 60 = .ok (.iconst 3, 1) := by decide +kernel
theorem dX11_work_61 : decode cX11_work 61 = .ok (.iload_n 3, 1) := by decide +kernel
theorem dX11_work_62 : decode cX11_work 62 = .ok (.imul, 1) := by decide +kernel
theorem dX11_work_63 : decode cX11_work 63 = .ok (.iload_n 1, 1) := by decide +kernel
theorem dX11_work_64 : decode cX11_work 64 = .ok (.iadd, 1) := by decide +kernel
theorem dX11_work_65 : decode cX11_work 65 = .ok (.iaload, 1) := by decide +kernel
theorem dX11_work_66 : decode cX11_work 66 = .ok (.iadd, 1) := by decide +kernel
theorem dX11_work_67 : decode cX11_work 67 = .ok (.if_icmp .ge 121, 3) := by decide +kernel
theorem dX11_work_70 : decode cX11_work 70 = .ok (.aload_n 0, 1) := by decide +kernel
theorem dX11_work_71 : decode cX11_work 71 = .ok (.getfield 83, 3) := by decide +kernel
theorem dX11_work_74 : decode cX11_work 74 = .ok (.iload 5, 2) := by decide +kernel
theorem dX11_work_76 : decode cX11_work 76 = .ok (.iaload, 1) := by decide +kernel
theorem dX11_work_77 : decode cX11_work 77 = .ok (.istore 6, 2) := by decide +kernel
theorem dX11_work_79 : decode cX11_work 79 = .ok (.iload 6, 2) := by decide +kernel
theorem dX11_work_81 : decode cX11_work 81 = .ok (.bipush 126, 2) := by decide +kernel
theorem dX11_work_83 : decode cX11_work 83 = .ok (.if_icmp .ne 32, 3) := by decide +kernel
theorem dX11_work_86 : decode cX11_work 86 = .ok (.aload_n 0, 1) := by decide +kernel
theorem dX11_work_87 : decode cX11_work 87 = .ok (.getfield 95, 3) := by decide +kernel
theorem dX11_work_90 : decode cX11_work 90 = .ok (.iload 4, 2) := by decide +kernel
theorem dX11_work_92 : decode cX11_work 92 = .ok (.iconst 1, 1) := by decide +kernel
theorem dX11_work_93 : decode cX11_work 93 = .ok (.isub, 1) := by decide +kernel
theorem dX11_work_94 : decode cX11_work 94 = .ok (.aload_n 0, 1) := by decide +kernel
theorem dX11_work_95 : decode cX11_work 95 = .ok (.getfield 95, 3) := by decide +kernel
theorem dX11_work_98 : decode cX11_work 98 = .ok (.iload 4, 2) := by decide +kernel
theorem dX11_work_100 : decode cX11_work 100 = .ok (.iconst 1, 1) := by decide +kernel
theorem dX11_work_101 : decode cX11_work 101 = .ok (.isub, 1) := by decide +kernel
theorem dX11_work_102 : decode cX11_work 102 = .ok (.iaload, 1) := by decide +kernel
theorem dX11_work_103 : decode cX11_work 103 = .ok (.ifCond .ne 7, 3) := by decide +kernel
theorem dX11_work_106 : decode cX11_work 106 = .ok (.iconst 1, 1) := by decide +kernel
theorem dX11_work_107 : decode cX11_work 107 = .ok (.goto 4, 3) := by decide +kernel
theorem dX11_work_110 : decode cX11_work 110 = .ok (.iconst 0, 1) := by decide +kernel
theorem dX11_work_111 : decode cX11_work 111 = .ok (.iastore, 1) := by decide +kernel
theorem dX11_work_112 : decode cX11_work 112 = .ok (.goto 70, 3) := by decide +kernel
theorem dX11_work_115 : decode cX11_work 115 = .ok (.iload 6, 2) := by decide +kernel
theorem dX11_work_117 : decode cX11_work 117 = .ok (.invokestatic 225, 3) := by decide +kernel
theorem dX11_work_120 : decode cX11_work 120 = .ok (.ifCond .eq 29, 3) := by decide +kernel
theorem dX11_work_123 : decode cX11_work 123 = .ok (.aload_n 0, 1) := by decide +kernel
theorem dX11_work_124 : decode cX11_work 124 = .ok (.getfield 95, 3) := by decide +kernel
theorem dX11_work_127 : decode cX11_work 127 = .ok (.iload 4, 2) := by decide +kernel
theorem dX11_work_129 : decode cX11_work 129 = .ok (.aload_n 0, 1) := by decide +kernel
theorem dX11_work_130 : decode cX11_work 130 = .ok (.iload 6, 2) := by decide +kernel
theorem dX11_work_132 : decode cX11_work 132 = .ok (.aload_n 0, 1) := by decide +kernel
theorem dX11_work_133 : decode cX11_work 133 = .ok (.getfield 86, 3) := by decide +kernel
theorem dX11_work_136 : decode cX11_work 136 = .ok (.iload 5, 2) := by decide +kernel
theorem dX11_work_138 : decode cX11_work 138 = .ok (.iaload, 1) := by decide +kernel
theorem dX11_work_139 : decode cX11_work 139 = .ok (.invokevirtual 462, 3) := by decide +kernel
theorem dX11_work_142 : decode cX11_work 142 = .ok (.iastore, 1) := by decide +kernel
theorem dX11_work_143 : decode cX11_work 143 = .ok (.iinc 4 1, 3) := by decide +kernel
theorem dX11_work_146 : decode cX11_work 146 = .ok (.goto 36, 3) := by decide +kernel
theorem dX11_work_149 : decode cX11_work 149 = .ok (.iinc 4 (-1), 3) := by decide +kernel
theorem dX11_work_152 : decode cX11_work 152 = .ok (.aload_n 0, 1) := by decide +kernel
theorem dX11_work_153 : decode cX11_work 153 = .ok (.getfield 95, 3) := by decide +kernel
theorem dX11_work_156 : decode cX11_work 156 = .ok (.iload 4, 2) := by decide +kernel
theorem dX11_work_158 : decode cX11_work 158 = .ok (.iconst 1, 1) := by decide +kernel
theorem dX11_work_159 : decode cX11_work 159 = .ok (.isub, 1) := by decide +kernel
theorem dX11_work_160 : decode cX11_work 160 = .ok (.iload 6, 2) := by decide +kernel
theorem dX11_work_162 : decode cX11_work 162 = .ok (.aload_n 0, 1) := by decide +kernel
theorem dX11_work_163 : decode cX11_work 163 = .ok (.getfield 95, 3) := by decide +kernel
theorem dX11_work_166 : decode cX11_work 166 = .ok (.iload 4, 2) := by decide +kernel
theorem dX11_work_168 : decode cX11_work 168 = .ok (.iconst 1, 1) := by decide +kernel
theorem dX11_work_169 : decode cX11_work 169 = .ok (.isub, 1) := by decide +kernel
theorem dX11_work_170 : decode cX11_work 170 = .ok (.iaload, 1) := by decide +kernel
theorem dX11_work_171 : decode cX11_work 171 = .ok (.aload_n 0, 1) := by decide +kernel
theorem dX11_work_172 : decode cX11_work 172 = .ok (.getfield 95, 3) := by decide +kernel
theorem dX11_work_175 : decode cX11_work 175 = .ok (.iload 4, 2) := by decide +kernel
theorem dX11_work_177 : decode cX11_work 177 = .ok (.iaload, 1) := by decide +kernel
theorem dX11_work_178 : decode cX11_work 178 = .ok (.invokestatic 465, 3) := by decide +kernel
theorem dX11_work_181 : decode cX11_work 181 = .ok (.iastore, 1) := by decide +kernel
theorem dX11_work_182 : decode cX11_work 182 = .ok (.iinc 5 1, 3) := by decide +kernel
theorem dX11_work_185 : decode cX11_work 185 = .ok (.goto (-136), 3) := by decide +kernel
theorem dX11_work_188 : decode cX11_work 188 = .ok (.aload_n 0, 1) := by decide +kernel
theorem dX11_work_189 : decode cX11_work 189 = .ok (.getfield 95, 3) := by decide +kernel
theorem dX11_work_192 : decode cX11_work 192 = .ok (.iconst 0, 1) := by decide +kernel
theorem dX11_work_193 : decode cX11_work 193 = .ok (.iaload, 1) := by decide +kernel
theorem dX11_work_194 : decode cX11_work 194 = .ok (.ireturn, 1) := by decide +kernel
theorem dX11_canBe_0 : decode cX11_canBe 0 = .ok (.aload_n 0, 1) := by decide +kernel
theorem dX11_canBe_1 : decode cX11_canBe 1 = .ok (.iload_n 1, 1) := by decide +kernel
theorem dX11_canBe_2 : decode cX11_canBe 2 = .ok (.iload_n 2, 1) := by decide +kernel
theorem dX11_canBe_3 : decode cX11_canBe 3 = .ok (.iload_n 3, 1) := by decide +kernel
theorem dX11_canBe_4 : decode cX11_canBe 4 = .ok (.iload 4, 2) := by decide +kernel
theorem dX11_canBe_6 : decode cX11_canBe 6 = .ok (.invokevirtual 468, 3) := by decide +kernel
theorem dX11_canBe_9 : decode cX11_canBe 9 = .ok (.ifCond .eq 25, 3) := by decide +kernel
theorem dX11_canBe_12 : decode cX11_canBe 12 = .ok (.aload_n 0, 1) := by decide +kernel
theorem dX11_canBe_13 : decode cX11_canBe 13 = .ok (.iload_n 1, 1) := by decide +kernel
theorem dX11_canBe_14 : decode cX11_canBe 14 = .ok (.iload_n 3, 1) := by decide +kernel
theorem dX11_canBe_15 : decode cX11_canBe 15 = .ok (.iload 4, 2) := by decide +kernel
theorem dX11_canBe_17 : decode cX11_canBe 17 = .ok (.invokevirtual 471, 3) := by decide +kernel
theorem dX11_canBe_20 : decode cX11_canBe 20 = .ok (.ifCond .ne 14, 3) := by decide +kernel
theorem dX11_canBe_23 : decode cX11_canBe 23 = .ok (.aload_n 0, 1) := by decide +kernel
theorem dX11_canBe_24 : decode cX11_canBe 24 = .ok (.iload_n 1, 1) := by decide +kernel
theorem dX11_canBe_25 : decode cX11_canBe 25 = .ok (.iload_n 3, 1) := by decide +kernel
theorem dX11_canBe_26 : decode cX11_canBe 26 = .ok (.iload 4, 2) := by decide +kernel
theorem dX11_canBe_28 : decode cX11_canBe 28 = .ok (.invokevirtual 474, 3) := by decide +kernel
theorem dX11_canBe_31 : decode cX11_canBe 31 = .ok (.ifCond .eq 5, 3) := by decide +kernel
theorem dX11_canBe_34 : decode cX11_canBe 34 = .ok (.iconst 0, 1) := by decide +kernel
theorem dX11_canBe_35 : decode cX11_canBe 35 = .ok (.ireturn, 1) := by decide +kernel
theorem dX11_canBe_36 : decode cX11_canBe 36 = .ok (.aload_n 0, 1) := by decide +kernel
theorem dX11_canBe_37 : decode cX11_canBe 37 = .ok (.iload_n 1, 1) := by decide +kernel
theorem dX11_canBe_38 : decode cX11_canBe 38 = .ok (.iload_n 2, 1) := by decide +kernel
theorem dX11_canBe_39 : decode cX11_canBe 39 = .ok (.iload_n 3, 1) := by decide +kernel
theorem dX11_canBe_40 : decode cX11_canBe 40 = .ok (.iload 4, 2) := by decide +kernel
theorem dX11_canBe_42 : decode cX11_canBe 42 = .ok (.invokevirtual 455, 3) := by decide +kernel
theorem dX11_canBe_45 : decode cX11_canBe 45 = .ok (.aload_n 0, 1) := by decide +kernel
theorem dX11_canBe_46 : decode cX11_canBe 46 = .ok (.iconst 0, 1) := by decide +kernel
theorem dX11_canBe_47 : decode cX11_canBe 47 = .ok (.iconst 1, 1) := by decide +kernel
theorem dX11_canBe_48 : decode cX11_canBe 48 = .ok (.invokevirtual 477, 3) := by decide +kernel
theorem dX11_canBe_51 : decode cX11_canBe 51 = .ok (.ifCond .eq 7, 3) := by decide +kernel
theorem dX11_canBe_54 : decode cX11_canBe 54 = .ok (.iconst 1, 1) := by decide +kernel
theorem dX11_canBe_55 : decode cX11_canBe 55 = .ok (.goto 4, 3) := by decide +kernel
theorem dX11_canBe_58 : decode cX11_canBe 58 = .ok (.iconst 0, 1) := by decide +kernel
theorem dX11_canBe_59 : decode cX11_canBe 59 = .ok (.ireturn, 1) := by decide +kernel
theorem dX11_can_0 : decode cX11_can 0 = .ok (.aload_n 0, 1) := by decide +kernel
theorem dX11_can_1 : decode cX11_can 1 = .ok (.iload_n 1, 1) := by decide +kernel
theorem dX11_can_2 : decode cX11_can 2 = .ok (.invokevirtual 422, 3) := by decide +kernel
theorem dX11_can_5 : decode cX11_can 5 = .ok (.ifCond .eq 38, 3) := by decide +kernel
theorem dX11_can_8 : decode cX11_can 8 = .ok (.aload_n 0, 1) := by decide +kernel
theorem dX11_can_9 : decode cX11_can 9 = .ok (.iload_n 2, 1) := by decide +kernel
theorem dX11_can_10 : decode cX11_can 10 = .ok (.invokevirtual 333, 3) := by decide +kernel
theorem dX11_can_13 : decode cX11_can 13 = .ok (.ifCond .eq 30, 3) := by decide +kernel
theorem dX11_can_16 : decode cX11_can 16 = .ok (.iload_n 3, 1) := by decide +kernel
theorem dX11_can_17 : decode cX11_can 17 = .ok (.invokestatic 371, 3) := by decide +kernel
theorem dX11_can_20 : decode cX11_can 20 = .ok (.ifCond .eq 23, 3) := by decide +kernel
theorem dX11_can_23 : decode cX11_can 23 = .ok (.aload_n 0, 1) := by decide +kernel
theorem dX11_can_24 : decode cX11_can 24 = .ok (.iload_n 1, 1) := by decide +kernel
theorem dX11_can_25 : decode cX11_can 25 = .ok (.iload_n 2, 1) := by decide +kernel
theorem dX11_can_26 : decode cX11_can 26 = .ok (.iload_n 3, 1) := by decide +kernel
theorem dX11_can_27 : decode cX11_can 27 = .ok (.iload 4, 2) := by decide +kernel
theorem dX11_can_29 : decode cX11_can 29 = .ok (.invokevirtual 480, 3) := by decide +kernel
theorem dX11_can_32 : decode cX11_can 32 = .ok (.ifCond .eq 7, 3) := by decide +kernel
theorem dX11_can_35 : decode cX11_can 35 = .ok (.iconst 1, 1) := by decide +kernel
theorem dX11_can_36 : decode cX11_can 36 = .ok (.goto 8, 3) := by decide +kernel
theorem dX11_can_39 : decode cX11_can 39 = .ok (.iconst 0, 1) := by decide +kernel
theorem dX11_can_40 : decode cX11_can 40 = .ok (.goto 4, 3) := by decide +kernel
theorem dX11_can_43 : decode cX11_can 43 = .ok (.iconst (-1), 1) := by decide +kernel
theorem dX11_can_44 : decode cX11_can 44 = .ok (.ireturn, 1) := by decide +kernel
theorem dX11_weigh_0 : decode cX11_weigh 0 = .ok (.aload_n 0, 1) := by decide +kernel
theorem dX11_weigh_1 : decode cX11_weigh 1 = .ok (.iconst 0, 1) := by decide +kernel
theorem dX11_weigh_2 : decode cX11_weigh 2 = .ok (.putfield 483, 3) := by decide +kernel
theorem dX11_weigh_5 : decode cX11_weigh 5 = .ok (.iconst 0, 1) := by decide +kernel
theorem dX11_weigh_6 : decode cX11_weigh 6 = .ok (.istore 4, 2) := by decide +kernel
theorem dX11_weigh_8 : decode cX11_weigh 8 = .ok (.iload 4, 2) := by decide +kernel
theorem dX11_weigh_10 : decode cX11_weigh 10 = .ok (.aload_n 0, 1) := by decide +kernel
theorem dX11_weigh_11 : decode cX11_weigh 11 = .ok (.invokevirtual 319, 3) := by decide +kernel
theorem dX11_weigh_14 : decode cX11_weigh 14 = .ok (.if_icmp .ge 123, 3) := by decide +kernel
theorem dX11_weigh_17 : decode cX11_weigh 17 = .ok (.aload_n 0, 1) := by decide +kernel
theorem dX11_weigh_18 : decode cX11_weigh 18 = .ok (.iload 4, 2) := by decide +kernel
theorem dX11_weigh_20 : decode cX11_weigh 20 = .ok (.invokevirtual 336, 3) := by decide +kernel
theorem dX11_weigh_23 : decode cX11_weigh 23 = .ok (.iload_n 1, 1) := by decide +kernel
theorem dX11_weigh_24 : decode cX11_weigh 24 = .ok (.if_icmp .eq 6, 3) := by decide +kernel
theorem dX11_weigh_27 : decode cX11_weigh 27 = .ok (.goto 104, 3) := by decide +kernel
theorem dX11_weigh_30 : decode cX11_weigh 30 = .ok (.aload_n 0, 1) := by decide +kernel
theorem dX11_weigh_31 : decode cX11_weigh 31 = .ok (.getfield 131, 3) := by decide +kernel
theorem dX11_weigh_34 : decode cX11_weigh 34 = .ok (.aload_n 0, 1) := by decide +kernel
theorem dX11_weigh_35 : decode cX11_weigh 35 = .ok (.getfield 483, 3) := by decide +kernel
theorem dX11_weigh_38 : decode cX11_weigh 38 = .ok (.iload 4, 2) := by decide +kernel
theorem dX11_weigh_40 : decode cX11_weigh 40 = .ok (.iastore, 1) := by decide +kernel
theorem dX11_weigh_41 : decode cX11_weigh 41 = .ok (.aload_n 0, 1) := by decide +kernel
theorem dX11_weigh_42 : decode cX11_weigh 42 = .ok (.dup, 1) := by decide +kernel
theorem dX11_weigh_43 : decode cX11_weigh 43 = .ok (.getfield 483, 3) := by decide +kernel
theorem dX11_weigh_46 : decode cX11_weigh 46 = .ok (.iconst 1, 1) := by decide +kernel
theorem dX11_weigh_47 : decode cX11_weigh 47 = .ok (.iadd, 1) := by decide +kernel
theorem dX11_weigh_48 : decode cX11_weigh 48 = .ok (.putfield 483, 3) := by decide +kernel
theorem dX11_weigh_51 : decode cX11_weigh 51 = .ok (.iconst 0, 1) := by decide +kernel
theorem dX11_weigh_52 : decode cX11_weigh 52 = .ok (.istore 5, 2) := by decide +kernel
theorem dX11_weigh_54 : decode cX11_weigh 54 = .ok (.iload 5, 2) := by decide +kernel
theorem dX11_weigh_56 : decode cX11_weigh 56 = .ok (.aload_n 0, 1) := by decide +kernel
theorem dX11_weigh_57 : decode cX11_weigh 57 = .ok (.getfield 416, 3) := by decide +kernel
theorem dX11_weigh_60 : decode cX11_weigh 60 = .ok (.if_icmp .ge 71, 3) := by decide +kernel
theorem dX11_weigh_63 : decode cX11_weigh 63 = .ok (.aload_n 0, 1) := by decide +kernel
theorem dX11_weigh_64 : decode cX11_weigh 64 = .ok (.getfield 119, 3) := by decide +kernel
theorem dX11_weigh_67 : decode cX11_weigh 67 = .ok (.bipush 10, 2) := by decide +kernel
theorem dX11_weigh_69 : decode cX11_weigh 69 = .ok (.iload 4, 2) := by decide +kernel
theorem dX11_weigh_71 : decode cX11_weigh 71 = .ok (.imul, 1) := by decide +kernel
theorem dX11_weigh_72 : decode cX11_weigh 72 = .ok (.iload 5, 2) := by decide +kernel
theorem dX11_weigh_74 : decode cX11_weigh 74 = .ok (.iadd, 1) := by decide +kernel
theorem dX11_weigh_75 : decode cX11_weigh 75 = .ok (.aload_n 0, 1) := by decide +kernel
theorem dX11_weigh_76 : decode cX11_weigh 76 = .ok (.iload 5, 2) := by decide +kernel
theorem dX11_weigh_78 : decode cX11_weigh 78 = .ok (.iload 4, 2) := by decide +kernel
theorem dX11_weigh_80 : decode cX11_weigh 80 = .ok (.iload_n 2, 1) := by decide +kernel
theorem dX11_weigh_81 : decode cX11_weigh 81 = .ok (.iload_n 3, 1) := by decide +kernel
theorem dX11_weigh_82 : decode cX11_weigh 82 = .ok (.invokevirtual 480, 3) := by decide +kernel
theorem dX11_weigh_85 : decode cX11_weigh 85 = .ok (.bastore, 1) := by decide +kernel
theorem dX11_weigh_86 : decode cX11_weigh 86 = .ok (.aload_n 0, 1) := by decide +kernel
theorem dX11_weigh_87 : decode cX11_weigh 87 = .ok (.getfield 122, 3) := by decide +kernel
theorem dX11_weigh_90 : decode cX11_weigh 90 = .ok (.bipush 10, 2) := by decide +kernel
theorem dX11_weigh_92 : decode cX11_weigh 92 = .ok (.iload 4, 2) := by decide +kernel
theorem dX11_weigh_94 : decode cX11_weigh 94 = .ok (.imul, 1) := by decide +kernel
theorem dX11_weigh_95 : decode cX11_weigh 95 = .ok (.iload 5, 2) := by decide +kernel
theorem dX11_weigh_97 : decode cX11_weigh 97 = .ok (.iadd, 1) := by decide +kernel
theorem dX11_weigh_98 : decode cX11_weigh 98 = .ok (.aload_n 0, 1) := by decide +kernel
theorem dX11_weigh_99 : decode cX11_weigh 99 = .ok (.getfield 119, 3) := by decide +kernel
theorem dX11_weigh_102 : decode cX11_weigh 102 = .ok (.bipush 10, 2) := by decide +kernel
theorem dX11_weigh_104 : decode cX11_weigh 104 = .ok (.iload 4, 2) := by decide +kernel
theorem dX11_weigh_106 : decode cX11_weigh 106 = .ok (.imul, 1) := by decide +kernel
theorem dX11_weigh_107 : decode cX11_weigh 107 = .ok (.iload 5, 2) := by decide +kernel
theorem dX11_weigh_109 : decode cX11_weigh 109 = .ok (.iadd, 1) := by decide +kernel
theorem dX11_weigh_110 : decode cX11_weigh 110 = .ok (.baload, 1) := by decide +kernel
theorem dX11_weigh_111 : decode cX11_weigh 111 = .ok (.ifCond .eq 12, 3) := by decide +kernel
theorem dX11_weigh_114 : decode cX11_weigh 114 = .ok (.aload_n 0, 1) := by decide +kernel
theorem dX11_weigh_115 : decode cX11_weigh 115 = .ok (.iconst 2, 1) := by decide +kernel
theorem dX11_weigh_116 : decode cX11_weigh 116 = .ok (.iconst 0, 1) := by decide +kernel
theorem dX11_weigh_117 : decode cX11_weigh 117 = .ok (.invokevirtual 477, 3) := by decide +kernel
theorem dX11_weigh_120 : decode cX11_weigh 120 = .ok (.goto 4, 3) := by decide +kernel
theorem dX11_weigh_123 : decode cX11_weigh 123 = .ok (.iconst 0, 1) := by decide +kernel
theorem dX11_weigh_124 : decode cX11_weigh 124 = .ok (.iastore, 1) := by decide +kernel
theorem dX11_weigh_125 : decode cX11_weigh 125 = .ok (.iinc 5 1, 3) := by decide +kernel
theorem dX11_weigh_128 : decode cX11_weigh 128 = .ok (.goto (-74), 3) := by decide +kernel
theorem dX11_weigh_131 : decode cX11_weigh 131 = .ok (.iinc 4 1, 3) := by decide +kernel
theorem dX11_weigh_134 : decode cX11_weigh 134 = .ok (.goto (-126), 3) := by decide +kernel
theorem dX11_weigh_137 : decode cX11_weigh 137 = .ok (.return_, 1) := by decide +kernel
theorem dX11_seekCast_0 : decode cX11_seekCast 0 = .ok (.iconst 0, 1) := by decide +kernel
theorem dX11_seekCast_1 : decode cX11_seekCast 1 = .ok (.istore 4, 2) := by decide +kernel
theorem dX11_seekCast_3 : decode cX11_seekCast 3 = .ok (.iload 4, 2) := by decide +kernel
theorem dX11_seekCast_5 : decode cX11_seekCast 5 = .ok (.sipush 1024, 3) := by decide +kernel
theorem dX11_seekCast_8 : decode cX11_seekCast 8 = .ok (.if_icmp .ge 43, 3) := by decide +kernel
theorem dX11_seekCast_11 : decode cX11_seekCast 11 = .ok (.aload_n 0, 1) := by decide +kernel
theorem dX11_seekCast_12 : decode cX11_seekCast 12 = .ok (.getfield 137, 3) := by decide +kernel
theorem dX11_seekCast_15 : decode cX11_seekCast 15 = .ok (.sipush 1024, 3) := by decide +kernel
theorem dX11_seekCast_18 : decode cX11_seekCast 18 = .ok (.aload_n 0, 1) := by decide +kernel
theorem dX11_seekCast_19 : decode cX11_seekCast 19 = .ok (.getfield 483, 3) := by decide +kernel
theorem dX11_seekCast_22 : decode cX11_seekCast 22 = .ok (.imul, 1) := by decide +kernel
theorem dX11_seekCast_23 : decode cX11_seekCast 23 = .ok (.iload 4, 2) := by decide +kernel
theorem dX11_seekCast_25 : decode cX11_seekCast 25 = .ok (.iadd, 1) := by decide +kernel
theorem dX11_seekCast_26 : decode cX11_seekCast 26 = .ok (.lconst 0, 1) := by decide +kernel
theorem dX11_seekCast_27 : decode cX11_seekCast 27 = .ok (.lastore, 1) := by decide +kernel
theorem dX11_seekCast_28 : decode cX11_seekCast 28 = .ok (.aload_n 0, 1) := by decide +kernel
theorem dX11_seekCast_29 : decode cX11_seekCast 29 = .ok (.getfield 140, 3) := by decide +kernel
theorem dX11_seekCast_32 : decode cX11_seekCast 32 = .ok (.sipush 1024, 3) := by decide +kernel
theorem dX11_seekCast_35 : decode cX11_seekCast 35 = .ok (.aload_n 0, 1) := by decide +kernel
theorem dX11_seekCast_36 : decode cX11_seekCast 36 = .ok (.getfield 483, 3) := by decide +kernel
theorem dX11_seekCast_39 : decode cX11_seekCast 39 = .ok (.imul, 1) := by decide +kernel
theorem dX11_seekCast_40 : decode cX11_seekCast 40 = .ok (.iload 4, 2) := by decide +kernel
theorem dX11_seekCast_42 : decode cX11_seekCast 42 = .ok (.iadd, 1) := by decide +kernel
theorem dX11_seekCast_43 : decode cX11_seekCast 43 = .ok (.iconst 0, 1) := by decide +kernel
theorem dX11_seekCast_44 : decode cX11_seekCast 44 = .ok (.iastore, 1) := by decide +kernel
theorem dX11_seekCast_45 : decode cX11_seekCast 45 = .ok (.iinc 4 1, 3) := by decide +kernel
theorem dX11_seekCast_48 : decode cX11_seekCast 48 = .ok (.goto (-45), 3) := by decide +kernel
theorem dX11_seekCast_51 : decode cX11_seekCast 51 = .ok (.aload_n 0, 1) := by decide +kernel
theorem dX11_seekCast_52 : decode cX11_seekCast 52 = .ok (.getfield 483, 3) := by decide +kernel
theorem dX11_seekCast_55 : decode cX11_seekCast 55 = .ok (.iconst 1, 1) := by decide +kernel
theorem dX11_seekCast_56 : decode cX11_seekCast 56 = .ok (.isub, 1) := by decide +kernel
theorem dX11_seekCast_57 : decode cX11_seekCast 57 = .ok (.istore 4, 2) := by decide +kernel
theorem dX11_seekCast_59 : decode cX11_seekCast 59 = .ok (.iload 4, 2) := by decide +kernel
theorem dX11_seekCast_61 : decode cX11_seekCast 61 = .ok (.ifCond .lt 300, 3) := by decide +kernel
theorem dX11_seekCast_64 : decode cX11_seekCast 64 = .ok (.aload_n 0, 1) := by decide +kernel
theorem dX11_seekCast_65 : decode cX11_seekCast 65 = .ok (.getfield 131, 3) := by decide +kernel
theorem dX11_seekCast_68 : decode cX11_seekCast 68 = .ok (.iload 4, 2) := by decide +kernel
theorem dX11_seekCast_70 : decode cX11_seekCast 70 = .ok (.iaload, 1) := by decide +kernel
theorem dX11_seekCast_71 : decode cX11_seekCast 71 = .ok (.istore 5, 2) := by decide +kernel
theorem dX11_seekCast_73 : decode cX11_seekCast 73 = .ok (.iconst 0, 1) := by decide +kernel
theorem dX11_seekCast_74 : decode cX11_seekCast 74 = .ok (.istore 6, 2) := by decide +kernel
theorem dX11_seekCast_76 : decode cX11_seekCast 76 = .ok (.iload 6, 2) := by decide +kernel
theorem dX11_seekCast_78 : decode cX11_seekCast 78 = .ok (.sipush 1024, 3) := by decide +kernel
theorem dX11_seekCast_81 : decode cX11_seekCast 81 = .ok (.if_icmp .ge 274, 3) := by decide +kernel
theorem dX11_seekCast_84 : decode cX11_seekCast 84 = .ok (.sipush 1024, 3) := by decide +kernel
theorem dX11_seekCast_87 : decode cX11_seekCast 87 = .ok (.iload 4, 2) := by decide +kernel
theorem dX11_seekCast_89 : decode cX11_seekCast 89 = .ok (.imul, 1) := by decide +kernel
theorem dX11_seekCast_90 : decode cX11_seekCast 90 = .ok (.iload 6, 2) := by decide +kernel
theorem dX11_seekCast_92 : decode cX11_seekCast 92 = .ok (.iadd, 1) := by decide +kernel
theorem dX11_seekCast_93 : decode cX11_seekCast 93 = .ok (.istore 7, 2) := by decide +kernel
theorem dX11_seekCast_95 : decode cX11_seekCast 95 = .ok (.aload_n 0, 1) := by decide +kernel
theorem dX11_seekCast_96 : decode cX11_seekCast 96 = .ok (.getfield 137, 3) := by decide +kernel
theorem dX11_seekCast_99 : decode cX11_seekCast 99 = .ok (.iload 7, 2) := by decide +kernel
theorem dX11_seekCast_101 : decode cX11_seekCast 101 = .ok (.ldc2_w 486, 3) := by decide +kernel
theorem dX11_seekCast_104 : decode cX11_seekCast 104 = .ok (.lastore, 1) := by decide +kernel
theorem dX11_seekCast_105 : decode cX11_seekCast 105 = .ok (.aload_n 0, 1) := by decide +kernel
theorem dX11_seekCast_106 : decode cX11_seekCast 106 = .ok (.getfield 140, 3) := by decide +kernel
theorem dX11_seekCast_109 : decode cX11_seekCast 109 = .ok (.iload 7, 2) := by decide +kernel
theorem dX11_seekCast_111 : decode cX11_seekCast 111 = .ok (.bipush 100, 2) := by decide +kernel
theorem dX11_seekCast_113 : decode cX11_seekCast 113 = .ok (.iastore, 1) := by decide +kernel
theorem dX11_seekCast_114 : decode cX11_seekCast 114 = .ok (.aload_n 0, 1) := by decide +kernel
theorem dX11_seekCast_115 : decode cX11_seekCast 115 = .ok (.getfield 134, 3) := by decide +kernel
theorem dX11_seekCast_118 : decode cX11_seekCast 118 = .ok (.iload 7, 2) := by decide +kernel
theorem dX11_seekCast_120 : decode cX11_seekCast 120 = .ok (.iconst (-1), 1) := by decide +kernel
theorem dX11_seekCast_121 : decode cX11_seekCast 121 = .ok (.iastore, 1) := by decide +kernel
theorem dX11_seekCast_122 : decode cX11_seekCast 122 = .ok (.iconst 0, 1) := by decide +kernel
theorem dX11_seekCast_123 : decode cX11_seekCast 123 = .ok (.istore 8, 2) := by decide +kernel
theorem dX11_seekCast_125 : decode cX11_seekCast 125 = .ok (.iload 8, 2) := by decide +kernel
theorem dX11_seekCast_127 : decode cX11_seekCast 127 = .ok (.aload_n 0, 1) := by decide +kernel
theorem dX11_seekCast_128 : decode cX11_seekCast 128 = .ok (.getfield 416, 3) := by decide +kernel
theorem dX11_seekCast_131 : decode cX11_seekCast 131 = .ok (.if_icmp .ge 218, 3) := by decide +kernel
theorem dX11_seekCast_134 : decode cX11_seekCast 134 = .ok (.iload 8, 2) := by decide +kernel
theorem dX11_seekCast_136 : decode cX11_seekCast 136 = .ok (.iload_n 1, 1) := by decide +kernel
theorem dX11_seekCast_137 : decode cX11_seekCast 137 = .ok (.if_icmp .eq 206, 3) := by decide +kernel
theorem dX11_seekCast_140 : decode cX11_seekCast 140 = .ok (.iload 6, 2) := by decide +kernel
theorem dX11_seekCast_142 : decode cX11_seekCast 142 = .ok (.iload 8, 2) := by decide +kernel
theorem dX11_seekCast_144 : decode cX11_seekCast 144 = .ok (.ishr, 1) := by decide +kernel
theorem dX11_seekCast_145 : decode cX11_seekCast 145 = .ok (.iconst 1, 1) := by decide +kernel
theorem dX11_seekCast_146 : decode cX11_seekCast 146 = .ok (.iand, 1) := by decide +kernel
theorem dX11_seekCast_147 : decode cX11_seekCast 147 = .ok (.iconst 1, 1) := by decide +kernel
theorem dX11_seekCast_148 : decode cX11_seekCast 148 = .ok (.if_icmp .eq 195, 3) := by decide +kernel
theorem dX11_seekCast_151 : decode cX11_seekCast 151 = .ok (.aload_n 0, 1) := by decide +kernel
theorem dX11_seekCast_152 : decode cX11_seekCast 152 = .ok (.getfield 119, 3) := by decide +kernel
theorem dX11_seekCast_155 : decode cX11_seekCast 155 = .ok (.bipush 10, 2) := by decide +kernel
theorem dX11_seekCast_157 : decode cX11_seekCast 157 = .ok (.iload 5, 2) := by decide +kernel
theorem dX11_seekCast_159 : decode cX11_seekCast 159 = .ok (.imul, 1) := by decide +kernel
theorem dX11_seekCast_160 : decode cX11_seekCast 160 = .ok (.iload 8, 2) := by decide +kernel
theorem dX11_seekCast_162 : decode cX11_seekCast 162 = .ok (.iadd, 1) := by decide +kernel
theorem dX11_seekCast_163 : decode cX11_seekCast 163 = .ok (.baload, 1) := by decide +kernel
theorem dX11_seekCast_164 : decode cX11_seekCast 164 = .ok (.ifCond .eq 179, 3) := by decide +kernel
theorem dX11_seekCast_167 : decode cX11_seekCast 167 = .ok (.aload_n 0, 1) := by decide +kernel
theorem dX11_seekCast_168 : decode cX11_seekCast 168 = .ok (.getfield 137, 3) := by decide +kernel
theorem dX11_seekCast_171 : decode cX11_seekCast 171 = .ok (.iload 7, 2) := by decide +kernel
theorem dX11_seekCast_173 : decode cX11_seekCast 173 = .ok (.sipush 1024, 3) := by decide +kernel
theorem dX11_seekCast_176 : decode cX11_seekCast 176 = .ok (.iadd, 1) := by decide +kernel
theorem dX11_seekCast_177 : decode cX11_seekCast 177 = .ok (.iconst 1, 1) := by decide +kernel
theorem dX11_seekCast_178 : decode cX11_seekCast 178 = .ok (.iload 8, 2) := by decide +kernel
theorem dX11_seekCast_180 : decode cX11_seekCast 180 = .ok (.ishl, 1) := by decide +kernel
theorem dX11_seekCast_181 : decode cX11_seekCast 181 = .ok (.iadd, 1) := by decide +kernel
theorem dX11_seekCast_182 : decode cX11_seekCast 182 = .ok (.laload, 1) := by decide +kernel
theorem dX11_seekCast_183 : decode cX11_seekCast 183 = .ok (.ldc2_w 486, 3) := by decide +kernel
theorem dX11_seekCast_186 : decode cX11_seekCast 186 = .ok (.lcmp, 1) := by decide +kernel
theorem dX11_seekCast_187 : decode cX11_seekCast 187 = .ok (.ifCond .lt 6, 3) := by decide +kernel
theorem dX11_seekCast_190 : decode cX11_seekCast 190 = .ok (.goto 153, 3) := by decide +kernel
theorem dX11_seekCast_193 : decode cX11_seekCast 193 = .ok (.aload_n 0, 1) := by decide +kernel
theorem dX11_seekCast_194 : decode cX11_seekCast 194 = .ok (.getfield 122, 3) := by decide +kernel
theorem dX11_seekCast_197 : decode cX11_seekCast 197 = .ok (.bipush 10, 2) := by decide +kernel
theorem dX11_seekCast_199 : decode cX11_seekCast 199 = .ok (.iload 5, 2) := by decide +kernel
theorem dX11_seekCast_201 : decode cX11_seekCast 201 = .ok (.imul, 1) := by decide +kernel
theorem dX11_seekCast_202 : decode cX11_seekCast 202 = .ok (.iload 8, 2) := by decide +kernel
theorem dX11_seekCast_204 : decode cX11_seekCast 204 = .ok (.iadd, 1) := by decide +kernel
theorem dX11_seekCast_205 : decode cX11_seekCast 205 = .ok (.iaload, 1) := by decide +kernel
theorem dX11_seekCast_206 : decode cX11_seekCast 206 = .ok (.i2l, 1) := by decide +kernel
theorem dX11_seekCast_207 : decode cX11_seekCast 207 = .ok (.aload_n 0, 1) := by decide +kernel
theorem dX11_seekCast_208 : decode cX11_seekCast 208 = .ok (.getfield 137, 3) := by decide +kernel
theorem dX11_seekCast_211 : decode cX11_seekCast 211 = .ok (.iload 7, 2) := by decide +kernel
theorem dX11_seekCast_213 : decode cX11_seekCast 213 = .ok (.sipush 1024, 3) := by decide +kernel
theorem dX11_seekCast_216 : decode cX11_seekCast 216 = .ok (.iadd, 1) := by decide +kernel
theorem dX11_seekCast_217 : decode cX11_seekCast 217 = .ok (.iconst 1, 1) := by decide +kernel
theorem dX11_seekCast_218 : decode cX11_seekCast 218 = .ok (.iload 8, 2) := by decide +kernel
theorem dX11_seekCast_220 : decode cX11_seekCast 220 = .ok (.ishl, 1) := by decide +kernel
theorem dX11_seekCast_221 : decode cX11_seekCast 221 = .ok (.iadd, 1) := by decide +kernel
theorem dX11_seekCast_222 : decode cX11_seekCast 222 = .ok (.laload, 1) := by decide +kernel
theorem dX11_seekCast_223 : decode cX11_seekCast 223 = .ok (.ladd, 1) := by decide +kernel
theorem dX11_seekCast_224 : decode cX11_seekCast 224 = .ok (.lstore 9, 2) := by decide +kernel
theorem dX11_seekCast_226 : decode cX11_seekCast 226 = .ok (.iload_n 2, 1) := by decide +kernel
theorem dX11_seekCast_227 : decode cX11_seekCast 227 = .ok (.ifCond .eq 19, 3) := by decide +kernel
theorem dX11_seekCast_230 : decode cX11_seekCast 230 = .ok (.aload_n 0, 1) := by decide +kernel
theorem dX11_seekCast_231 : decode cX11_seekCast 231 = .ok (.getfield 125, 3) := by decide +kernel
theorem dX11_seekCast_234 : decode cX11_seekCast 234 = .ok (.iload 5, 2) := by decide +kernel
theorem dX11_seekCast_236 : decode cX11_seekCast 236 = .ok (.iaload, 1) := by decide +kernel
theorem dX11_seekCast_237 : decode cX11_seekCast 237 = .ok (.iload 8, 2) := by decide +kernel
theorem dX11_seekCast_239 : decode cX11_seekCast 239 = .ok (.if_icmp .eq 7, 3) := by decide +kernel
theorem dX11_seekCast_242 : decode cX11_seekCast 242 = .ok (.iconst 1, 1) := by decide +kernel
theorem dX11_seekCast_243 : decode cX11_seekCast 243 = .ok (.goto 4, 3) := by decide +kernel
theorem dX11_seekCast_246 : decode cX11_seekCast 246 = .ok (.iconst 0, 1) := by decide +kernel
theorem dX11_seekCast_247 : decode cX11_seekCast 247 = .ok (.aload_n 0, 1) := by decide +kernel
theorem dX11_seekCast_248 : decode cX11_seekCast 248 = .ok (.getfield 140, 3) := by decide +kernel
theorem dX11_seekCast_251 : decode cX11_seekCast 251 = .ok (.iload 7, 2) := by decide +kernel
theorem dX11_seekCast_253 : decode cX11_seekCast 253 = .ok (.sipush 1024, 3) := by decide +kernel
theorem dX11_seekCast_256 : decode cX11_seekCast 256 = .ok (.iadd, 1) := by decide +kernel
theorem dX11_seekCast_257 : decode cX11_seekCast 257 = .ok (.iconst 1, 1) := by decide +kernel
theorem dX11_seekCast_258 : decode cX11_seekCast 258 = .ok (.iload 8, 2) := by decide +kernel
theorem dX11_seekCast_260 : decode cX11_seekCast 260 = .ok (.ishl, 1) := by decide +kernel
theorem dX11_seekCast_261 : decode cX11_seekCast 261 = .ok (.iadd, 1) := by decide +kernel
theorem dX11_seekCast_262 : decode cX11_seekCast 262 = .ok (.iaload, 1) := by decide +kernel
theorem dX11_seekCast_263 : decode cX11_seekCast 263 = .ok (.iadd, 1) := by decide +kernel
theorem dX11_seekCast_264 : decode cX11_seekCast 264 = .ok (.istore 11, 2) := by decide +kernel
theorem dX11_seekCast_266 : decode cX11_seekCast 266 = .ok (.aload_n 0, 1) := by decide +kernel
theorem dX11_seekCast_267 : decode cX11_seekCast 267 = .ok (.getfield 134, 3) := by decide +kernel
theorem dX11_seekCast_270 : decode cX11_seekCast 270 = .ok (.iload 7, 2) := by decide +kernel
theorem dX11_seekCast_272 : decode cX11_seekCast 272 = .ok (.iaload, 1) := by decide +kernel
theorem dX11_seekCast_273 : decode cX11_seekCast 273 = .ok (.ifCond .lt 43, 3) := by decide +kernel
theorem dX11_seekCast_276 : decode cX11_seekCast 276 = .ok (.iload 11, 2) := by decide +kernel
theorem dX11_seekCast_278 : decode cX11_seekCast 278 = .ok (.aload_n 0, 1) := by decide +kernel
theorem dX11_seekCast_279 : decode cX11_seekCast 279 = .ok (.getfield 140, 3) := by decide +kernel
theorem dX11_seekCast_282 : decode cX11_seekCast 282 = .ok (.iload 7, 2) := by decide +kernel
theorem dX11_seekCast_284 : decode cX11_seekCast 284 = .ok (.iaload, 1) := by decide +kernel
theorem dX11_seekCast_285 : decode cX11_seekCast 285 = .ok (.if_icmp .gt 58, 3) := by decide +kernel
theorem dX11_seekCast_288 : decode cX11_seekCast 288 = .ok (.iload 11, 2) := by decide +kernel
theorem dX11_seekCast_290 : decode cX11_seekCast 290 = .ok (.aload_n 0, 1) := by decide +kernel
theorem dX11_seekCast_291 : decode cX11_seekCast 291 = .ok (.getfield 140, 3) := by decide +kernel
theorem dX11_seekCast_294 : decode cX11_seekCast 294 = .ok (.iload 7, 2) := by decide +kernel
theorem dX11_seekCast_296 : decode cX11_seekCast 296 = .ok (.iaload, 1) := by decide +kernel
theorem dX11_seekCast_297 : decode cX11_seekCast 297 = .ok (.if_icmp .ne 19, 3) := by decide +kernel
theorem dX11_seekCast_300 : decode cX11_seekCast 300 = .ok (.lload 9, 2) := by decide +kernel
theorem dX11_seekCast_302 : decode cX11_seekCast 302 = .ok (.aload_n 0, 1) := by decide +kernel
theorem dX11_seekCast_303 : decode cX11_seekCast 303 = .ok (.getfield 137, 3) := by decide +kernel
theorem dX11_seekCast_306 : decode cX11_seekCast 306 = .ok (.iload 7, 2) := by decide +kernel
theorem dX11_seekCast_308 : decode cX11_seekCast 308 = .ok (.laload, 1) := by decide +kernel
theorem dX11_seekCast_309 : decode cX11_seekCast 309 = .ok (.lcmp, 1) := by decide +kernel
theorem dX11_seekCast_310 : decode cX11_seekCast 310 = .ok (.ifCond .lt 6, 3) := by decide +kernel
theorem dX11_seekCast_313 : decode cX11_seekCast 313 = .ok (.goto 30, 3) := by decide +kernel
theorem dX11_seekCast_316 : decode cX11_seekCast 316 = .ok (.aload_n 0, 1) := by decide +kernel
theorem dX11_seekCast_317 : decode cX11_seekCast 317 = .ok (.getfield 137, 3) := by decide +kernel
theorem dX11_seekCast_320 : decode cX11_seekCast 320 = .ok (.iload 7, 2) := by decide +kernel
theorem dX11_seekCast_322 : decode cX11_seekCast 322 = .ok (.lload 9, 2) := by decide +kernel
theorem dX11_seekCast_324 : decode cX11_seekCast 324 = .ok (.lastore, 1) := by decide +kernel
theorem dX11_seekCast_325 : decode cX11_seekCast 325 = .ok (.aload_n 0, 1) := by decide +kernel
theorem dX11_seekCast_326 : decode cX11_seekCast 326 = .ok (.getfield 140, 3) := by decide +kernel
theorem dX11_seekCast_329 : decode cX11_seekCast 329 = .ok (.iload 7, 2) := by decide +kernel
theorem dX11_seekCast_331 : decode cX11_seekCast 331 = .ok (.iload 11, 2) := by decide +kernel
theorem dX11_seekCast_333 : decode cX11_seekCast 333 = .ok (.iastore, 1) := by decide +kernel
theorem dX11_seekCast_334 : decode cX11_seekCast 334 = .ok (.aload_n 0, 1) := by decide +kernel
theorem dX11_seekCast_335 : decode cX11_seekCast 335 = .ok (.getfield 134, 3) := by decide +kernel
theorem dX11_seekCast_338 : decode cX11_seekCast 338 = .ok (.iload 7, 2) := by decide +kernel
theorem dX11_seekCast_340 : decode cX11_seekCast 340 = .ok (.iload 8, 2) := by decide +kernel
theorem dX11_seekCast_342 : decode cX11_seekCast 342 = .ok (.iastore, 1) := by decide +kernel
theorem dX11_seekCast_343 : decode cX11_seekCast 343 = .ok (.iinc 8 1, 3) := by decide +kernel
theorem dX11_seekCast_346 : decode cX11_seekCast 346 = .ok (.goto (-221), 3) := by decide +kernel
theorem dX11_seekCast_349 : decode cX11_seekCast 349 = .ok (.iinc 6 1, 3) := by decide +kernel
theorem dX11_seekCast_352 : decode cX11_seekCast 352 = .ok (.goto (-276), 3) := by decide +kernel
theorem dX11_seekCast_355 : decode cX11_seekCast 355 = .ok (.iinc 4 (-1), 3) := by decide +kernel
theorem dX11_seekCast_358 : decode cX11_seekCast 358 = .ok (.goto (-299), 3) := by decide +kernel
theorem dX11_seekCast_361 : decode cX11_seekCast 361 = .ok (.aload_n 0, 1) := by decide +kernel
theorem dX11_seekCast_362 : decode cX11_seekCast 362 = .ok (.getfield 137, 3) := by decide +kernel
theorem dX11_seekCast_365 : decode cX11_seekCast 365 = .ok (.iconst 0, 1) := by decide +kernel
theorem dX11_seekCast_366 : decode cX11_seekCast 366 = .ok (.laload, 1) := by decide +kernel
theorem dX11_seekCast_367 : decode cX11_seekCast 367 = .ok (.ldc2_w 486, 3) := by decide +kernel
theorem dX11_seekCast_370 : decode cX11_seekCast 370 = .ok (.lcmp, 1) := by decide +kernel
theorem dX11_seekCast_371 : decode cX11_seekCast 371 = .ok (.ifCond .lt 5, 3) := by decide +kernel
theorem dX11_seekCast_374 : decode cX11_seekCast 374 = .ok (.iconst 0, 1) := by decide +kernel
theorem dX11_seekCast_375 : decode cX11_seekCast 375 = .ok (.ireturn, 1) := by decide +kernel
theorem dX11_seekCast_376 : decode cX11_seekCast 376 = .ok (.aload_n 0, 1) := by decide +kernel
theorem dX11_seekCast_377 : decode cX11_seekCast 377 = .ok (.aload_n 0, 1) := by decide +kernel
theorem dX11_seekCast_378 : decode cX11_seekCast 378 = .ok (.getfield 137, 3) := by decide +kernel
theorem dX11_seekCast_381 : decode cX11_seekCast 381 = .ok (.iconst 0, 1) := by decide +kernel
theorem dX11_seekCast_382 : decode cX11_seekCast 382 = .ok (.laload, 1) := by decide +kernel
theorem dX11_seekCast_383 : decode cX11_seekCast 383 = .ok (.putfield 488, 3) := by decide +kernel
theorem dX11_seekCast_386 : decode cX11_seekCast 386 = .ok (.aload_n 0, 1) := by decide +kernel
theorem dX11_seekCast_387 : decode cX11_seekCast 387 = .ok (.aload_n 0, 1) := by decide +kernel
theorem dX11_seekCast_388 : decode cX11_seekCast 388 = .ok (.getfield 140, 3) := by decide +kernel
theorem dX11_seekCast_391 : decode cX11_seekCast 391 = .ok (.iconst 0, 1) := by decide +kernel
theorem dX11_seekCast_392 : decode cX11_seekCast 392 = .ok (.iaload, 1) := by decide +kernel
theorem dX11_seekCast_393 : decode cX11_seekCast 393 = .ok (.putfield 491, 3) := by decide +kernel
theorem dX11_seekCast_396 : decode cX11_seekCast 396 = .ok (.iconst 0, 1) := by decide +kernel
theorem dX11_seekCast_397 : decode cX11_seekCast 397 = .ok (.istore 4, 2) := by decide +kernel
theorem dX11_seekCast_399 : decode cX11_seekCast 399 = .ok (.iconst 0, 1) := by decide +kernel
theorem dX11_seekCast_400 : decode cX11_seekCast 400 = .ok (.istore 5, 2) := by decide +kernel
theorem dX11_seekCast_402 : decode cX11_seekCast 402 = .ok (.iload 5, 2) := by decide +kernel
theorem dX11_seekCast_404 : decode cX11_seekCast 404 = .ok (.aload_n 0, 1) := by decide +kernel
theorem dX11_seekCast_405 : decode cX11_seekCast 405 = .ok (.getfield 483, 3) := by decide +kernel
theorem dX11_seekCast_408 : decode cX11_seekCast 408 = .ok (.if_icmp .ge 53, 3) := by decide +kernel
theorem dX11_seekCast_411 : decode cX11_seekCast 411 = .ok (.aload_n 3, 1) := by decide +kernel
theorem dX11_seekCast_412 : decode cX11_seekCast 412 = .ok (.aload_n 0, 1) := by decide +kernel
theorem dX11_seekCast_413 : decode cX11_seekCast 413 = .ok (.getfield 131, 3) := by decide +kernel
theorem dX11_seekCast_416 : decode cX11_seekCast 416 = .ok (.iload 5, 2) := by decide +kernel
theorem dX11_seekCast_418 : decode cX11_seekCast 418 = .ok (.iaload, 1) := by decide +kernel
theorem dX11_seekCast_419 : decode cX11_seekCast 419 = .ok (.aload_n 0, 1) := by decide +kernel
theorem dX11_seekCast_420 : decode cX11_seekCast 420 = .ok (.getfield 134, 3) := by decide +kernel
theorem dX11_seekCast_423 : decode cX11_seekCast 423 = .ok (.sipush 1024, 3) := by decide +kernel
theorem dX11_seekCast_426 : decode cX11_seekCast 426 = .ok (.iload 5, 2) := by decide +kernel
theorem dX11_seekCast_428 : decode cX11_seekCast 428 = .ok (.imul, 1) := by decide +kernel
theorem dX11_seekCast_429 : decode cX11_seekCast 429 = .ok (.iload 4, 2) := by decide +kernel
theorem dX11_seekCast_431 : decode cX11_seekCast 431 = .ok (.iadd, 1) := by decide +kernel
theorem dX11_seekCast_432 : decode cX11_seekCast 432 = .ok (.iaload, 1) := by decide +kernel
theorem dX11_seekCast_433 : decode cX11_seekCast 433 = .ok (.iastore, 1) := by decide +kernel
theorem dX11_seekCast_434 : decode cX11_seekCast 434 = .ok (.iload 4, 2) := by decide +kernel
theorem dX11_seekCast_436 : decode cX11_seekCast 436 = .ok (.iconst 1, 1) := by decide +kernel
theorem dX11_seekCast_437 : decode cX11_seekCast 437 = .ok (.aload_n 0, 1) := by decide +kernel
theorem dX11_seekCast_438 : decode cX11_seekCast 438 = .ok (.getfield 134, 3) := by decide +kernel
theorem dX11_seekCast_441 : decode cX11_seekCast 441 = .ok (.sipush 1024, 3) := by decide +kernel
theorem dX11_seekCast_444 : decode cX11_seekCast 444 = .ok (.iload 5, 2) := by decide +kernel
theorem dX11_seekCast_446 : decode cX11_seekCast 446 = .ok (.imul, 1) := by decide +kernel
theorem dX11_seekCast_447 : decode cX11_seekCast 447 = .ok (.iload 4, 2) := by decide +kernel
theorem dX11_seekCast_449 : decode cX11_seekCast 449 = .ok (.iadd, 1) := by decide +kernel
theorem dX11_seekCast_450 : decode cX11_seekCast 450 = .ok (.iaload, 1) := by decide +kernel
theorem dX11_seekCast_451 : decode cX11_seekCast 451 = .ok (.ishl, 1) := by decide +kernel
theorem dX11_seekCast_452 : decode cX11_seekCast 452 = .ok (.ior, 1) := by decide +kernel
theorem dX11_seekCast_453 : decode cX11_seekCast 453 = .ok (.istore 4, 2) := by decide +kernel
theorem dX11_seekCast_455 : decode cX11_seekCast 455 = .ok (.iinc 5 1, 3) := by decide +kernel
theorem dX11_seekCast_458 : decode cX11_seekCast 458 = .ok (.goto (-56), 3) := by decide +kernel
theorem dX11_seekCast_461 : decode cX11_seekCast 461 = .ok (.iconst 1, 1) := by decide +kernel
theorem dX11_seekCast_462 : decode cX11_seekCast 462 = .ok (.ireturn, 1) := by decide +kernel
theorem dX11_hasCast_0 : decode cX11_hasCast 0 = .ok (.aload_n 0, 1) := by decide +kernel
theorem dX11_hasCast_1 : decode cX11_hasCast 1 = .ok (.iload_n 1, 1) := by decide +kernel
theorem dX11_hasCast_2 : decode cX11_hasCast 2 = .ok (.iload_n 2, 1) := by decide +kernel
theorem dX11_hasCast_3 : decode cX11_hasCast 3 = .ok (.iload_n 3, 1) := by decide +kernel
theorem dX11_hasCast_4 : decode cX11_hasCast 4 = .ok (.invokevirtual 494, 3) := by decide +kernel
theorem dX11_hasCast_7 : decode cX11_hasCast 7 = .ok (.aload_n 0, 1) := by decide +kernel
theorem dX11_hasCast_8 : decode cX11_hasCast 8 = .ok (.iconst (-1), 1) := by decide +kernel
theorem dX11_hasCast_9 : decode cX11_hasCast 9 = .ok (.iconst 0, 1) := by decide +kernel
theorem dX11_hasCast_10 : decode cX11_hasCast 10 = .ok (.aload_n 0, 1) := by decide +kernel
theorem dX11_hasCast_11 : decode cX11_hasCast 11 = .ok (.getfield 125, 3) := by decide +kernel
theorem dX11_hasCast_14 : decode cX11_hasCast 14 = .ok (.invokevirtual 497, 3) := by decide +kernel
theorem dX11_hasCast_17 : decode cX11_hasCast 17 = .ok (.ireturn, 1) := by decide +kernel
theorem dX11_cost_0 : decode cX11_cost 0 = .ok (.aload_n 0, 1) := by decide +kernel
theorem dX11_cost_1 : decode cX11_cost 1 = .ok (.iload_n 1, 1) := by decide +kernel
theorem dX11_cost_2 : decode cX11_cost 2 = .ok (.invokevirtual 359, 3) := by decide +kernel
theorem dX11_cost_5 : decode cX11_cost 5 = .ok (.ifCond .eq 27, 3) := by decide +kernel
theorem dX11_cost_8 : decode cX11_cost 8 = .ok (.iload_n 2, 1) := by decide +kernel
theorem dX11_cost_9 : decode cX11_cost 9 = .ok (.invokestatic 371, 3) := by decide +kernel
theorem dX11_cost_12 : decode cX11_cost 12 = .ok (.ifCond .eq 20, 3) := by decide +kernel
theorem dX11_cost_15 : decode cX11_cost 15 = .ok (.aload_n 0, 1) := by decide +kernel
theorem dX11_cost_16 : decode cX11_cost 16 = .ok (.iload_n 1, 1) := by decide +kernel
theorem dX11_cost_17 : decode cX11_cost 17 = .ok (.iload_n 2, 1) := by decide +kernel
theorem dX11_cost_18 : decode cX11_cost 18 = .ok (.iload_n 3, 1) := by decide +kernel
theorem dX11_cost_19 : decode cX11_cost 19 = .ok (.invokevirtual 501, 3) := by decide +kernel
theorem dX11_cost_22 : decode cX11_cost 22 = .ok (.ifCond .eq 10, 3) := by decide +kernel
theorem dX11_cost_25 : decode cX11_cost 25 = .ok (.aload_n 0, 1) := by decide +kernel
theorem dX11_cost_26 : decode cX11_cost 26 = .ok (.getfield 488, 3) := by decide +kernel
theorem dX11_cost_29 : decode cX11_cost 29 = .ok (.goto 6, 3) := by decide +kernel
theorem dX11_cost_32 : decode cX11_cost 32 = .ok (.ldc2_w 504, 3) := by decide +kernel
theorem dX11_cost_35 : decode cX11_cost 35 = .ok (.lreturn, 1) := by decide +kernel
theorem dX11_cast_0 : decode cX11_cast 0 = .ok (.aload_n 0, 1) := by decide +kernel
theorem dX11_cast_1 : decode cX11_cast 1 = .ok (.iload_n 1, 1) := by decide +kernel
theorem dX11_cast_2 : decode cX11_cast 2 = .ok (.invokevirtual 333, 3) := by decide +kernel
theorem dX11_cast_5 : decode cX11_cast 5 = .ok (.ifCond .eq 33, 3) := by decide +kernel
theorem dX11_cast_8 : decode cX11_cast 8 = .ok (.iload_n 2, 1) := by decide +kernel
theorem dX11_cast_9 : decode cX11_cast 9 = .ok (.invokestatic 371, 3) := by decide +kernel
theorem dX11_cast_12 : decode cX11_cast 12 = .ok (.ifCond .eq 26, 3) := by decide +kernel
theorem dX11_cast_15 : decode cX11_cast 15 = .ok (.aload_n 0, 1) := by decide +kernel
theorem dX11_cast_16 : decode cX11_cast 16 = .ok (.aload_n 0, 1) := by decide +kernel
theorem dX11_cast_17 : decode cX11_cast 17 = .ok (.iload_n 1, 1) := by decide +kernel
theorem dX11_cast_18 : decode cX11_cast 18 = .ok (.invokevirtual 336, 3) := by decide +kernel
theorem dX11_cast_21 : decode cX11_cast 21 = .ok (.iload_n 2, 1) := by decide +kernel
theorem dX11_cast_22 : decode cX11_cast 22 = .ok (.iload_n 3, 1) := by decide +kernel
theorem dX11_cast_23 : decode cX11_cast 23 = .ok (.invokevirtual 501, 3) := by decide +kernel
theorem dX11_cast_26 : decode cX11_cast 26 = .ok (.ifCond .eq 12, 3) := by decide +kernel
theorem dX11_cast_29 : decode cX11_cast 29 = .ok (.aload_n 0, 1) := by decide +kernel
theorem dX11_cast_30 : decode cX11_cast 30 = .ok (.getfield 125, 3) := by decide +kernel
theorem dX11_cast_33 : decode cX11_cast 33 = .ok (.iload_n 1, 1) := by decide +kernel
theorem dX11_cast_34 : decode cX11_cast 34 = .ok (.iaload, 1) := by decide +kernel
theorem dX11_cast_35 : decode cX11_cast 35 = .ok (.goto 4, 3) := by decide +kernel
theorem dX11_cast_38 : decode cX11_cast 38 = .ok (.iconst (-1), 1) := by decide +kernel
theorem dX11_cast_39 : decode cX11_cast 39 = .ok (.ireturn, 1) := by decide +kernel
theorem dX11_covers_0 : decode cX11_covers 0 = .ok (.aload_n 0, 1) := by decide +kernel
theorem dX11_covers_1 : decode cX11_covers 1 = .ok (.iload_n 1, 1) := by decide +kernel
theorem dX11_covers_2 : decode cX11_covers 2 = .ok (.invokevirtual 333, 3) := by decide +kernel
theorem dX11_covers_5 : decode cX11_covers 5 = .ok (.ifCond .eq 10, 3) := by decide +kernel
theorem dX11_covers_8 : decode cX11_covers 8 = .ok (.iload_n 2, 1) := by decide +kernel
theorem dX11_covers_9 : decode cX11_covers 9 = .ok (.invokestatic 371, 3) := by decide +kernel
theorem dX11_covers_12 : decode cX11_covers 12 = .ok (.ifCond .ne 5, 3) := by decide +kernel
theorem dX11_covers_15 : decode cX11_covers 15 = .ok (.iconst (-1), 1) := by decide +kernel
theorem dX11_covers_16 : decode cX11_covers 16 = .ok (.ireturn, 1) := by decide +kernel
theorem dX11_covers_17 : decode cX11_covers 17 = .ok (.aload_n 0, 1) := by decide +kernel
theorem dX11_covers_18 : decode cX11_covers 18 = .ok (.aload_n 0, 1) := by decide +kernel
theorem dX11_covers_19 : decode cX11_covers 19 = .ok (.iload_n 1, 1) := by decide +kernel
theorem dX11_covers_20 : decode cX11_covers 20 = .ok (.invokevirtual 336, 3) := by decide +kernel
theorem dX11_covers_23 : decode cX11_covers 23 = .ok (.iload_n 2, 1) := by decide +kernel
theorem dX11_covers_24 : decode cX11_covers 24 = .ok (.iload_n 3, 1) := by decide +kernel
theorem dX11_covers_25 : decode cX11_covers 25 = .ok (.invokevirtual 501, 3) := by decide +kernel
theorem dX11_covers_28 : decode cX11_covers 28 = .ok (.istore 4, 2) := by decide +kernel
theorem dX11_covers_30 : decode cX11_covers 30 = .ok (.iconst 0, 1) := by decide +kernel
theorem dX11_covers_31 : decode cX11_covers 31 = .ok (.istore 5, 2) := by decide +kernel
theorem dX11_covers_33 : decode cX11_covers 33 = .ok (.iconst 0, 1) := by decide +kernel
theorem dX11_covers_34 : decode cX11_covers 34 = .ok (.istore 6, 2) := by decide +kernel
theorem dX11_covers_36 : decode cX11_covers 36 = .ok (.iload 6, 2) := by decide +kernel
theorem dX11_covers_38 : decode cX11_covers 38 = .ok (.aload_n 0, 1) := by decide +kernel
theorem dX11_covers_39 : decode cX11_covers 39 = .ok (.getfield 416, 3) := by decide +kernel
theorem dX11_covers_42 : decode cX11_covers 42 = .ok (.if_icmp .ge 90, 3) := by decide +kernel
theorem dX11_covers_45 : decode cX11_covers 45 = .ok (.aload_n 0, 1) := by decide +kernel
theorem dX11_covers_46 : decode cX11_covers 46 = .ok (.getfield 119, 3) := by decide +kernel
theorem dX11_covers_49 : decode cX11_covers 49 = .ok (.bipush 10, 2) := by decide +kernel
theorem dX11_covers_51 : decode cX11_covers 51 = .ok (.iload_n 1, 1) := by decide +kernel
theorem dX11_covers_52 : decode cX11_covers 52 = .ok (.imul, 1) := by decide +kernel
theorem dX11_covers_53 : decode cX11_covers 53 = .ok (.iload 6, 2) := by decide +kernel
theorem dX11_covers_55 : decode cX11_covers 55 = .ok (.iadd, 1) := by decide +kernel
theorem dX11_covers_56 : decode cX11_covers 56 = .ok (.baload, 1) := by decide +kernel
theorem dX11_covers_57 : decode cX11_covers 57 = .ok (.istore 7, 2) := by decide +kernel
theorem dX11_covers_59 : decode cX11_covers 59 = .ok (.iconst 0, 1) := by decide +kernel
theorem dX11_covers_60 : decode cX11_covers 60 = .ok (.istore 8, 2) := by decide +kernel
theorem dX11_covers_62 : decode cX11_covers 62 = .ok (.iload 8, 2) := by decide +kernel
theorem dX11_covers_64 : decode cX11_covers 64 = .ok (.aload_n 0, 1) := by decide +kernel
theorem dX11_covers_65 : decode cX11_covers 65 = .ok (.getfield 483, 3) := by decide +kernel
theorem dX11_covers_68 : decode cX11_covers 68 = .ok (.if_icmp .ge 43, 3) := by decide +kernel
theorem dX11_covers_71 : decode cX11_covers 71 = .ok (.iload 4, 2) := by decide +kernel
theorem dX11_covers_73 : decode cX11_covers 73 = .ok (.ifCond .eq 38, 3) := by decide +kernel
theorem dX11_covers_76 : decode cX11_covers 76 = .ok (.iload 7, 2) := by decide +kernel
theorem dX11_covers_78 : decode cX11_covers 78 = .ok (.ifCond .eq 24, 3) := by decide +kernel
theorem dX11_covers_81 : decode cX11_covers 81 = .ok (.aload_n 0, 1) := by decide +kernel
theorem dX11_covers_82 : decode cX11_covers 82 = .ok (.getfield 125, 3) := by decide +kernel
theorem dX11_covers_85 : decode cX11_covers 85 = .ok (.aload_n 0, 1) := by decide +kernel
theorem dX11_covers_86 : decode cX11_covers 86 = .ok (.getfield 131, 3) := by decide +kernel
theorem dX11_covers_89 : decode cX11_covers 89 = .ok (.iload 8, 2) := by decide +kernel
theorem dX11_covers_91 : decode cX11_covers 91 = .ok (.iaload, 1) := by decide +kernel
theorem dX11_covers_92 : decode cX11_covers 92 = .ok (.iaload, 1) := by decide +kernel
theorem dX11_covers_93 : decode cX11_covers 93 = .ok (.iload 6, 2) := by decide +kernel
theorem dX11_covers_95 : decode cX11_covers 95 = .ok (.if_icmp .eq 7, 3) := by decide +kernel
theorem dX11_covers_98 : decode cX11_covers 98 = .ok (.iconst 1, 1) := by decide +kernel
theorem dX11_covers_99 : decode cX11_covers 99 = .ok (.goto 4, 3) := by decide +kernel
theorem dX11_covers_102 : decode cX11_covers 102 = .ok (.iconst 0, 1) := by decide +kernel
theorem dX11_covers_103 : decode cX11_covers 103 = .ok (.istore 7, 2) := by decide +kernel
theorem dX11_covers_105 : decode cX11_covers 105 = .ok (.iinc 8 1, 3) := by decide +kernel
theorem dX11_covers_108 : decode cX11_covers 108 = .ok (.goto (-46), 3) := by decide +kernel
theorem dX11_covers_111 : decode cX11_covers 111 = .ok (.iload 5, 2) := by decide +kernel
theorem dX11_covers_113 : decode cX11_covers 113 = .ok (.iload 7, 2) := by decide +kernel
theorem dX11_covers_115 : decode cX11_covers 115 = .ok (.ifCond .eq 7, 3) := by decide +kernel
theorem dX11_covers_118 : decode cX11_covers 118 = .ok (.iconst 1, 1) := by decide +kernel
theorem dX11_covers_119 : decode cX11_covers 119 = .ok (.goto 4, 3) := by decide +kernel
theorem dX11_covers_122 : decode cX11_covers 122 = .ok (.iconst 0, 1) := by decide +kernel
theorem dX11_covers_123 : decode cX11_covers 123 = .ok (.iadd, 1) := by decide +kernel
theorem dX11_covers_124 : decode cX11_covers 124 = .ok (.istore 5, 2) := by decide +kernel
theorem dX11_covers_126 : decode cX11_covers 126 = .ok (.iinc 6 1, 3) := by decide +kernel
theorem dX11_covers_129 : decode cX11_covers 129 = .ok (.goto (-93), 3) := by decide +kernel
theorem dX11_covers_132 : decode cX11_covers 132 = .ok (.iload 5, 2) := by decide +kernel
theorem dX11_covers_134 : decode cX11_covers 134 = .ok (.ireturn, 1) := by decide +kernel
theorem dX11_falling_0 : decode cX11_falling 0 = .ok (.aload_n 0, 1) := by decide +kernel
theorem dX11_falling_1 : decode cX11_falling 1 = .ok (.iload_n 1, 1) := by decide +kernel
theorem dX11_falling_2 : decode cX11_falling 2 = .ok (.iload_n 3, 1) := by decide +kernel
theorem dX11_falling_3 : decode cX11_falling 3 = .ok (.iload 4, 2) := by decide +kernel
theorem dX11_falling_5 : decode cX11_falling 5 = .ok (.invokevirtual 501, 3) := by decide +kernel
theorem dX11_falling_8 : decode cX11_falling 8 = .ok (.istore 5, 2) := by decide +kernel
theorem dX11_falling_10 : decode cX11_falling 10 = .ok (.aload_n 0, 1) := by decide +kernel
theorem dX11_falling_11 : decode cX11_falling 11 = .ok (.iload_n 2, 1) := by decide +kernel
theorem dX11_falling_12 : decode cX11_falling 12 = .ok (.iload 5, 2) := by decide +kernel
theorem dX11_falling_14 : decode cX11_falling 14 = .ok (.aload_n 0, 1) := by decide +kernel
theorem dX11_falling_15 : decode cX11_falling 15 = .ok (.getfield 128, 3) := by decide +kernel
theorem dX11_falling_18 : decode cX11_falling 18 = .ok (.invokevirtual 497, 3) := by decide +kernel
theorem dX11_falling_21 : decode cX11_falling 21 = .ok (.ifCond .ne 5, 3) := by decide +kernel
theorem dX11_falling_24 : decode cX11_falling 24 = .ok (.iconst 0, 1) := by decide +kernel
theorem dX11_falling_25 : decode cX11_falling 25 = .ok (.ireturn, 1) := by decide +kernel
theorem dX11_falling_26 : decode cX11_falling 26 = .ok (.iload 5, 2) := by decide +kernel
theorem dX11_falling_28 : decode cX11_falling 28 = .ok (.ifCond .ne 11, 3) := by decide +kernel
theorem dX11_falling_31 : decode cX11_falling 31 = .ok (.aload_n 0, 1) := by decide +kernel
theorem dX11_falling_32 : decode cX11_falling 32 = .ok (.aload_n 0, 1) := by decide +kernel
theorem dX11_falling_33 : decode cX11_falling 33 = .ok (.getfield 483, 3) := by decide +kernel
theorem dX11_falling_36 : decode cX11_falling 36 = .ok (.putfield 491, 3) := by decide +kernel
theorem dX11_falling_39 : decode cX11_falling 39 = .ok (.iconst 1, 1) := by decide +kernel
theorem dX11_falling_40 : decode cX11_falling 40 = .ok (.ireturn, 1) := by decide +kernel
theorem dX11_fall_0 : decode cX11_fall 0 = .ok (.aload_n 0, 1) := by decide +kernel
theorem dX11_fall_1 : decode cX11_fall 1 = .ok (.iload_n 1, 1) := by decide +kernel
theorem dX11_fall_2 : decode cX11_fall 2 = .ok (.invokevirtual 359, 3) := by decide +kernel
theorem dX11_fall_5 : decode cX11_fall 5 = .ok (.ifCond .eq 37, 3) := by decide +kernel
theorem dX11_fall_8 : decode cX11_fall 8 = .ok (.aload_n 0, 1) := by decide +kernel
theorem dX11_fall_9 : decode cX11_fall 9 = .ok (.iload_n 2, 1) := by decide +kernel
theorem dX11_fall_10 : decode cX11_fall 10 = .ok (.invokevirtual 422, 3) := by decide +kernel
theorem dX11_fall_13 : decode cX11_fall 13 = .ok (.ifCond .eq 29, 3) := by decide +kernel
theorem dX11_fall_16 : decode cX11_fall 16 = .ok (.iload_n 3, 1) := by decide +kernel
theorem dX11_fall_17 : decode cX11_fall 17 = .ok (.invokestatic 371, 3) := by decide +kernel
theorem dX11_fall_20 : decode cX11_fall 20 = .ok (.ifCond .eq 22, 3) := by decide +kernel
theorem dX11_fall_23 : decode cX11_fall 23 = .ok (.aload_n 0, 1) := by decide +kernel
theorem dX11_fall_24 : decode cX11_fall 24 = .ok (.iload_n 1, 1) := by decide +kernel
theorem dX11_fall_25 : decode cX11_fall 25 = .ok (.iload_n 2, 1) := by decide +kernel
theorem dX11_fall_26 : decode cX11_fall 26 = .ok (.iload_n 3, 1) := by decide +kernel
theorem dX11_fall_27 : decode cX11_fall 27 = .ok (.iload 4, 2) := by decide +kernel
theorem dX11_fall_29 : decode cX11_fall 29 = .ok (.invokevirtual 506, 3) := by decide +kernel
theorem dX11_fall_32 : decode cX11_fall 32 = .ok (.ifCond .eq 10, 3) := by decide +kernel
theorem dX11_fall_35 : decode cX11_fall 35 = .ok (.aload_n 0, 1) := by decide +kernel
theorem dX11_fall_36 : decode cX11_fall 36 = .ok (.getfield 491, 3) := by decide +kernel
theorem dX11_fall_39 : decode cX11_fall 39 = .ok (.goto 4, 3) := by decide +kernel
theorem dX11_fall_42 : decode cX11_fall 42 = .ok (.iconst (-1), 1) := by decide +kernel
theorem dX11_fall_43 : decode cX11_fall 43 = .ok (.ireturn, 1) := by decide +kernel
theorem dX11_falls_0 : decode cX11_falls 0 = .ok (.aload_n 0, 1) := by decide +kernel
theorem dX11_falls_1 : decode cX11_falls 1 = .ok (.iload_n 1, 1) := by decide +kernel
theorem dX11_falls_2 : decode cX11_falls 2 = .ok (.invokevirtual 333, 3) := by decide +kernel
theorem dX11_falls_5 : decode cX11_falls 5 = .ok (.ifCond .eq 43, 3) := by decide +kernel
theorem dX11_falls_8 : decode cX11_falls 8 = .ok (.aload_n 0, 1) := by decide +kernel
theorem dX11_falls_9 : decode cX11_falls 9 = .ok (.iload_n 2, 1) := by decide +kernel
theorem dX11_falls_10 : decode cX11_falls 10 = .ok (.invokevirtual 422, 3) := by decide +kernel
theorem dX11_falls_13 : decode cX11_falls 13 = .ok (.ifCond .eq 35, 3) := by decide +kernel
theorem dX11_falls_16 : decode cX11_falls 16 = .ok (.iload_n 3, 1) := by decide +kernel
theorem dX11_falls_17 : decode cX11_falls 17 = .ok (.invokestatic 371, 3) := by decide +kernel
theorem dX11_falls_20 : decode cX11_falls 20 = .ok (.ifCond .eq 28, 3) := by decide +kernel
theorem dX11_falls_23 : decode cX11_falls 23 = .ok (.aload_n 0, 1) := by decide +kernel
theorem dX11_falls_24 : decode cX11_falls 24 = .ok (.aload_n 0, 1) := by decide +kernel
theorem dX11_falls_25 : decode cX11_falls 25 = .ok (.iload_n 1, 1) := by decide +kernel
theorem dX11_falls_26 : decode cX11_falls 26 = .ok (.invokevirtual 336, 3) := by decide +kernel
theorem dX11_falls_29 : decode cX11_falls 29 = .ok (.iload_n 2, 1) := by decide +kernel
theorem dX11_falls_30 : decode cX11_falls 30 = .ok (.iload_n 3, 1) := by decide +kernel
theorem dX11_falls_31 : decode cX11_falls 31 = .ok (.iload 4, 2) := by decide +kernel
theorem dX11_falls_33 : decode cX11_falls 33 = .ok (.invokevirtual 506, 3) := by decide +kernel
theorem dX11_falls_36 : decode cX11_falls 36 = .ok (.ifCond .eq 12, 3) := by decide +kernel
theorem dX11_falls_39 : decode cX11_falls 39 = .ok (.aload_n 0, 1) := by decide +kernel
theorem dX11_falls_40 : decode cX11_falls 40 = .ok (.getfield 128, 3) := by decide +kernel
theorem dX11_falls_43 : decode cX11_falls 43 = .ok (.iload_n 1, 1) := by decide +kernel
theorem dX11_falls_44 : decode cX11_falls 44 = .ok (.iaload, 1) := by decide +kernel
theorem dX11_falls_45 : decode cX11_falls 45 = .ok (.goto 4, 3) := by decide +kernel
theorem dX11_falls_48 : decode cX11_falls 48 = .ok (.iconst (-1), 1) := by decide +kernel
theorem dX11_falls_49 : decode cX11_falls 49 = .ok (.ireturn, 1) := by decide +kernel
theorem dX11_learn_0 : decode cX11_learn 0 = .ok (.aload_n 0, 1) := by decide +kernel
theorem dX11_learn_1 : decode cX11_learn 1 = .ok (.iload_n 1, 1) := by decide +kernel
theorem dX11_learn_2 : decode cX11_learn 2 = .ok (.invokevirtual 422, 3) := by decide +kernel
theorem dX11_learn_5 : decode cX11_learn 5 = .ok (.ifCond .eq 18, 3) := by decide +kernel
theorem dX11_learn_8 : decode cX11_learn 8 = .ok (.aload_n 0, 1) := by decide +kernel
theorem dX11_learn_9 : decode cX11_learn 9 = .ok (.iload_n 2, 1) := by decide +kernel
theorem dX11_learn_10 : decode cX11_learn 10 = .ok (.invokevirtual 333, 3) := by decide +kernel
theorem dX11_learn_13 : decode cX11_learn 13 = .ok (.ifCond .eq 10, 3) := by decide +kernel
theorem dX11_learn_16 : decode cX11_learn 16 = .ok (.iload_n 3, 1) := by decide +kernel
theorem dX11_learn_17 : decode cX11_learn 17 = .ok (.invokestatic 371, 3) := by decide +kernel
theorem dX11_learn_20 : decode cX11_learn 20 = .ok (.ifCond .ne 5, 3) := by decide +kernel
theorem dX11_learn_23 : decode cX11_learn 23 = .ok (.iconst (-1), 1) := by decide +kernel
theorem dX11_learn_24 : decode cX11_learn 24 = .ok (.ireturn, 1) := by decide +kernel
theorem dX11_learn_25 : decode cX11_learn 25 = .ok (.aload_n 0, 1) := by decide +kernel
theorem dX11_learn_26 : decode cX11_learn 26 = .ok (.iload_n 1, 1) := by decide +kernel
theorem dX11_learn_27 : decode cX11_learn 27 = .ok (.iload_n 2, 1) := by decide +kernel
theorem dX11_learn_28 : decode cX11_learn 28 = .ok (.iload_n 3, 1) := by decide +kernel
theorem dX11_learn_29 : decode cX11_learn 29 = .ok (.iload 4, 2) := by decide +kernel
theorem dX11_learn_31 : decode cX11_learn 31 = .ok (.invokevirtual 468, 3) := by decide +kernel
theorem dX11_learn_34 : decode cX11_learn 34 = .ok (.ifCond .eq 5, 3) := by decide +kernel
theorem dX11_learn_37 : decode cX11_learn 37 = .ok (.iconst 0, 1) := by decide +kernel
theorem dX11_learn_38 : decode cX11_learn 38 = .ok (.ireturn, 1) := by decide +kernel
theorem dX11_learn_39 : decode cX11_learn 39 = .ok (.iconst 0, 1) := by decide +kernel
theorem dX11_learn_40 : decode cX11_learn 40 = .ok (.istore 5, 2) := by decide +kernel
theorem dX11_learn_42 : decode cX11_learn 42 = .ok (.iconst 0, 1) := by decide +kernel
theorem dX11_learn_43 : decode cX11_learn 43 = .ok (.istore 6, 2) := by decide +kernel
theorem dX11_learn_45 : decode cX11_learn 45 = .ok (.iload 6, 2) := by decide +kernel
theorem dX11_learn_47 : decode cX11_learn 47 = .ok (.aload_n 0, 1) := by decide +kernel
theorem dX11_learn_48 : decode cX11_learn 48 = .ok (.getfield 416, 3) := by decide +kernel
theorem dX11_learn_51 : decode cX11_learn 51 = .ok (.if_icmp .ge 86, 3) := by decide +kernel
theorem dX11_learn_54 : decode cX11_learn 54 = .ok (.iload 5, 2) := by decide +kernel
theorem dX11_learn_56 : decode cX11_learn 56 = .ok (.ifCond .ne 81, 3) := by decide +kernel
theorem dX11_learn_59 : decode cX11_learn 59 = .ok (.iload 6, 2) := by decide +kernel
theorem dX11_learn_61 : decode cX11_learn 61 = .ok (.iload_n 1, 1) := by decide +kernel
theorem dX11_learn_62 : decode cX11_learn 62 = .ok (.if_icmp .eq 69, 3) := by decide +kernel
theorem dX11_learn_65 : decode cX11_learn 65 = .ok (.aload_n 0, 1) := by decide +kernel
theorem dX11_learn_66 : decode cX11_learn 66 = .ok (.iload 6, 2) := by decide +kernel
theorem dX11_learn_68 : decode cX11_learn 68 = .ok (.iload_n 2, 1) := by decide +kernel
theorem dX11_learn_69 : decode cX11_learn 69 = .ok (.iload_n 3, 1) := by decide +kernel
theorem dX11_learn_70 : decode cX11_learn 70 = .ok (.iload 4, 2) := by decide +kernel
theorem dX11_learn_72 : decode cX11_learn 72 = .ok (.invokevirtual 468, 3) := by decide +kernel
theorem dX11_learn_75 : decode cX11_learn 75 = .ok (.ifCond .eq 56, 3) := by decide +kernel
theorem dX11_learn_78 : decode cX11_learn 78 = .ok (.aload_n 0, 1) := by decide +kernel
theorem dX11_learn_79 : decode cX11_learn 79 = .ok (.iload 6, 2) := by decide +kernel
theorem dX11_learn_81 : decode cX11_learn 81 = .ok (.iload_n 3, 1) := by decide +kernel
theorem dX11_learn_82 : decode cX11_learn 82 = .ok (.iload 4, 2) := by decide +kernel
theorem dX11_learn_84 : decode cX11_learn 84 = .ok (.invokevirtual 471, 3) := by decide +kernel
theorem dX11_learn_87 : decode cX11_learn 87 = .ok (.ifCond .ne 44, 3) := by decide +kernel
theorem dX11_learn_90 : decode cX11_learn 90 = .ok (.aload_n 0, 1) := by decide +kernel
theorem dX11_learn_91 : decode cX11_learn 91 = .ok (.iload 6, 2) := by decide +kernel
theorem dX11_learn_93 : decode cX11_learn 93 = .ok (.iload_n 3, 1) := by decide +kernel
theorem dX11_learn_94 : decode cX11_learn 94 = .ok (.iload 4, 2) := by decide +kernel
theorem dX11_learn_96 : decode cX11_learn 96 = .ok (.invokevirtual 474, 3) := by decide +kernel
theorem dX11_learn_99 : decode cX11_learn 99 = .ok (.ifCond .eq 6, 3) := by decide +kernel
theorem dX11_learn_102 : decode cX11_learn 102 = .ok (.goto 29, 3) := by decide +kernel
theorem dX11_learn_105 : decode cX11_learn 105 = .ok (.aload_n 0, 1) := by decide +kernel
theorem dX11_learn_106 : decode cX11_learn 106 = .ok (.iload 6, 2) := by decide +kernel
theorem dX11_learn_108 : decode cX11_learn 108 = .ok (.iload_n 2, 1) := by decide +kernel
theorem dX11_learn_109 : decode cX11_learn 109 = .ok (.iload_n 3, 1) := by decide +kernel
theorem dX11_learn_110 : decode cX11_learn 110 = .ok (.iload 4, 2) := by decide +kernel
theorem dX11_learn_112 : decode cX11_learn 112 = .ok (.invokevirtual 455, 3) := by decide +kernel
theorem dX11_learn_115 : decode cX11_learn 115 = .ok (.aload_n 0, 1) := by decide +kernel
theorem dX11_learn_116 : decode cX11_learn 116 = .ok (.iconst 1, 1) := by decide +kernel
theorem dX11_learn_117 : decode cX11_learn 117 = .ok (.iconst 1, 1) := by decide +kernel
theorem dX11_learn_118 : decode cX11_learn 118 = .ok (.invokevirtual 477, 3) := by decide +kernel
theorem dX11_learn_121 : decode cX11_learn 121 = .ok (.ifCond .eq 7, 3) := by decide +kernel
theorem dX11_learn_124 : decode cX11_learn 124 = .ok (.iconst 1, 1) := by decide +kernel
theorem dX11_learn_125 : decode cX11_learn 125 = .ok (.goto 4, 3) := by decide +kernel
theorem dX11_learn_128 : decode cX11_learn 128 = .ok (.iconst 0, 1) := by decide +kernel
theorem dX11_learn_129 : decode cX11_learn 129 = .ok (.istore 5, 2) := by decide +kernel
theorem dX11_learn_131 : decode cX11_learn 131 = .ok (.iinc 6 1, 3) := by decide +kernel
theorem dX11_learn_134 : decode cX11_learn 134 = .ok (.goto (-89), 3) := by decide +kernel
theorem dX11_learn_137 : decode cX11_learn 137 = .ok (.iload 5, 2) := by decide +kernel
theorem dX11_learn_139 : decode cX11_learn 139 = .ok (.ifCond .ne 5, 3) := by decide +kernel
theorem dX11_learn_142 : decode cX11_learn 142 = .ok (.iconst (-1), 1) := by decide +kernel
theorem dX11_learn_143 : decode cX11_learn 143 = .ok (.ireturn, 1) := by decide +kernel
theorem dX11_learn_144 : decode cX11_learn 144 = .ok (.iconst 0, 1) := by decide +kernel
theorem dX11_learn_145 : decode cX11_learn 145 = .ok (.istore 6, 2) := by decide +kernel
theorem dX11_learn_147 : decode cX11_learn 147 = .ok (.iconst 0, 1) := by decide +kernel
theorem dX11_learn_148 : decode cX11_learn 148 = .ok (.istore 7, 2) := by decide +kernel
theorem dX11_learn_150 : decode cX11_learn 150 = .ok (.iload 7, 2) := by decide +kernel
theorem dX11_learn_152 : decode cX11_learn 152 = .ok (.aload_n 0, 1) := by decide +kernel
theorem dX11_learn_153 : decode cX11_learn 153 = .ok (.invokevirtual 319, 3) := by decide +kernel
theorem dX11_learn_156 : decode cX11_learn 156 = .ok (.if_icmp .ge 51, 3) := by decide +kernel
theorem dX11_learn_159 : decode cX11_learn 159 = .ok (.aload_n 0, 1) := by decide +kernel
theorem dX11_learn_160 : decode cX11_learn 160 = .ok (.iload_n 1, 1) := by decide +kernel
theorem dX11_learn_161 : decode cX11_learn 161 = .ok (.iload 7, 2) := by decide +kernel
theorem dX11_learn_163 : decode cX11_learn 163 = .ok (.iload_n 3, 1) := by decide +kernel
theorem dX11_learn_164 : decode cX11_learn 164 = .ok (.iload 4, 2) := by decide +kernel
theorem dX11_learn_166 : decode cX11_learn 166 = .ok (.invokevirtual 468, 3) := by decide +kernel
theorem dX11_learn_169 : decode cX11_learn 169 = .ok (.ifCond .ne 6, 3) := by decide +kernel
theorem dX11_learn_172 : decode cX11_learn 172 = .ok (.goto 29, 3) := by decide +kernel
theorem dX11_learn_175 : decode cX11_learn 175 = .ok (.aload_n 0, 1) := by decide +kernel
theorem dX11_learn_176 : decode cX11_learn 176 = .ok (.iload_n 2, 1) := by decide +kernel
theorem dX11_learn_177 : decode cX11_learn 177 = .ok (.iload 7, 2) := by decide +kernel
theorem dX11_learn_179 : decode cX11_learn 179 = .ok (.iconst 0, 1) := by decide +kernel
theorem dX11_learn_180 : decode cX11_learn 180 = .ok (.invokevirtual 365, 3) := by decide +kernel
theorem dX11_learn_183 : decode cX11_learn 183 = .ok (.istore 8, 2) := by decide +kernel
theorem dX11_learn_185 : decode cX11_learn 185 = .ok (.iload 8, 2) := by decide +kernel
theorem dX11_learn_187 : decode cX11_learn 187 = .ok (.iload 6, 2) := by decide +kernel
theorem dX11_learn_189 : decode cX11_learn 189 = .ok (.if_icmp .le 8, 3) := by decide +kernel
theorem dX11_learn_192 : decode cX11_learn 192 = .ok (.iload 8, 2) := by decide +kernel
theorem dX11_learn_194 : decode cX11_learn 194 = .ok (.goto 5, 3) := by decide +kernel
theorem dX11_learn_197 : decode cX11_learn 197 = .ok (.iload 6, 2) := by decide +kernel
theorem dX11_learn_199 : decode cX11_learn 199 = .ok (.istore 6, 2) := by decide +kernel
theorem dX11_learn_201 : decode cX11_learn 201 = .ok (.iinc 7 1, 3) := by decide +kernel
theorem dX11_learn_204 : decode cX11_learn 204 = .ok (.goto (-54), 3) := by decide +kernel
theorem dX11_learn_207 : decode cX11_learn 207 = .ok (.aload_n 0, 1) := by decide +kernel
theorem dX11_learn_208 : decode cX11_learn 208 = .ok (.iload_n 2, 1) := by decide +kernel
theorem dX11_learn_209 : decode cX11_learn 209 = .ok (.invokevirtual 339, 3) := by decide +kernel
theorem dX11_learn_212 : decode cX11_learn 212 = .ok (.iload 6, 2) := by decide +kernel
theorem dX11_learn_214 : decode cX11_learn 214 = .ok (.isub, 1) := by decide +kernel
theorem dX11_learn_215 : decode cX11_learn 215 = .ok (.ireturn, 1) := by decide +kernel
theorem dX11_rehearse_0 : decode cX11_rehearse 0 = .ok (.aload_n 0, 1) := by decide +kernel
theorem dX11_rehearse_1 : decode cX11_rehearse 1 = .ok (.iload_n 1, 1) := by decide +kernel
theorem dX11_rehearse_2 : decode cX11_rehearse 2 = .ok (.invokevirtual 359, 3) := by decide +kernel
theorem dX11_rehearse_5 : decode cX11_rehearse 5 = .ok (.ifCond .eq 19, 3) := by decide +kernel
theorem dX11_rehearse_8 : decode cX11_rehearse 8 = .ok (.iload_n 2, 1) := by decide +kernel
theorem dX11_rehearse_9 : decode cX11_rehearse 9 = .ok (.invokestatic 371, 3) := by decide +kernel
theorem dX11_rehearse_12 : decode cX11_rehearse 12 = .ok (.ifCond .eq 12, 3) := by decide +kernel
theorem dX11_rehearse_15 : decode cX11_rehearse 15 = .ok (.aload_n 0, 1) := by decide +kernel
theorem dX11_rehearse_16 : decode cX11_rehearse 16 = .ok (.getfield 278, 3) := by decide +kernel
theorem dX11_rehearse_19 : decode cX11_rehearse 19 = .ok (.bipush 9, 2) := by decide +kernel
theorem dX11_rehearse_21 : decode cX11_rehearse 21 = .ok (.if_icmp .ne 5, 3) := by decide +kernel
theorem dX11_rehearse_24 : decode cX11_rehearse 24 = .ok (.iconst (-1), 1) := by decide +kernel
theorem dX11_rehearse_25 : decode cX11_rehearse 25 = .ok (.ireturn, 1) := by decide +kernel
theorem dX11_rehearse_26 : decode cX11_rehearse 26 = .ok (.aload_n 0, 1) := by decide +kernel
theorem dX11_rehearse_27 : decode cX11_rehearse 27 = .ok (.getfield 143, 3) := by decide +kernel
theorem dX11_rehearse_30 : decode cX11_rehearse 30 = .ok (.aload_n 0, 1) := by decide +kernel
theorem dX11_rehearse_31 : decode cX11_rehearse 31 = .ok (.getfield 278, 3) := by decide +kernel
theorem dX11_rehearse_34 : decode cX11_rehearse 34 = .ok (.iload_n 1, 1) := by decide +kernel
theorem dX11_rehearse_35 : decode cX11_rehearse 35 = .ok (.iastore, 1) := by decide +kernel
theorem dX11_rehearse_36 : decode cX11_rehearse 36 = .ok (.aload_n 0, 1) := by decide +kernel
theorem dX11_rehearse_37 : decode cX11_rehearse 37 = .ok (.getfield 146, 3) := by decide +kernel
theorem dX11_rehearse_40 : decode cX11_rehearse 40 = .ok (.aload_n 0, 1) := by decide +kernel
theorem dX11_rehearse_41 : decode cX11_rehearse 41 = .ok (.getfield 278, 3) := by decide +kernel
theorem dX11_rehearse_44 : decode cX11_rehearse 44 = .ok (.iload_n 2, 1) := by decide +kernel
theorem dX11_rehearse_45 : decode cX11_rehearse 45 = .ok (.iastore, 1) := by decide +kernel
theorem dX11_rehearse_46 : decode cX11_rehearse 46 = .ok (.aload_n 0, 1) := by decide +kernel
theorem dX11_rehearse_47 : decode cX11_rehearse 47 = .ok (.dup, 1) := by decide +kernel
theorem dX11_rehearse_48 : decode cX11_rehearse 48 = .ok (.getfield 278, 3) := by decide +kernel
theorem dX11_rehearse_51 : decode cX11_rehearse 51 = .ok (.iconst 1, 1) := by decide +kernel
theorem dX11_rehearse_52 : decode cX11_rehearse 52 = .ok (.iadd, 1) := by decide +kernel
theorem dX11_rehearse_53 : decode cX11_rehearse 53 = .ok (.putfield 278, 3) := by decide +kernel
theorem dX11_rehearse_56 : decode cX11_rehearse 56 = .ok (.aload_n 0, 1) := by decide +kernel
theorem dX11_rehearse_57 : decode cX11_rehearse 57 = .ok (.getfield 278, 3) := by decide +kernel
theorem dX11_rehearse_60 : decode cX11_rehearse 60 = .ok (.iconst 1, 1) := by decide +kernel
theorem dX11_rehearse_61 : decode cX11_rehearse 61 = .ok (.isub, 1) := by decide +kernel
theorem dX11_rehearse_62 : decode cX11_rehearse 62 = .ok (.ireturn, 1) := by decide +kernel
theorem dX11_rooms_0 : decode cX11_rooms 0 = .ok (.iload_n 1, 1) := by decide +kernel
theorem dX11_rooms_1 : decode cX11_rooms 1 = .ok (.iconst 1, 1) := by decide +kernel
theorem dX11_rooms_2 : decode cX11_rooms 2 = .ok (.iconst 5, 1) := by decide +kernel
theorem dX11_rooms_3 : decode cX11_rooms 3 = .ok (.invokestatic 323, 3) := by decide +kernel
theorem dX11_rooms_6 : decode cX11_rooms 6 = .ok (.ifCond .ne 5, 3) := by decide +kernel
theorem dX11_rooms_9 : decode cX11_rooms 9 = .ok (.iconst 0, 1) := by decide +kernel
theorem dX11_rooms_10 : decode cX11_rooms 10 = .ok (.ireturn, 1) := by decide +kernel
theorem dX11_rooms_11 : decode cX11_rooms 11 = .ok (.aload_n 0, 1) := by decide +kernel
theorem dX11_rooms_12 : decode cX11_rooms 12 = .ok (.iload_n 1, 1) := by decide +kernel
theorem dX11_rooms_13 : decode cX11_rooms 13 = .ok (.putfield 161, 3) := by decide +kernel
theorem dX11_rooms_16 : decode cX11_rooms 16 = .ok (.iconst 1, 1) := by decide +kernel
theorem dX11_rooms_17 : decode cX11_rooms 17 = .ok (.ireturn, 1) := by decide +kernel
theorem dX11_fits_0 : decode cX11_fits 0 = .ok (.iconst 0, 1) := by decide +kernel
theorem dX11_fits_1 : decode cX11_fits 1 = .ok (.istore_n 2, 1) := by decide +kernel
theorem dX11_fits_2 : decode cX11_fits 2 = .ok (.iload_n 2, 1) := by decide +kernel
theorem dX11_fits_3 : decode cX11_fits 3 = .ok (.bipush 9, 2) := by decide +kernel
theorem dX11_fits_5 : decode cX11_fits 5 = .ok (.if_icmp .ge 23, 3) := by decide +kernel
theorem dX11_fits_8 : decode cX11_fits 8 = .ok (.aload_n 0, 1) := by decide +kernel
theorem dX11_fits_9 : decode cX11_fits 9 = .ok (.getfield 155, 3) := by decide +kernel
theorem dX11_fits_12 : decode cX11_fits 12 = .ok (.iload_n 2, 1) := by decide +kernel
theorem dX11_fits_13 : decode cX11_fits 13 = .ok (.iconst 0, 1) := by decide +kernel
theorem dX11_fits_14 : decode cX11_fits 14 = .ok (.iastore, 1) := by decide +kernel
theorem dX11_fits_15 : decode cX11_fits 15 = .ok (.aload_n 0, 1) := by decide +kernel
theorem dX11_fits_16 : decode cX11_fits 16 = .ok (.getfield 158, 3) := by decide +kernel
theorem dX11_fits_19 : decode cX11_fits 19 = .ok (.iload_n 2, 1) := by decide +kernel
theorem dX11_fits_20 : decode cX11_fits 20 = .ok (.iconst 0, 1) := by decide +kernel
theorem dX11_fits_21 : decode cX11_fits 21 = .ok (.iastore, 1) := by decide +kernel
theorem dX11_fits_22 : decode cX11_fits 22 = .ok (.iinc 2 1, 3) := by decide +kernel
theorem dX11_fits_25 : decode cX11_fits 25 = .ok (.goto (-23), 3) := by decide +kernel
theorem dX11_fits_28 : decode cX11_fits 28 = .ok (.iconst 0, 1) := by decide +kernel
theorem dX11_fits_29 : decode cX11_fits 29 = .ok (.istore_n 2, 1) := by decide +kernel
theorem dX11_fits_30 : decode cX11_fits 30 = .ok (.aload_n 0, 1) := by decide +kernel
theorem dX11_fits_31 : decode cX11_fits 31 = .ok (.getfield 278, 3) := by decide +kernel
theorem dX11_fits_34 : decode cX11_fits 34 = .ok (.ifCond .le 10, 3) := by decide +kernel
theorem dX11_fits_37 : decode cX11_fits 37 = .ok (.aload_n 0, 1) := by decide +kernel
theorem dX11_fits_38 : decode cX11_fits 38 = .ok (.getfield 152, 3) := by decide +kernel
theorem dX11_fits_41 : decode cX11_fits 41 = .ok (.iconst 0, 1) := by decide +kernel
theorem dX11_fits_42 : decode cX11_fits 42 = .ok (.iconst (-1), 1) := by decide +kernel
theorem dX11_fits_43 : decode cX11_fits 43 = .ok (.iastore, 1) := by decide +kernel
theorem dX11_fits_44 : decode cX11_fits 44 = .ok (.iload_n 2, 1) := by decide +kernel
theorem dX11_fits_45 : decode cX11_fits 45 = .ok (.ifCond .lt 199, 3) := by decide +kernel
theorem dX11_fits_48 : decode cX11_fits 48 = .ok (.iload_n 2, 1) := by decide +kernel
theorem dX11_fits_49 : decode cX11_fits 49 = .ok (.aload_n 0, 1) := by decide +kernel
theorem dX11_fits_50 : decode cX11_fits 50 = .ok (.getfield 278, 3) := by decide +kernel
theorem dX11_fits_53 : decode cX11_fits 53 = .ok (.if_icmp .ge 191, 3) := by decide +kernel
theorem dX11_fits_56 : decode cX11_fits 56 = .ok (.aload_n 0, 1) := by decide +kernel
theorem dX11_fits_57 : decode cX11_fits 57 = .ok (.getfield 152, 3) := by decide +kernel
theorem dX11_fits_60 : decode cX11_fits 60 = .ok (.iload_n 2, 1) := by decide +kernel
theorem dX11_fits_61 : decode cX11_fits 61 = .ok (.iaload, 1) := by decide +kernel
theorem dX11_fits_62 : decode cX11_fits 62 = .ok (.ifCond .lt 38, 3) := by decide +kernel
theorem dX11_fits_65 : decode cX11_fits 65 = .ok (.aload_n 0, 1) := by decide +kernel
theorem dX11_fits_66 : decode cX11_fits 66 = .ok (.getfield 155, 3) := by decide +kernel
theorem dX11_fits_69 : decode cX11_fits 69 = .ok (.aload_n 0, 1) := by decide +kernel
theorem dX11_fits_70 : decode cX11_fits 70 = .ok (.getfield 152, 3) := by decide +kernel
theorem dX11_fits_73 : decode cX11_fits 73 = .ok (.iload_n 2, 1) := by decide +kernel
theorem dX11_fits_74 : decode cX11_fits 74 = .ok (.iaload, 1) := by decide +kernel
theorem dX11_fits_75 : decode cX11_fits 75 = .ok (.dup2, 1) := by decide +kernel
theorem dX11_fits_76 : decode cX11_fits 76 = .ok (.iaload, 1) := by decide +kernel
theorem dX11_fits_77 : decode cX11_fits 77 = .ok (.iconst 1, 1) := by decide +kernel
theorem dX11_fits_78 : decode cX11_fits 78 = .ok (.isub, 1) := by decide +kernel
theorem dX11_fits_79 : decode cX11_fits 79 = .ok (.iastore, 1) := by decide +kernel
theorem dX11_fits_80 : decode cX11_fits 80 = .ok (.aload_n 0, 1) := by decide +kernel
theorem dX11_fits_81 : decode cX11_fits 81 = .ok (.getfield 158, 3) := by decide +kernel
theorem dX11_fits_84 : decode cX11_fits 84 = .ok (.aload_n 0, 1) := by decide +kernel
theorem dX11_fits_85 : decode cX11_fits 85 = .ok (.getfield 152, 3) := by decide +kernel
theorem dX11_fits_88 : decode cX11_fits 88 = .ok (.iload_n 2, 1) := by decide +kernel
theorem dX11_fits_89 : decode cX11_fits 89 = .ok (.iaload, 1) := by decide +kernel
theorem dX11_fits_90 : decode cX11_fits 90 = .ok (.dup2, 1) := by decide +kernel
theorem dX11_fits_91 : decode cX11_fits 91 = .ok (.iaload, 1) := by decide +kernel
theorem dX11_fits_92 : decode cX11_fits 92 = .ok (.aload_n 0, 1) := by decide +kernel
theorem dX11_fits_93 : decode cX11_fits 93 = .ok (.getfield 149, 3) := by decide +kernel
theorem dX11_fits_96 : decode cX11_fits 96 = .ok (.iload_n 2, 1) := by decide +kernel
theorem dX11_fits_97 : decode cX11_fits 97 = .ok (.iaload, 1) := by decide +kernel
theorem dX11_fits_98 : decode cX11_fits 98 = .ok (.isub, 1) := by decide +kernel
theorem dX11_fits_99 : decode cX11_fits 99 = .ok (.iastore, 1) := by decide +kernel
theorem dX11_fits_100 : decode cX11_fits 100 = .ok (.aload_n 0, 1) := by decide +kernel
theorem dX11_fits_101 : decode cX11_fits 101 = .ok (.getfield 152, 3) := by decide +kernel
theorem dX11_fits_104 : decode cX11_fits 104 = .ok (.iload_n 2, 1) := by decide +kernel
theorem dX11_fits_105 : decode cX11_fits 105 = .ok (.dup2, 1) := by decide +kernel
theorem dX11_fits_106 : decode cX11_fits 106 = .ok (.iaload, 1) := by decide +kernel
theorem dX11_fits_107 : decode cX11_fits 107 = .ok (.iconst 1, 1) := by decide +kernel
theorem dX11_fits_108 : decode cX11_fits 108 = .ok (.iadd, 1) := by decide +kernel
theorem dX11_fits_109 : decode cX11_fits 109 = .ok (.iastore, 1) := by decide +kernel
theorem dX11_fits_110 : decode cX11_fits 110 = .ok (.aload_n 0, 1) := by decide +kernel
theorem dX11_fits_111 : decode cX11_fits 111 = .ok (.getfield 152, 3) := by decide +kernel
theorem dX11_fits_114 : decode cX11_fits 114 = .ok (.iload_n 2, 1) := by decide +kernel
theorem dX11_fits_115 : decode cX11_fits 115 = .ok (.iaload, 1) := by decide +kernel
theorem dX11_fits_116 : decode cX11_fits 116 = .ok (.iload_n 1, 1) := by decide +kernel
theorem dX11_fits_117 : decode cX11_fits 117 = .ok (.if_icmp .ge 55, 3) := by decide +kernel
theorem dX11_fits_120 : decode cX11_fits 120 = .ok (.aload_n 0, 1) := by decide +kernel
theorem dX11_fits_121 : decode cX11_fits 121 = .ok (.getfield 155, 3) := by decide +kernel
theorem dX11_fits_124 : decode cX11_fits 124 = .ok (.aload_n 0, 1) := by decide +kernel
theorem dX11_fits_125 : decode cX11_fits 125 = .ok (.getfield 152, 3) := by decide +kernel
theorem dX11_fits_128 : decode cX11_fits 128 = .ok (.iload_n 2, 1) := by decide +kernel
theorem dX11_fits_129 : decode cX11_fits 129 = .ok (.iaload, 1) := by decide +kernel
theorem dX11_fits_130 : decode cX11_fits 130 = .ok (.iaload, 1) := by decide +kernel
theorem dX11_fits_131 : decode cX11_fits 131 = .ok (.aload_n 0, 1) := by decide +kernel
theorem dX11_fits_132 : decode cX11_fits 132 = .ok (.getfield 161, 3) := by decide +kernel
theorem dX11_fits_135 : decode cX11_fits 135 = .ok (.if_icmp .eq 24, 3) := by decide +kernel
theorem dX11_fits_138 : decode cX11_fits 138 = .ok (.aload_n 0, 1) := by decide +kernel
theorem dX11_fits_139 : decode cX11_fits 139 = .ok (.getfield 158, 3) := by decide +kernel
theorem dX11_fits_142 : decode cX11_fits 142 = .ok (.aload_n 0, 1) := by decide +kernel
theorem dX11_fits_143 : decode cX11_fits 143 = .ok (.getfield 152, 3) := by decide +kernel
theorem dX11_fits_146 : decode cX11_fits 146 = .ok (.iload_n 2, 1) := by decide +kernel
theorem dX11_fits_147 : decode cX11_fits 147 = .ok (.iaload, 1) := by decide +kernel
theorem dX11_fits_148 : decode cX11_fits 148 = .ok (.iaload, 1) := by decide +kernel
theorem dX11_fits_149 : decode cX11_fits 149 = .ok (.aload_n 0, 1) := by decide +kernel
theorem dX11_fits_150 : decode cX11_fits 150 = .ok (.getfield 149, 3) := by decide +kernel
theorem dX11_fits_153 : decode cX11_fits 153 = .ok (.iload_n 2, 1) := by decide +kernel
theorem dX11_fits_154 : decode cX11_fits 154 = .ok (.iaload, 1) := by decide +kernel
theorem dX11_fits_155 : decode cX11_fits 155 = .ok (.iand, 1) := by decide +kernel
theorem dX11_fits_156 : decode cX11_fits 156 = .ok (.ifCond .eq 16, 3) := by decide +kernel
theorem dX11_fits_159 : decode cX11_fits 159 = .ok (.aload_n 0, 1) := by decide +kernel
theorem dX11_fits_160 : decode cX11_fits 160 = .ok (.getfield 152, 3) := by decide +kernel
theorem dX11_fits_163 : decode cX11_fits 163 = .ok (.iload_n 2, 1) := by decide +kernel
theorem dX11_fits_164 : decode cX11_fits 164 = .ok (.dup2, 1) := by decide +kernel
theorem dX11_fits_165 : decode cX11_fits 165 = .ok (.iaload, 1) := by decide +kernel
theorem dX11_fits_166 : decode cX11_fits 166 = .ok (.iconst 1, 1) := by decide +kernel
theorem dX11_fits_167 : decode cX11_fits 167 = .ok (.iadd, 1) := by decide +kernel
theorem dX11_fits_168 : decode cX11_fits 168 = .ok (.iastore, 1) := by decide +kernel
theorem dX11_fits_169 : decode cX11_fits 169 = .ok (.goto (-59), 3) := by decide +kernel
theorem dX11_fits_172 : decode cX11_fits 172 = .ok (.aload_n 0, 1) := by decide +kernel
theorem dX11_fits_173 : decode cX11_fits 173 = .ok (.getfield 152, 3) := by decide +kernel
theorem dX11_fits_176 : decode cX11_fits 176 = .ok (.iload_n 2, 1) := by decide +kernel
theorem dX11_fits_177 : decode cX11_fits 177 = .ok (.iaload, 1) := by decide +kernel
theorem dX11_fits_178 : decode cX11_fits 178 = .ok (.iload_n 1, 1) := by decide +kernel
theorem dX11_fits_179 : decode cX11_fits 179 = .ok (.if_icmp .ne 9, 3) := by decide +kernel
theorem dX11_fits_182 : decode cX11_fits 182 = .ok (.iinc 2 (-1), 3) := by decide +kernel
theorem dX11_fits_185 : decode cX11_fits 185 = .ok (.goto (-141), 3) := by decide +kernel
theorem dX11_fits_188 : decode cX11_fits 188 = .ok (.aload_n 0, 1) := by decide +kernel
theorem dX11_fits_189 : decode cX11_fits 189 = .ok (.getfield 155, 3) := by decide +kernel
theorem dX11_fits_192 : decode cX11_fits 192 = .ok (.aload_n 0, 1) := by decide +kernel
theorem dX11_fits_193 : decode cX11_fits 193 = .ok (.getfield 152, 3) := by decide +kernel
theorem dX11_fits_196 : decode cX11_fits 196 = .ok (.iload_n 2, 1) := by decide +kernel
theorem dX11_fits_197 : decode cX11_fits 197 = .ok (.iaload, 1) := by decide +kernel
theorem dX11_fits_198 : decode cX11_fits 198 = .ok (.dup2, 1) := by decide +kernel
theorem dX11_fits_199 : decode cX11_fits 199 = .ok (.iaload, 1) := by decide +kernel
theorem dX11_fits_200 : decode cX11_fits 200 = .ok (.iconst 1, 1) := by decide +kernel
theorem dX11_fits_201 : decode cX11_fits 201 = .ok (.iadd, 1) := by decide +kernel
theorem dX11_fits_202 : decode cX11_fits 202 = .ok (.iastore, 1) := by decide +kernel
theorem dX11_fits_203 : decode cX11_fits 203 = .ok (.aload_n 0, 1) := by decide +kernel
theorem dX11_fits_204 : decode cX11_fits 204 = .ok (.getfield 158, 3) := by decide +kernel
theorem dX11_fits_207 : decode cX11_fits 207 = .ok (.aload_n 0, 1) := by decide +kernel
theorem dX11_fits_208 : decode cX11_fits 208 = .ok (.getfield 152, 3) := by decide +kernel
theorem dX11_fits_211 : decode cX11_fits 211 = .ok (.iload_n 2, 1) := by decide +kernel
theorem dX11_fits_212 : decode cX11_fits 212 = .ok (.iaload, 1) := by decide +kernel
theorem dX11_fits_213 : decode cX11_fits 213 = .ok (.dup2, 1) := by decide +kernel
theorem dX11_fits_214 : decode cX11_fits 214 = .ok (.iaload, 1) := by decide +kernel
theorem dX11_fits_215 : decode cX11_fits 215 = .ok (.aload_n 0, 1) := by decide +kernel
theorem dX11_fits_216 : decode cX11_fits 216 = .ok (.getfield 149, 3) := by decide +kernel
theorem dX11_fits_219 : decode cX11_fits 219 = .ok (.iload_n 2, 1) := by decide +kernel
theorem dX11_fits_220 : decode cX11_fits 220 = .ok (.iaload, 1) := by decide +kernel
theorem dX11_fits_221 : decode cX11_fits 221 = .ok (.iadd, 1) := by decide +kernel
theorem dX11_fits_222 : decode cX11_fits 222 = .ok (.iastore, 1) := by decide +kernel
theorem dX11_fits_223 : decode cX11_fits 223 = .ok (.iinc 2 1, 3) := by decide +kernel
theorem dX11_fits_226 : decode cX11_fits 226 = .ok (.iload_n 2, 1) := by decide +kernel
theorem dX11_fits_227 : decode cX11_fits 227 = .ok (.aload_n 0, 1) := by decide +kernel
theorem dX11_fits_228 : decode cX11_fits 228 = .ok (.getfield 278, 3) := by decide +kernel
theorem dX11_fits_231 : decode cX11_fits 231 = .ok (.if_icmp .ge (-187), 3) := by decide +kernel
theorem dX11_fits_234 : decode cX11_fits 234 = .ok (.aload_n 0, 1) := by decide +kernel
theorem dX11_fits_235 : decode cX11_fits 235 = .ok (.getfield 152, 3) := by decide +kernel
theorem dX11_fits_238 : decode cX11_fits 238 = .ok (.iload_n 2, 1) := by decide +kernel
theorem dX11_fits_239 : decode cX11_fits 239 = .ok (.iconst (-1), 1) := by decide +kernel
theorem dX11_fits_240 : decode cX11_fits 240 = .ok (.iastore, 1) := by decide +kernel
theorem dX11_fits_241 : decode cX11_fits 241 = .ok (.goto (-197), 3) := by decide +kernel
theorem dX11_fits_244 : decode cX11_fits 244 = .ok (.iload_n 2, 1) := by decide +kernel
theorem dX11_fits_245 : decode cX11_fits 245 = .ok (.ifCond .lt 7, 3) := by decide +kernel
theorem dX11_fits_248 : decode cX11_fits 248 = .ok (.iconst 1, 1) := by decide +kernel
theorem dX11_fits_249 : decode cX11_fits 249 = .ok (.goto 4, 3) := by decide +kernel
theorem dX11_fits_252 : decode cX11_fits 252 = .ok (.iconst 0, 1) := by decide +kernel
theorem dX11_fits_253 : decode cX11_fits 253 = .ok (.ireturn, 1) := by decide +kernel
theorem dX11_week_0 : decode cX11_week 0 = .ok (.iconst 0, 1) := by decide +kernel
theorem dX11_week_1 : decode cX11_week 1 = .ok (.istore_n 2, 1) := by decide +kernel
theorem dX11_week_2 : decode cX11_week 2 = .ok (.iload_n 2, 1) := by decide +kernel
theorem dX11_week_3 : decode cX11_week 3 = .ok (.aload_n 0, 1) := by decide +kernel
theorem dX11_week_4 : decode cX11_week 4 = .ok (.getfield 278, 3) := by decide +kernel
theorem dX11_week_7 : decode cX11_week 7 = .ok (.if_icmp .ge 79, 3) := by decide +kernel
theorem dX11_week_10 : decode cX11_week 10 = .ok (.aload_n 0, 1) := by decide +kernel
theorem dX11_week_11 : decode cX11_week 11 = .ok (.getfield 149, 3) := by decide +kernel
theorem dX11_week_14 : decode cX11_week 14 = .ok (.iload_n 2, 1) := by decide +kernel
theorem dX11_week_15 : decode cX11_week 15 = .ok (.iconst 0, 1) := by decide +kernel
theorem dX11_week_16 : decode cX11_week 16 = .ok (.iastore, 1) := by decide +kernel
theorem dX11_week_17 : decode cX11_week 17 = .ok (.aload_n 0, 1) := by decide +kernel
theorem dX11_week_18 : decode cX11_week 18 = .ok (.aload_n 0, 1) := by decide +kernel
theorem dX11_week_19 : decode cX11_week 19 = .ok (.getfield 143, 3) := by decide +kernel
theorem dX11_week_22 : decode cX11_week 22 = .ok (.iload_n 2, 1) := by decide +kernel
theorem dX11_week_23 : decode cX11_week 23 = .ok (.iaload, 1) := by decide +kernel
theorem dX11_week_24 : decode cX11_week 24 = .ok (.aload_n 0, 1) := by decide +kernel
theorem dX11_week_25 : decode cX11_week 25 = .ok (.getfield 146, 3) := by decide +kernel
theorem dX11_week_28 : decode cX11_week 28 = .ok (.iload_n 2, 1) := by decide +kernel
theorem dX11_week_29 : decode cX11_week 29 = .ok (.iaload, 1) := by decide +kernel
theorem dX11_week_30 : decode cX11_week 30 = .ok (.iload_n 1, 1) := by decide +kernel
theorem dX11_week_31 : decode cX11_week 31 = .ok (.invokevirtual 501, 3) := by decide +kernel
theorem dX11_week_34 : decode cX11_week 34 = .ok (.istore_n 3, 1) := by decide +kernel
theorem dX11_week_35 : decode cX11_week 35 = .ok (.iconst 0, 1) := by decide +kernel
theorem dX11_week_36 : decode cX11_week 36 = .ok (.istore 4, 2) := by decide +kernel
theorem dX11_week_38 : decode cX11_week 38 = .ok (.iload 4, 2) := by decide +kernel
theorem dX11_week_40 : decode cX11_week 40 = .ok (.aload_n 0, 1) := by decide +kernel
theorem dX11_week_41 : decode cX11_week 41 = .ok (.getfield 483, 3) := by decide +kernel
theorem dX11_week_44 : decode cX11_week 44 = .ok (.if_icmp .ge 36, 3) := by decide +kernel
theorem dX11_week_47 : decode cX11_week 47 = .ok (.iload_n 3, 1) := by decide +kernel
theorem dX11_week_48 : decode cX11_week 48 = .ok (.ifCond .eq 32, 3) := by decide +kernel
theorem dX11_week_51 : decode cX11_week 51 = .ok (.aload_n 0, 1) := by decide +kernel
theorem dX11_week_52 : decode cX11_week 52 = .ok (.getfield 149, 3) := by decide +kernel
theorem dX11_week_55 : decode cX11_week 55 = .ok (.iload_n 2, 1) := by decide +kernel
theorem dX11_week_56 : decode cX11_week 56 = .ok (.dup2, 1) := by decide +kernel
theorem dX11_week_57 : decode cX11_week 57 = .ok (.iaload, 1) := by decide +kernel
theorem dX11_week_58 : decode cX11_week 58 = .ok (.iconst 1, 1) := by decide +kernel
theorem dX11_week_59 : decode cX11_week 59 = .ok (.aload_n 0, 1) := by decide +kernel
theorem dX11_week_60 : decode cX11_week 60 = .ok (.getfield 125, 3) := by decide +kernel
theorem dX11_week_63 : decode cX11_week 63 = .ok (.aload_n 0, 1) := by decide +kernel
theorem dX11_week_64 : decode cX11_week 64 = .ok (.getfield 131, 3) := by decide +kernel
theorem dX11_week_67 : decode cX11_week 67 = .ok (.iload 4, 2) := by decide +kernel
theorem dX11_week_69 : decode cX11_week 69 = .ok (.iaload, 1) := by decide +kernel
theorem dX11_week_70 : decode cX11_week 70 = .ok (.iaload, 1) := by decide +kernel
theorem dX11_week_71 : decode cX11_week 71 = .ok (.ishl, 1) := by decide +kernel
theorem dX11_week_72 : decode cX11_week 72 = .ok (.ior, 1) := by decide +kernel
theorem dX11_week_73 : decode cX11_week 73 = .ok (.iastore, 1) := by decide +kernel
theorem dX11_week_74 : decode cX11_week 74 = .ok (.iinc 4 1, 3) := by decide +kernel
theorem dX11_week_77 : decode cX11_week 77 = .ok (.goto (-39), 3) := by decide +kernel
theorem dX11_week_80 : decode cX11_week 80 = .ok (.iinc 2 1, 3) := by decide +kernel
theorem dX11_week_83 : decode cX11_week 83 = .ok (.goto (-81), 3) := by decide +kernel
theorem dX11_week_86 : decode cX11_week 86 = .ok (.aload_n 0, 1) := by decide +kernel
theorem dX11_week_87 : decode cX11_week 87 = .ok (.iconst 0, 1) := by decide +kernel
theorem dX11_week_88 : decode cX11_week 88 = .ok (.putfield 509, 3) := by decide +kernel
theorem dX11_week_91 : decode cX11_week 91 = .ok (.aload_n 0, 1) := by decide +kernel
theorem dX11_week_92 : decode cX11_week 92 = .ok (.getfield 509, 3) := by decide +kernel
theorem dX11_week_95 : decode cX11_week 95 = .ok (.aload_n 0, 1) := by decide +kernel
theorem dX11_week_96 : decode cX11_week 96 = .ok (.getfield 161, 3) := by decide +kernel
theorem dX11_week_99 : decode cX11_week 99 = .ok (.imul, 1) := by decide +kernel
theorem dX11_week_100 : decode cX11_week 100 = .ok (.aload_n 0, 1) := by decide +kernel
theorem dX11_week_101 : decode cX11_week 101 = .ok (.getfield 278, 3) := by decide +kernel
theorem dX11_week_104 : decode cX11_week 104 = .ok (.if_icmp .lt 14, 3) := by decide +kernel
theorem dX11_week_107 : decode cX11_week 107 = .ok (.aload_n 0, 1) := by decide +kernel
theorem dX11_week_108 : decode cX11_week 108 = .ok (.aload_n 0, 1) := by decide +kernel
theorem dX11_week_109 : decode cX11_week 109 = .ok (.getfield 509, 3) := by decide +kernel
theorem dX11_week_112 : decode cX11_week 112 = .ok (.invokevirtual 512, 3) := by decide +kernel
theorem dX11_week_115 : decode cX11_week 115 = .ok (.ifCond .ne 16, 3) := by decide +kernel
theorem dX11_week_118 : decode cX11_week 118 = .ok (.aload_n 0, 1) := by decide +kernel
theorem dX11_week_119 : decode cX11_week 119 = .ok (.dup, 1) := by decide +kernel
theorem dX11_week_120 : decode cX11_week 120 = .ok (.getfield 509, 3) := by decide +kernel
theorem dX11_week_123 : decode cX11_week 123 = .ok (.iconst 1, 1) := by decide +kernel
theorem dX11_week_124 : decode cX11_week 124 = .ok (.iadd, 1) := by decide +kernel
theorem dX11_week_125 : decode cX11_week 125 = .ok (.putfield 509, 3) := by decide +kernel
theorem dX11_week_128 : decode cX11_week 128 = .ok (.goto (-37), 3) := by decide +kernel
theorem dX11_week_131 : decode cX11_week 131 = .ok (.aload_n 0, 1) := by decide +kernel
theorem dX11_week_132 : decode cX11_week 132 = .ok (.getfield 509, 3) := by decide +kernel
theorem dX11_week_135 : decode cX11_week 135 = .ok (.ireturn, 1) := by decide +kernel
theorem dX11_hour_0 : decode cX11_hour 0 = .ok (.iload_n 1, 1) := by decide +kernel
theorem dX11_hour_1 : decode cX11_hour 1 = .ok (.iconst 0, 1) := by decide +kernel
theorem dX11_hour_2 : decode cX11_hour 2 = .ok (.aload_n 0, 1) := by decide +kernel
theorem dX11_hour_3 : decode cX11_hour 3 = .ok (.getfield 278, 3) := by decide +kernel
theorem dX11_hour_6 : decode cX11_hour 6 = .ok (.iconst 1, 1) := by decide +kernel
theorem dX11_hour_7 : decode cX11_hour 7 = .ok (.isub, 1) := by decide +kernel
theorem dX11_hour_8 : decode cX11_hour 8 = .ok (.invokestatic 323, 3) := by decide +kernel
theorem dX11_hour_11 : decode cX11_hour 11 = .ok (.ifCond .ne 5, 3) := by decide +kernel
theorem dX11_hour_14 : decode cX11_hour 14 = .ok (.iconst (-1), 1) := by decide +kernel
theorem dX11_hour_15 : decode cX11_hour 15 = .ok (.ireturn, 1) := by decide +kernel
theorem dX11_hour_16 : decode cX11_hour 16 = .ok (.aload_n 0, 1) := by decide +kernel
theorem dX11_hour_17 : decode cX11_hour 17 = .ok (.iload_n 2, 1) := by decide +kernel
theorem dX11_hour_18 : decode cX11_hour 18 = .ok (.invokevirtual 515, 3) := by decide +kernel
theorem dX11_hour_21 : decode cX11_hour 21 = .ok (.istore_n 3, 1) := by decide +kernel
theorem dX11_hour_22 : decode cX11_hour 22 = .ok (.iload_n 3, 1) := by decide +kernel
theorem dX11_hour_23 : decode cX11_hour 23 = .ok (.ifCond .le 12, 3) := by decide +kernel
theorem dX11_hour_26 : decode cX11_hour 26 = .ok (.aload_n 0, 1) := by decide +kernel
theorem dX11_hour_27 : decode cX11_hour 27 = .ok (.getfield 152, 3) := by decide +kernel
theorem dX11_hour_30 : decode cX11_hour 30 = .ok (.iload_n 1, 1) := by decide +kernel
theorem dX11_hour_31 : decode cX11_hour 31 = .ok (.iaload, 1) := by decide +kernel
theorem dX11_hour_32 : decode cX11_hour 32 = .ok (.goto 4, 3) := by decide +kernel
theorem dX11_hour_35 : decode cX11_hour 35 = .ok (.iconst (-1), 1) := by decide +kernel
theorem dX11_hour_36 : decode cX11_hour 36 = .ok (.ireturn, 1) := by decide +kernel
theorem dX11_livesBy_0 : decode cX11_livesBy 0 = .ok (.iconst 0, 1) := by decide +kernel
theorem dX11_livesBy_1 : decode cX11_livesBy 1 = .ok (.istore_n 3, 1) := by decide +kernel
theorem dX11_livesBy_2 : decode cX11_livesBy 2 = .ok (.iconst 0, 1) := by decide +kernel
theorem dX11_livesBy_3 : decode cX11_livesBy 3 = .ok (.istore 4, 2) := by decide +kernel
theorem dX11_livesBy_5 : decode cX11_livesBy 5 = .ok (.iload 4, 2) := by decide +kernel
theorem dX11_livesBy_7 : decode cX11_livesBy 7 = .ok (.aload_n 0, 1) := by decide +kernel
theorem dX11_livesBy_8 : decode cX11_livesBy 8 = .ok (.invokevirtual 327, 3) := by decide +kernel
theorem dX11_livesBy_11 : decode cX11_livesBy 11 = .ok (.if_icmp .ge 78, 3) := by decide +kernel
theorem dX11_livesBy_14 : decode cX11_livesBy 14 = .ok (.iconst 1, 1) := by decide +kernel
theorem dX11_livesBy_15 : decode cX11_livesBy 15 = .ok (.istore 5, 2) := by decide +kernel
theorem dX11_livesBy_17 : decode cX11_livesBy 17 = .ok (.iconst 0, 1) := by decide +kernel
theorem dX11_livesBy_18 : decode cX11_livesBy 18 = .ok (.istore 6, 2) := by decide +kernel
theorem dX11_livesBy_20 : decode cX11_livesBy 20 = .ok (.iload 6, 2) := by decide +kernel
theorem dX11_livesBy_22 : decode cX11_livesBy 22 = .ok (.aload_n 0, 1) := by decide +kernel
theorem dX11_livesBy_23 : decode cX11_livesBy 23 = .ok (.invokevirtual 319, 3) := by decide +kernel
theorem dX11_livesBy_26 : decode cX11_livesBy 26 = .ok (.if_icmp .ge 44, 3) := by decide +kernel
theorem dX11_livesBy_29 : decode cX11_livesBy 29 = .ok (.iload 5, 2) := by decide +kernel
theorem dX11_livesBy_31 : decode cX11_livesBy 31 = .ok (.ifCond .eq 30, 3) := by decide +kernel
theorem dX11_livesBy_34 : decode cX11_livesBy 34 = .ok (.aload_n 0, 1) := by decide +kernel
theorem dX11_livesBy_35 : decode cX11_livesBy 35 = .ok (.iload 6, 2) := by decide +kernel
theorem dX11_livesBy_37 : decode cX11_livesBy 37 = .ok (.invokevirtual 336, 3) := by decide +kernel
theorem dX11_livesBy_40 : decode cX11_livesBy 40 = .ok (.iload 4, 2) := by decide +kernel
theorem dX11_livesBy_42 : decode cX11_livesBy 42 = .ok (.if_icmp .ne 15, 3) := by decide +kernel
theorem dX11_livesBy_45 : decode cX11_livesBy 45 = .ok (.iload_n 1, 1) := by decide +kernel
theorem dX11_livesBy_46 : decode cX11_livesBy 46 = .ok (.iload_n 2, 1) := by decide +kernel
theorem dX11_livesBy_47 : decode cX11_livesBy 47 = .ok (.ior, 1) := by decide +kernel
theorem dX11_livesBy_48 : decode cX11_livesBy 48 = .ok (.iload 6, 2) := by decide +kernel
theorem dX11_livesBy_50 : decode cX11_livesBy 50 = .ok (.ishr, 1) := by decide +kernel
theorem dX11_livesBy_51 : decode cX11_livesBy 51 = .ok (.iconst 1, 1) := by decide +kernel
theorem dX11_livesBy_52 : decode cX11_livesBy 52 = .ok (.iand, 1) := by decide +kernel
theorem dX11_livesBy_53 : decode cX11_livesBy 53 = .ok (.iconst 1, 1) := by decide +kernel
theorem dX11_livesBy_54 : decode cX11_livesBy 54 = .ok (.if_icmp .ne 7, 3) := by decide +kernel
theorem dX11_livesBy_57 : decode cX11_livesBy 57 = .ok (.iconst 1, 1) := by decide +kernel
theorem dX11_livesBy_58 : decode cX11_livesBy 58 = .ok (.goto 4, 3) := by decide +kernel
theorem dX11_livesBy_61 : decode cX11_livesBy 61 = .ok (.iconst 0, 1) := by decide +kernel
theorem dX11_livesBy_62 : decode cX11_livesBy 62 = .ok (.istore 5, 2) := by decide +kernel
theorem dX11_livesBy_64 : decode cX11_livesBy 64 = .ok (.iinc 6 1, 3) := by decide +kernel
theorem dX11_livesBy_67 : decode cX11_livesBy 67 = .ok (.goto (-47), 3) := by decide +kernel
theorem dX11_livesBy_70 : decode cX11_livesBy 70 = .ok (.iload_n 3, 1) := by decide +kernel
theorem dX11_livesBy_71 : decode cX11_livesBy 71 = .ok (.iload 5, 2) := by decide +kernel
theorem dX11_livesBy_73 : decode cX11_livesBy 73 = .ok (.ifCond .eq 7, 3) := by decide +kernel
theorem dX11_livesBy_76 : decode cX11_livesBy 76 = .ok (.iconst 1, 1) := by decide +kernel
theorem dX11_livesBy_77 : decode cX11_livesBy 77 = .ok (.goto 4, 3) := by decide +kernel
theorem dX11_livesBy_80 : decode cX11_livesBy 80 = .ok (.iconst 0, 1) := by decide +kernel
theorem dX11_livesBy_81 : decode cX11_livesBy 81 = .ok (.iadd, 1) := by decide +kernel
theorem dX11_livesBy_82 : decode cX11_livesBy 82 = .ok (.istore_n 3, 1) := by decide +kernel
theorem dX11_livesBy_83 : decode cX11_livesBy 83 = .ok (.iinc 4 1, 3) := by decide +kernel
theorem dX11_livesBy_86 : decode cX11_livesBy 86 = .ok (.goto (-81), 3) := by decide +kernel
theorem dX11_livesBy_89 : decode cX11_livesBy 89 = .ok (.iload_n 3, 1) := by decide +kernel
theorem dX11_livesBy_90 : decode cX11_livesBy 90 = .ok (.ireturn, 1) := by decide +kernel
theorem dX11_keptOn_0 : decode cX11_keptOn 0 = .ok (.iconst 0, 1) := by decide +kernel
theorem dX11_keptOn_1 : decode cX11_keptOn 1 = .ok (.istore_n 3, 1) := by decide +kernel
theorem dX11_keptOn_2 : decode cX11_keptOn 2 = .ok (.iconst 0, 1) := by decide +kernel
theorem dX11_keptOn_3 : decode cX11_keptOn 3 = .ok (.istore 4, 2) := by decide +kernel
theorem dX11_keptOn_5 : decode cX11_keptOn 5 = .ok (.iload 4, 2) := by decide +kernel
theorem dX11_keptOn_7 : decode cX11_keptOn 7 = .ok (.aload_n 0, 1) := by decide +kernel
theorem dX11_keptOn_8 : decode cX11_keptOn 8 = .ok (.invokevirtual 319, 3) := by decide +kernel
theorem dX11_keptOn_11 : decode cX11_keptOn 11 = .ok (.if_icmp .ge 92, 3) := by decide +kernel
theorem dX11_keptOn_14 : decode cX11_keptOn 14 = .ok (.aload_n 0, 1) := by decide +kernel
theorem dX11_keptOn_15 : decode cX11_keptOn 15 = .ok (.getfield 60, 3) := by decide +kernel
theorem dX11_keptOn_18 : decode cX11_keptOn 18 = .ok (.aload_n 0, 1) := by decide +kernel
theorem dX11_keptOn_19 : decode cX11_keptOn 19 = .ok (.iload 4, 2) := by decide +kernel
theorem dX11_keptOn_21 : decode cX11_keptOn 21 = .ok (.invokevirtual 330, 3) := by decide +kernel
theorem dX11_keptOn_24 : decode cX11_keptOn 24 = .ok (.baload, 1) := by decide +kernel
theorem dX11_keptOn_25 : decode cX11_keptOn 25 = .ok (.istore 5, 2) := by decide +kernel
theorem dX11_keptOn_27 : decode cX11_keptOn 27 = .ok (.iconst 0, 1) := by decide +kernel
theorem dX11_keptOn_28 : decode cX11_keptOn 28 = .ok (.istore 6, 2) := by decide +kernel
theorem dX11_keptOn_30 : decode cX11_keptOn 30 = .ok (.iload 6, 2) := by decide +kernel
theorem dX11_keptOn_32 : decode cX11_keptOn 32 = .ok (.aload_n 0, 1) := by decide +kernel
theorem dX11_keptOn_33 : decode cX11_keptOn 33 = .ok (.getfield 416, 3) := by decide +kernel
theorem dX11_keptOn_36 : decode cX11_keptOn 36 = .ok (.if_icmp .ge 45, 3) := by decide +kernel
theorem dX11_keptOn_39 : decode cX11_keptOn 39 = .ok (.iload 5, 2) := by decide +kernel
theorem dX11_keptOn_41 : decode cX11_keptOn 41 = .ok (.ifCond .ne 40, 3) := by decide +kernel
theorem dX11_keptOn_44 : decode cX11_keptOn 44 = .ok (.aload_n 0, 1) := by decide +kernel
theorem dX11_keptOn_45 : decode cX11_keptOn 45 = .ok (.iload 6, 2) := by decide +kernel
theorem dX11_keptOn_47 : decode cX11_keptOn 47 = .ok (.iload 4, 2) := by decide +kernel
theorem dX11_keptOn_49 : decode cX11_keptOn 49 = .ok (.iload_n 1, 1) := by decide +kernel
theorem dX11_keptOn_50 : decode cX11_keptOn 50 = .ok (.iload_n 2, 1) := by decide +kernel
theorem dX11_keptOn_51 : decode cX11_keptOn 51 = .ok (.invokevirtual 468, 3) := by decide +kernel
theorem dX11_keptOn_54 : decode cX11_keptOn 54 = .ok (.ifCond .eq 18, 3) := by decide +kernel
theorem dX11_keptOn_57 : decode cX11_keptOn 57 = .ok (.aload_n 0, 1) := by decide +kernel
theorem dX11_keptOn_58 : decode cX11_keptOn 58 = .ok (.iload 6, 2) := by decide +kernel
theorem dX11_keptOn_60 : decode cX11_keptOn 60 = .ok (.iload_n 1, 1) := by decide +kernel
theorem dX11_keptOn_61 : decode cX11_keptOn 61 = .ok (.iload_n 2, 1) := by decide +kernel
theorem dX11_keptOn_62 : decode cX11_keptOn 62 = .ok (.invokevirtual 474, 3) := by decide +kernel
theorem dX11_keptOn_65 : decode cX11_keptOn 65 = .ok (.ifCond .ne 7, 3) := by decide +kernel
theorem dX11_keptOn_68 : decode cX11_keptOn 68 = .ok (.iconst 1, 1) := by decide +kernel
theorem dX11_keptOn_69 : decode cX11_keptOn 69 = .ok (.goto 4, 3) := by decide +kernel
theorem dX11_keptOn_72 : decode cX11_keptOn 72 = .ok (.iconst 0, 1) := by decide +kernel
theorem dX11_keptOn_73 : decode cX11_keptOn 73 = .ok (.istore 5, 2) := by decide +kernel
theorem dX11_keptOn_75 : decode cX11_keptOn 75 = .ok (.iinc 6 1, 3) := by decide +kernel
theorem dX11_keptOn_78 : decode cX11_keptOn 78 = .ok (.goto (-48), 3) := by decide +kernel
theorem dX11_keptOn_81 : decode cX11_keptOn 81 = .ok (.iload_n 3, 1) := by decide +kernel
theorem dX11_keptOn_82 : decode cX11_keptOn 82 = .ok (.iload 5, 2) := by decide +kernel
theorem dX11_keptOn_84 : decode cX11_keptOn 84 = .ok (.ifCond .eq 10, 3) := by decide +kernel
theorem dX11_keptOn_87 : decode cX11_keptOn 87 = .ok (.iconst 1, 1) := by decide +kernel
theorem dX11_keptOn_88 : decode cX11_keptOn 88 = .ok (.iload 4, 2) := by decide +kernel
theorem dX11_keptOn_90 : decode cX11_keptOn 90 = .ok (.ishl, 1) := by decide +kernel
theorem dX11_keptOn_91 : decode cX11_keptOn 91 = .ok (.goto 4, 3) := by decide +kernel
theorem dX11_keptOn_94 : decode cX11_keptOn 94 = .ok (.iconst 0, 1) := by decide +kernel
theorem dX11_keptOn_95 : decode cX11_keptOn 95 = .ok (.ior, 1) := by decide +kernel
theorem dX11_keptOn_96 : decode cX11_keptOn 96 = .ok (.istore_n 3, 1) := by decide +kernel
theorem dX11_keptOn_97 : decode cX11_keptOn 97 = .ok (.iinc 4 1, 3) := by decide +kernel
theorem dX11_keptOn_100 : decode cX11_keptOn 100 = .ok (.goto (-95), 3) := by decide +kernel
theorem dX11_keptOn_103 : decode cX11_keptOn 103 = .ok (.iload_n 3, 1) := by decide +kernel
theorem dX11_keptOn_104 : decode cX11_keptOn 104 = .ok (.ireturn, 1) := by decide +kernel
theorem dX11_live_0 : decode cX11_live 0 = .ok (.iload_n 1, 1) := by decide +kernel
theorem dX11_live_1 : decode cX11_live 1 = .ok (.iconst 0, 1) := by decide +kernel
theorem dX11_live_2 : decode cX11_live 2 = .ok (.iconst 1, 1) := by decide +kernel
theorem dX11_live_3 : decode cX11_live 3 = .ok (.aload_n 0, 1) := by decide +kernel
theorem dX11_live_4 : decode cX11_live 4 = .ok (.invokevirtual 319, 3) := by decide +kernel
theorem dX11_live_7 : decode cX11_live 7 = .ok (.ishl, 1) := by decide +kernel
theorem dX11_live_8 : decode cX11_live 8 = .ok (.iconst 1, 1) := by decide +kernel
theorem dX11_live_9 : decode cX11_live 9 = .ok (.isub, 1) := by decide +kernel
theorem dX11_live_10 : decode cX11_live 10 = .ok (.invokestatic 323, 3) := by decide +kernel
theorem dX11_live_13 : decode cX11_live 13 = .ok (.ifCond .eq 24, 3) := by decide +kernel
theorem dX11_live_16 : decode cX11_live 16 = .ok (.iload_n 2, 1) := by decide +kernel
theorem dX11_live_17 : decode cX11_live 17 = .ok (.invokestatic 371, 3) := by decide +kernel
theorem dX11_live_20 : decode cX11_live 20 = .ok (.ifCond .eq 17, 3) := by decide +kernel
theorem dX11_live_23 : decode cX11_live 23 = .ok (.aload_n 0, 1) := by decide +kernel
theorem dX11_live_24 : decode cX11_live 24 = .ok (.iload_n 1, 1) := by decide +kernel
theorem dX11_live_25 : decode cX11_live 25 = .ok (.aload_n 0, 1) := by decide +kernel
theorem dX11_live_26 : decode cX11_live 26 = .ok (.iload_n 2, 1) := by decide +kernel
theorem dX11_live_27 : decode cX11_live 27 = .ok (.iload_n 3, 1) := by decide +kernel
theorem dX11_live_28 : decode cX11_live 28 = .ok (.invokevirtual 518, 3) := by decide +kernel
theorem dX11_live_31 : decode cX11_live 31 = .ok (.invokevirtual 521, 3) := by decide +kernel
theorem dX11_live_34 : decode cX11_live 34 = .ok (.goto 4, 3) := by decide +kernel
theorem dX11_live_37 : decode cX11_live 37 = .ok (.iconst (-1), 1) := by decide +kernel
theorem dX11_live_38 : decode cX11_live 38 = .ok (.ireturn, 1) := by decide +kernel
theorem dX11_bitsOf_0 : decode cX11_bitsOf 0 = .ok (.iconst 0, 1) := by decide +kernel
theorem dX11_bitsOf_1 : decode cX11_bitsOf 1 = .ok (.istore_n 1, 1) := by decide +kernel
theorem dX11_bitsOf_2 : decode cX11_bitsOf 2 = .ok (.iconst 0, 1) := by decide +kernel
theorem dX11_bitsOf_3 : decode cX11_bitsOf 3 = .ok (.istore_n 2, 1) := by decide +kernel
theorem dX11_bitsOf_4 : decode cX11_bitsOf 4 = .ok (.iload_n 2, 1) := by decide +kernel
theorem dX11_bitsOf_5 : decode cX11_bitsOf 5 = .ok (.bipush 12, 2) := by decide +kernel
theorem dX11_bitsOf_7 : decode cX11_bitsOf 7 = .ok (.if_icmp .ge 17, 3) := by decide +kernel
theorem dX11_bitsOf_10 : decode cX11_bitsOf 10 = .ok (.iload_n 1, 1) := by decide +kernel
theorem dX11_bitsOf_11 : decode cX11_bitsOf 11 = .ok (.iload_n 0, 1) := by decide +kernel
theorem dX11_bitsOf_12 : decode cX11_bitsOf 12 = .ok (.iload_n 2, 1) := by decide +kernel
theorem dX11_bitsOf_13 : decode cX11_bitsOf 13 = .ok (.ishr, 1) := by decide +kernel
theorem dX11_bitsOf_14 : decode cX11_bitsOf 14 = .ok (.iconst 1, 1) := by decide +kernel
theorem dX11_bitsOf_15 : decode cX11_bitsOf 15 = .ok (.iand, 1) := by decide +kernel
theorem dX11_bitsOf_16 : decode cX11_bitsOf 16 = .ok (.iadd, 1) := by decide +kernel
theorem dX11_bitsOf_17 : decode cX11_bitsOf 17 = .ok (.istore_n 1, 1) := by decide +kernel
theorem dX11_bitsOf_18 : decode cX11_bitsOf 18 = .ok (.iinc 2 1, 3) := by decide +kernel
theorem dX11_bitsOf_21 : decode cX11_bitsOf 21 = .ok (.goto (-17), 3) := by decide +kernel
theorem dX11_bitsOf_24 : decode cX11_bitsOf 24 = .ok (.iload_n 1, 1) := by decide +kernel
theorem dX11_bitsOf_25 : decode cX11_bitsOf 25 = .ok (.ireturn, 1) := by decide +kernel
theorem dX11_note_0 : decode cX11_note 0 = .ok (.iload_n 1, 1) := by decide +kernel
theorem dX11_note_1 : decode cX11_note 1 = .ok (.iconst 0, 1) := by decide +kernel
theorem dX11_note_2 : decode cX11_note 2 = .ok (.bipush 12, 2) := by decide +kernel
theorem dX11_note_4 : decode cX11_note 4 = .ok (.invokestatic 323, 3) := by decide +kernel
theorem dX11_note_7 : decode cX11_note 7 = .ok (.ifCond .eq 10, 3) := by decide +kernel
theorem dX11_note_10 : decode cX11_note 10 = .ok (.iload_n 2, 1) := by decide +kernel
theorem dX11_note_11 : decode cX11_note 11 = .ok (.invokestatic 371, 3) := by decide +kernel
theorem dX11_note_14 : decode cX11_note 14 = .ok (.ifCond .ne 5, 3) := by decide +kernel
theorem dX11_note_17 : decode cX11_note 17 = .ok (.iconst (-1), 1) := by decide +kernel
theorem dX11_note_18 : decode cX11_note 18 = .ok (.ireturn, 1) := by decide +kernel
theorem dX11_note_19 : decode cX11_note 19 = .ok (.aload_n 0, 1) := by decide +kernel
theorem dX11_note_20 : decode cX11_note 20 = .ok (.iload_n 2, 1) := by decide +kernel
theorem dX11_note_21 : decode cX11_note 21 = .ok (.iload_n 3, 1) := by decide +kernel
theorem dX11_note_22 : decode cX11_note 22 = .ok (.invokevirtual 518, 3) := by decide +kernel
theorem dX11_note_25 : decode cX11_note 25 = .ok (.istore 4, 2) := by decide +kernel
theorem dX11_note_27 : decode cX11_note 27 = .ok (.iconst 0, 1) := by decide +kernel
theorem dX11_note_28 : decode cX11_note 28 = .ok (.istore 5, 2) := by decide +kernel
theorem dX11_note_30 : decode cX11_note 30 = .ok (.aload_n 0, 1) := by decide +kernel
theorem dX11_note_31 : decode cX11_note 31 = .ok (.iconst 0, 1) := by decide +kernel
theorem dX11_note_32 : decode cX11_note 32 = .ok (.iload 4, 2) := by decide +kernel
theorem dX11_note_34 : decode cX11_note 34 = .ok (.invokevirtual 521, 3) := by decide +kernel
theorem dX11_note_37 : decode cX11_note 37 = .ok (.istore 6, 2) := by decide +kernel
theorem dX11_note_39 : decode cX11_note 39 = .ok (.iconst 1, 1) := by decide +kernel
theorem dX11_note_40 : decode cX11_note 40 = .ok (.istore 7, 2) := by decide +kernel
theorem dX11_note_42 : decode cX11_note 42 = .ok (.iload 7, 2) := by decide +kernel
theorem dX11_note_44 : decode cX11_note 44 = .ok (.iconst 1, 1) := by decide +kernel
theorem dX11_note_45 : decode cX11_note 45 = .ok (.aload_n 0, 1) := by decide +kernel
theorem dX11_note_46 : decode cX11_note 46 = .ok (.invokevirtual 319, 3) := by decide +kernel
theorem dX11_note_49 : decode cX11_note 49 = .ok (.ishl, 1) := by decide +kernel
theorem dX11_note_50 : decode cX11_note 50 = .ok (.if_icmp .ge 69, 3) := by decide +kernel
theorem dX11_note_53 : decode cX11_note 53 = .ok (.iload 7, 2) := by decide +kernel
theorem dX11_note_55 : decode cX11_note 55 = .ok (.invokestatic 524, 3) := by decide +kernel
theorem dX11_note_58 : decode cX11_note 58 = .ok (.iload_n 1, 1) := by decide +kernel
theorem dX11_note_59 : decode cX11_note 59 = .ok (.if_icmp .le 6, 3) := by decide +kernel
theorem dX11_note_62 : decode cX11_note 62 = .ok (.goto 51, 3) := by decide +kernel
theorem dX11_note_65 : decode cX11_note 65 = .ok (.aload_n 0, 1) := by decide +kernel
theorem dX11_note_66 : decode cX11_note 66 = .ok (.iload 7, 2) := by decide +kernel
theorem dX11_note_68 : decode cX11_note 68 = .ok (.iload 4, 2) := by decide +kernel
theorem dX11_note_70 : decode cX11_note 70 = .ok (.invokevirtual 521, 3) := by decide +kernel
theorem dX11_note_73 : decode cX11_note 73 = .ok (.istore 8, 2) := by decide +kernel
theorem dX11_note_75 : decode cX11_note 75 = .ok (.iload 8, 2) := by decide +kernel
theorem dX11_note_77 : decode cX11_note 77 = .ok (.iload 6, 2) := by decide +kernel
theorem dX11_note_79 : decode cX11_note 79 = .ok (.if_icmp .lt 34, 3) := by decide +kernel
theorem dX11_note_82 : decode cX11_note 82 = .ok (.iload 8, 2) := by decide +kernel
theorem dX11_note_84 : decode cX11_note 84 = .ok (.iload 6, 2) := by decide +kernel
theorem dX11_note_86 : decode cX11_note 86 = .ok (.if_icmp .ne 19, 3) := by decide +kernel
theorem dX11_note_89 : decode cX11_note 89 = .ok (.iload 7, 2) := by decide +kernel
theorem dX11_note_91 : decode cX11_note 91 = .ok (.invokestatic 524, 3) := by decide +kernel
theorem dX11_note_94 : decode cX11_note 94 = .ok (.iload 5, 2) := by decide +kernel
theorem dX11_note_96 : decode cX11_note 96 = .ok (.invokestatic 524, 3) := by decide +kernel
theorem dX11_note_99 : decode cX11_note 99 = .ok (.if_icmp .lt 6, 3) := by decide +kernel
theorem dX11_note_102 : decode cX11_note 102 = .ok (.goto 11, 3) := by decide +kernel
theorem dX11_note_105 : decode cX11_note 105 = .ok (.iload 7, 2) := by decide +kernel
theorem dX11_note_107 : decode cX11_note 107 = .ok (.istore 5, 2) := by decide +kernel
theorem dX11_note_109 : decode cX11_note 109 = .ok (.iload 8, 2) := by decide +kernel
theorem dX11_note_111 : decode cX11_note 111 = .ok (.istore 6, 2) := by decide +kernel
theorem dX11_note_113 : decode cX11_note 113 = .ok (.iinc 7 1, 3) := by decide +kernel
theorem dX11_note_116 : decode cX11_note 116 = .ok (.goto (-74), 3) := by decide +kernel
theorem dX11_note_119 : decode cX11_note 119 = .ok (.iload 5, 2) := by decide +kernel
theorem dX11_note_121 : decode cX11_note 121 = .ok (.ireturn, 1) := by decide +kernel
theorem dX11_about_0 : decode cX11_about 0 = .ok (.iload_n 1, 1) := by decide +kernel
theorem dX11_about_1 : decode cX11_about 1 = .ok (.tableswitch 129 0 10 #[59, 64, 69, 74, 79, 84, 89, 94, 99, 109, 119], 59) := by decide +kernel
theorem dX11_about_60 : decode cX11_about 60 = .ok (.aload_n 0, 1) := by decide +kernel
theorem dX11_about_61 : decode cX11_about 61 = .ok (.invokevirtual 327, 3) := by decide +kernel
theorem dX11_about_64 : decode cX11_about 64 = .ok (.ireturn, 1) := by decide +kernel
theorem dX11_about_65 : decode cX11_about 65 = .ok (.aload_n 0, 1) := by decide +kernel
theorem dX11_about_66 : decode cX11_about 66 = .ok (.invokevirtual 319, 3) := by decide +kernel
theorem dX11_about_69 : decode cX11_about 69 = .ok (.ireturn, 1) := by decide +kernel
theorem dX11_about_70 : decode cX11_about 70 = .ok (.aload_n 0, 1) := by decide +kernel
theorem dX11_about_71 : decode cX11_about 71 = .ok (.getfield 416, 3) := by decide +kernel
theorem dX11_about_74 : decode cX11_about 74 = .ok (.ireturn, 1) := by decide +kernel
theorem dX11_about_75 : decode cX11_about 75 = .ok (.aload_n 0, 1) := by decide +kernel
theorem dX11_about_76 : decode cX11_about 76 = .ok (.getfield 275, 3) := by decide +kernel
theorem dX11_about_79 : decode cX11_about 79 = .ok (.ireturn, 1) := by decide +kernel
theorem dX11_about_80 : decode cX11_about 80 = .ok (.aload_n 0, 1) := by decide +kernel
theorem dX11_about_81 : decode cX11_about 81 = .ok (.getfield 374, 3) := by decide +kernel
theorem dX11_about_84 : decode cX11_about 84 = .ok (.ireturn, 1) := by decide +kernel
theorem dX11_about_85 : decode cX11_about 85 = .ok (.aload_n 0, 1) := by decide +kernel
theorem dX11_about_86 : decode cX11_about 86 = .ok (.getfield 278, 3) := by decide +kernel
theorem dX11_about_89 : decode cX11_about 89 = .ok (.ireturn, 1) := by decide +kernel
theorem dX11_about_90 : decode cX11_about 90 = .ok (.aload_n 0, 1) := by decide +kernel
theorem dX11_about_91 : decode cX11_about 91 = .ok (.getfield 419, 3) := by decide +kernel
theorem dX11_about_94 : decode cX11_about 94 = .ok (.ireturn, 1) := by decide +kernel
theorem dX11_about_95 : decode cX11_about 95 = .ok (.aload_n 0, 1) := by decide +kernel
theorem dX11_about_96 : decode cX11_about 96 = .ok (.getfield 260, 3) := by decide +kernel
theorem dX11_about_99 : decode cX11_about 99 = .ok (.ireturn, 1) := by decide +kernel
theorem dX11_about_100 : decode cX11_about 100 = .ok (.aload_n 0, 1) := by decide +kernel
theorem dX11_about_101 : decode cX11_about 101 = .ok (.getfield 33, 3) := by decide +kernel
theorem dX11_about_104 : decode cX11_about 104 = .ok (.aload_n 0, 1) := by decide +kernel
theorem dX11_about_105 : decode cX11_about 105 = .ok (.getfield 266, 3) := by decide +kernel
theorem dX11_about_108 : decode cX11_about 108 = .ok (.iaload, 1) := by decide +kernel
theorem dX11_about_109 : decode cX11_about 109 = .ok (.ireturn, 1) := by decide +kernel
theorem dX11_about_110 : decode cX11_about 110 = .ok (.aload_n 0, 1) := by decide +kernel
theorem dX11_about_111 : decode cX11_about 111 = .ok (.getfield 36, 3) := by decide +kernel
theorem dX11_about_114 : decode cX11_about 114 = .ok (.aload_n 0, 1) := by decide +kernel
theorem dX11_about_115 : decode cX11_about 115 = .ok (.getfield 266, 3) := by decide +kernel
theorem dX11_about_118 : decode cX11_about 118 = .ok (.iaload, 1) := by decide +kernel
theorem dX11_about_119 : decode cX11_about 119 = .ok (.ireturn, 1) := by decide +kernel
theorem dX11_about_120 : decode cX11_about 120 = .ok (.aload_n 0, 1) := by decide +kernel
theorem dX11_about_121 : decode cX11_about 121 = .ok (.getfield 39, 3) := by decide +kernel
theorem dX11_about_124 : decode cX11_about 124 = .ok (.aload_n 0, 1) := by decide +kernel
theorem dX11_about_125 : decode cX11_about 125 = .ok (.getfield 266, 3) := by decide +kernel
theorem dX11_about_128 : decode cX11_about 128 = .ok (.iaload, 1) := by decide +kernel
theorem dX11_about_129 : decode cX11_about 129 = .ok (.ireturn, 1) := by decide +kernel
theorem dX11_about_130 : decode cX11_about 130 = .ok (.iconst (-1), 1) := by decide +kernel
theorem dX11_about_131 : decode cX11_about 131 = .ok (.ireturn, 1) := by decide +kernel
theorem dX11_feed_0 : decode cX11_feed 0 = .ok (.aload_n 0, 1) := by decide +kernel
theorem dX11_feed_1 : decode cX11_feed 1 = .ok (.getfield 260, 3) := by decide +kernel
theorem dX11_feed_4 : decode cX11_feed 4 = .ok (.bipush 20, 2) := by decide +kernel
theorem dX11_feed_6 : decode cX11_feed 6 = .ok (.iadd, 1) := by decide +kernel
theorem dX11_feed_7 : decode cX11_feed 7 = .ok (.sipush 1400, 3) := by decide +kernel
theorem dX11_feed_10 : decode cX11_feed 10 = .ok (.if_icmp .le 5, 3) := by decide +kernel
theorem dX11_feed_13 : decode cX11_feed 13 = .ok (.iconst (-1), 1) := by decide +kernel
theorem dX11_feed_14 : decode cX11_feed 14 = .ok (.ireturn, 1) := by decide +kernel
theorem dX11_feed_15 : decode cX11_feed 15 = .ok (.iconst 0, 1) := by decide +kernel
theorem dX11_feed_16 : decode cX11_feed 16 = .ok (.istore 6, 2) := by decide +kernel
theorem dX11_feed_18 : decode cX11_feed 18 = .ok (.iload 6, 2) := by decide +kernel
theorem dX11_feed_20 : decode cX11_feed 20 = .ok (.bipush 20, 2) := by decide +kernel
theorem dX11_feed_22 : decode cX11_feed 22 = .ok (.if_icmp .ge 83, 3) := by decide +kernel
theorem dX11_feed_25 : decode cX11_feed 25 = .ok (.iload 6, 2) := by decide +kernel
theorem dX11_feed_27 : decode cX11_feed 27 = .ok (.iconst 4, 1) := by decide +kernel
theorem dX11_feed_28 : decode cX11_feed 28 = .ok (.if_icmp .ge 7, 3) := by decide +kernel
theorem dX11_feed_31 : decode cX11_feed 31 = .ok (.iload_n 1, 1) := by decide +kernel
theorem dX11_feed_32 : decode cX11_feed 32 = .ok (.goto 39, 3) := by decide +kernel
theorem dX11_feed_35 : decode cX11_feed 35 = .ok (.iload 6, 2) := by decide +kernel
theorem dX11_feed_37 : decode cX11_feed 37 = .ok (.bipush 8, 2) := by decide +kernel
theorem dX11_feed_39 : decode cX11_feed 39 = .ok (.if_icmp .ge 7, 3) := by decide +kernel
theorem dX11_feed_42 : decode cX11_feed 42 = .ok (.iload_n 2, 1) := by decide +kernel
theorem dX11_feed_43 : decode cX11_feed 43 = .ok (.goto 28, 3) := by decide +kernel
theorem dX11_feed_46 : decode cX11_feed 46 = .ok (.iload 6, 2) := by decide +kernel
theorem dX11_feed_48 : decode cX11_feed 48 = .ok (.bipush 12, 2) := by decide +kernel
theorem dX11_feed_50 : decode cX11_feed 50 = .ok (.if_icmp .ge 7, 3) := by decide +kernel
theorem dX11_feed_53 : decode cX11_feed 53 = .ok (.iload_n 3, 1) := by decide +kernel
theorem dX11_feed_54 : decode cX11_feed 54 = .ok (.goto 17, 3) := by decide +kernel
theorem dX11_feed_57 : decode cX11_feed 57 = .ok (.iload 6, 2) := by decide +kernel
theorem dX11_feed_59 : decode cX11_feed 59 = .ok (.bipush 16, 2) := by decide +kernel
theorem dX11_feed_61 : decode cX11_feed 61 = .ok (.if_icmp .ge 8, 3) := by decide +kernel
theorem dX11_feed_64 : decode cX11_feed 64 = .ok (.iload 4, 2) := by decide +kernel
theorem dX11_feed_66 : decode cX11_feed 66 = .ok (.goto 5, 3) := by decide +kernel
theorem dX11_feed_69 : decode cX11_feed 69 = .ok (.iload 5, 2) := by decide +kernel
theorem dX11_feed_71 : decode cX11_feed 71 = .ok (.istore 7, 2) := by decide +kernel
theorem dX11_feed_73 : decode cX11_feed 73 = .ok (.aload_n 0, 1) := by decide +kernel
theorem dX11_feed_74 : decode cX11_feed 74 = .ok (.getfield 7, 3) := by decide +kernel
theorem dX11_feed_77 : decode cX11_feed 77 = .ok (.aload_n 0, 1) := by decide +kernel
theorem dX11_feed_78 : decode cX11_feed 78 = .ok (.getfield 260, 3) := by decide +kernel
theorem dX11_feed_81 : decode cX11_feed 81 = .ok (.iload 6, 2) := by decide +kernel
theorem dX11_feed_83 : decode cX11_feed 83 = .ok (.iadd, 1) := by decide +kernel
theorem dX11_feed_84 : decode cX11_feed 84 = .ok (.iload 7, 2) := by decide +kernel
theorem dX11_feed_86 : decode cX11_feed 86 = .ok (.bipush 24, 2) := by decide +kernel
theorem dX11_feed_88 : decode cX11_feed 88 = .ok (.bipush 8, 2) := by decide +kernel
theorem dX11_feed_90 : decode cX11_feed 90 = .ok (.iload 6, 2) := by decide +kernel
theorem dX11_feed_92 : decode cX11_feed 92 = .ok (.iconst 3, 1) := by decide +kernel
theorem dX11_feed_93 : decode cX11_feed 93 = .ok (.iand, 1) := by decide +kernel
theorem dX11_feed_94 : decode cX11_feed 94 = .ok (.imul, 1) := by decide +kernel
theorem dX11_feed_95 : decode cX11_feed 95 = .ok (.isub, 1) := by decide +kernel
theorem dX11_feed_96 : decode cX11_feed 96 = .ok (.ishr, 1) := by decide +kernel
theorem dX11_feed_97 : decode cX11_feed 97 = .ok (.i2b, 1) := by decide +kernel
theorem dX11_feed_98 : decode cX11_feed 98 = .ok (.bastore, 1) := by decide +kernel
theorem dX11_feed_99 : decode cX11_feed 99 = .ok (.iinc 6 1, 3) := by decide +kernel
theorem dX11_feed_102 : decode cX11_feed 102 = .ok (.goto (-84), 3) := by decide +kernel
theorem dX11_feed_105 : decode cX11_feed 105 = .ok (.aload_n 0, 1) := by decide +kernel
theorem dX11_feed_106 : decode cX11_feed 106 = .ok (.dup, 1) := by decide +kernel
theorem dX11_feed_107 : decode cX11_feed 107 = .ok (.getfield 260, 3) := by decide +kernel
theorem dX11_feed_110 : decode cX11_feed 110 = .ok (.bipush 20, 2) := by decide +kernel
theorem dX11_feed_112 : decode cX11_feed 112 = .ok (.iadd, 1) := by decide +kernel
theorem dX11_feed_113 : decode cX11_feed 113 = .ok (.putfield 260, 3) := by decide +kernel
theorem dX11_feed_116 : decode cX11_feed 116 = .ok (.aload_n 0, 1) := by decide +kernel
theorem dX11_feed_117 : decode cX11_feed 117 = .ok (.getfield 260, 3) := by decide +kernel
theorem dX11_feed_120 : decode cX11_feed 120 = .ok (.ireturn, 1) := by decide +kernel
theorem dX11_end_0 : decode cX11_end 0 = .ok (.iload_n 1, 1) := by decide +kernel
theorem dX11_end_1 : decode cX11_end 1 = .ok (.ifCond .lt 11, 3) := by decide +kernel
theorem dX11_end_4 : decode cX11_end 4 = .ok (.iload_n 1, 1) := by decide +kernel
theorem dX11_end_5 : decode cX11_end 5 = .ok (.aload_n 0, 1) := by decide +kernel
theorem dX11_end_6 : decode cX11_end 6 = .ok (.getfield 260, 3) := by decide +kernel
theorem dX11_end_9 : decode cX11_end 9 = .ok (.if_icmp .le 5, 3) := by decide +kernel
theorem dX11_end_12 : decode cX11_end 12 = .ok (.iconst (-1), 1) := by decide +kernel
theorem dX11_end_13 : decode cX11_end 13 = .ok (.ireturn, 1) := by decide +kernel
theorem dX11_end_14 : decode cX11_end 14 = .ok (.aload_n 0, 1) := by decide +kernel
theorem dX11_end_15 : decode cX11_end 15 = .ok (.iload_n 1, 1) := by decide +kernel
theorem dX11_end_16 : decode cX11_end 16 = .ok (.putfield 260, 3) := by decide +kernel
theorem dX11_end_19 : decode cX11_end 19 = .ok (.iload_n 1, 1) := by decide +kernel
theorem dX11_end_20 : decode cX11_end 20 = .ok (.ireturn, 1) := by decide +kernel
theorem dJ11_isValidCodePoint_9a6ad_0 : decode cJ11_isValidCodePoint_9a6ad 0 = .ok (.iload_n 0, 1) := by decide +kernel
theorem dJ11_isValidCodePoint_9a6ad_1 : decode cJ11_isValidCodePoint_9a6ad 1 = .ok (.bipush 16, 2) := by decide +kernel
theorem dJ11_isValidCodePoint_9a6ad_3 : decode cJ11_isValidCodePoint_9a6ad 3 = .ok (.iushr, 1) := by decide +kernel
theorem dJ11_isValidCodePoint_9a6ad_4 : decode cJ11_isValidCodePoint_9a6ad 4 = .ok (.istore_n 1, 1) := by decide +kernel
theorem dJ11_isValidCodePoint_9a6ad_5 : decode cJ11_isValidCodePoint_9a6ad 5 = .ok (.iload_n 1, 1) := by decide +kernel
theorem dJ11_isValidCodePoint_9a6ad_6 : decode cJ11_isValidCodePoint_9a6ad 6 = .ok (.bipush 17, 2) := by decide +kernel
theorem dJ11_isValidCodePoint_9a6ad_8 : decode cJ11_isValidCodePoint_9a6ad 8 = .ok (.if_icmp .ge 7, 3) := by decide +kernel
theorem dJ11_isValidCodePoint_9a6ad_11 : decode cJ11_isValidCodePoint_9a6ad 11 = .ok (.iconst 1, 1) := by decide +kernel
theorem dJ11_isValidCodePoint_9a6ad_12 : decode cJ11_isValidCodePoint_9a6ad 12 = .ok (.goto 4, 3) := by decide +kernel
theorem dJ11_isValidCodePoint_9a6ad_15 : decode cJ11_isValidCodePoint_9a6ad 15 = .ok (.iconst 0, 1) := by decide +kernel
theorem dJ11_isValidCodePoint_9a6ad_16 : decode cJ11_isValidCodePoint_9a6ad 16 = .ok (.ireturn, 1) := by decide +kernel
theorem dJ11_highSurrogate_5068e_0 : decode cJ11_highSurrogate_5068e 0 = .ok (.iload_n 0, 1) := by decide +kernel
theorem dJ11_highSurrogate_5068e_1 : decode cJ11_highSurrogate_5068e 1 = .ok (.bipush 10, 2) := by decide +kernel
theorem dJ11_highSurrogate_5068e_3 : decode cJ11_highSurrogate_5068e 3 = .ok (.iushr, 1) := by decide +kernel
theorem dJ11_highSurrogate_5068e_4 : decode cJ11_highSurrogate_5068e 4 = .ok (.ldc 110, 2) := by decide +kernel
theorem dJ11_highSurrogate_5068e_6 : decode cJ11_highSurrogate_5068e 6 = .ok (.iadd, 1) := by decide +kernel
theorem dJ11_highSurrogate_5068e_7 : decode cJ11_highSurrogate_5068e 7 = .ok (.i2c, 1) := by decide +kernel
theorem dJ11_highSurrogate_5068e_8 : decode cJ11_highSurrogate_5068e 8 = .ok (.ireturn, 1) := by decide +kernel
theorem dJ11_lowSurrogate_5068e_0 : decode cJ11_lowSurrogate_5068e 0 = .ok (.iload_n 0, 1) := by decide +kernel
theorem dJ11_lowSurrogate_5068e_1 : decode cJ11_lowSurrogate_5068e 1 = .ok (.sipush 1023, 3) := by decide +kernel
theorem dJ11_lowSurrogate_5068e_4 : decode cJ11_lowSurrogate_5068e 4 = .ok (.iand, 1) := by decide +kernel
theorem dJ11_lowSurrogate_5068e_5 : decode cJ11_lowSurrogate_5068e 5 = .ok (.ldc 76, 2) := by decide +kernel
theorem dJ11_lowSurrogate_5068e_7 : decode cJ11_lowSurrogate_5068e 7 = .ok (.iadd, 1) := by decide +kernel
theorem dJ11_lowSurrogate_5068e_8 : decode cJ11_lowSurrogate_5068e 8 = .ok (.i2c, 1) := by decide +kernel
theorem dJ11_lowSurrogate_5068e_9 : decode cJ11_lowSurrogate_5068e 9 = .ok (.ireturn, 1) := by decide +kernel
theorem dJ6_bitCount_0f7a4_0 : decode cJ6_bitCount_0f7a4 0 = .ok (.iload_n 0, 1) := by decide +kernel
theorem dJ6_bitCount_0f7a4_1 : decode cJ6_bitCount_0f7a4 1 = .ok (.iload_n 0, 1) := by decide +kernel
theorem dJ6_bitCount_0f7a4_2 : decode cJ6_bitCount_0f7a4 2 = .ok (.iconst 1, 1) := by decide +kernel
theorem dJ6_bitCount_0f7a4_3 : decode cJ6_bitCount_0f7a4 3 = .ok (.iushr, 1) := by decide +kernel
theorem dJ6_bitCount_0f7a4_4 : decode cJ6_bitCount_0f7a4 4 = .ok (.ldc_w 265, 3) := by decide +kernel
theorem dJ6_bitCount_0f7a4_7 : decode cJ6_bitCount_0f7a4 7 = .ok (.iand, 1) := by decide +kernel
theorem dJ6_bitCount_0f7a4_8 : decode cJ6_bitCount_0f7a4 8 = .ok (.isub, 1) := by decide +kernel
theorem dJ6_bitCount_0f7a4_9 : decode cJ6_bitCount_0f7a4 9 = .ok (.istore_n 0, 1) := by decide +kernel
theorem dJ6_bitCount_0f7a4_10 : decode cJ6_bitCount_0f7a4 10 = .ok (.iload_n 0, 1) := by decide +kernel
theorem dJ6_bitCount_0f7a4_11 : decode cJ6_bitCount_0f7a4 11 = .ok (.ldc_w 266, 3) := by decide +kernel
theorem dJ6_bitCount_0f7a4_14 : decode cJ6_bitCount_0f7a4 14 = .ok (.iand, 1) := by decide +kernel
theorem dJ6_bitCount_0f7a4_15 : decode cJ6_bitCount_0f7a4 15 = .ok (.iload_n 0, 1) := by decide +kernel
theorem dJ6_bitCount_0f7a4_16 : decode cJ6_bitCount_0f7a4 16 = .ok (.iconst 2, 1) := by decide +kernel
theorem dJ6_bitCount_0f7a4_17 : decode cJ6_bitCount_0f7a4 17 = .ok (.iushr, 1) := by decide +kernel
theorem dJ6_bitCount_0f7a4_18 : decode cJ6_bitCount_0f7a4 18 = .ok (.ldc_w 266, 3) := by decide +kernel
theorem dJ6_bitCount_0f7a4_21 : decode cJ6_bitCount_0f7a4 21 = .ok (.iand, 1) := by decide +kernel
theorem dJ6_bitCount_0f7a4_22 : decode cJ6_bitCount_0f7a4 22 = .ok (.iadd, 1) := by decide +kernel
theorem dJ6_bitCount_0f7a4_23 : decode cJ6_bitCount_0f7a4 23 = .ok (.istore_n 0, 1) := by decide +kernel
theorem dJ6_bitCount_0f7a4_24 : decode cJ6_bitCount_0f7a4 24 = .ok (.iload_n 0, 1) := by decide +kernel
theorem dJ6_bitCount_0f7a4_25 : decode cJ6_bitCount_0f7a4 25 = .ok (.iload_n 0, 1) := by decide +kernel
theorem dJ6_bitCount_0f7a4_26 : decode cJ6_bitCount_0f7a4 26 = .ok (.iconst 4, 1) := by decide +kernel
theorem dJ6_bitCount_0f7a4_27 : decode cJ6_bitCount_0f7a4 27 = .ok (.iushr, 1) := by decide +kernel
theorem dJ6_bitCount_0f7a4_28 : decode cJ6_bitCount_0f7a4 28 = .ok (.iadd, 1) := by decide +kernel
theorem dJ6_bitCount_0f7a4_29 : decode cJ6_bitCount_0f7a4 29 = .ok (.ldc_w 267, 3) := by decide +kernel
theorem dJ6_bitCount_0f7a4_32 : decode cJ6_bitCount_0f7a4 32 = .ok (.iand, 1) := by decide +kernel
theorem dJ6_bitCount_0f7a4_33 : decode cJ6_bitCount_0f7a4 33 = .ok (.istore_n 0, 1) := by decide +kernel
theorem dJ6_bitCount_0f7a4_34 : decode cJ6_bitCount_0f7a4 34 = .ok (.iload_n 0, 1) := by decide +kernel
theorem dJ6_bitCount_0f7a4_35 : decode cJ6_bitCount_0f7a4 35 = .ok (.iload_n 0, 1) := by decide +kernel
theorem dJ6_bitCount_0f7a4_36 : decode cJ6_bitCount_0f7a4 36 = .ok (.bipush 8, 2) := by decide +kernel
theorem dJ6_bitCount_0f7a4_38 : decode cJ6_bitCount_0f7a4 38 = .ok (.iushr, 1) := by decide +kernel
theorem dJ6_bitCount_0f7a4_39 : decode cJ6_bitCount_0f7a4 39 = .ok (.iadd, 1) := by decide +kernel
theorem dJ6_bitCount_0f7a4_40 : decode cJ6_bitCount_0f7a4 40 = .ok (.istore_n 0, 1) := by decide +kernel
theorem dJ6_bitCount_0f7a4_41 : decode cJ6_bitCount_0f7a4 41 = .ok (.iload_n 0, 1) := by decide +kernel
theorem dJ6_bitCount_0f7a4_42 : decode cJ6_bitCount_0f7a4 42 = .ok (.iload_n 0, 1) := by decide +kernel
theorem dJ6_bitCount_0f7a4_43 : decode cJ6_bitCount_0f7a4 43 = .ok (.bipush 16, 2) := by decide +kernel
theorem dJ6_bitCount_0f7a4_45 : decode cJ6_bitCount_0f7a4 45 = .ok (.iushr, 1) := by decide +kernel
theorem dJ6_bitCount_0f7a4_46 : decode cJ6_bitCount_0f7a4 46 = .ok (.iadd, 1) := by decide +kernel
theorem dJ6_bitCount_0f7a4_47 : decode cJ6_bitCount_0f7a4 47 = .ok (.istore_n 0, 1) := by decide +kernel
theorem dJ6_bitCount_0f7a4_48 : decode cJ6_bitCount_0f7a4 48 = .ok (.iload_n 0, 1) := by decide +kernel
theorem dJ6_bitCount_0f7a4_49 : decode cJ6_bitCount_0f7a4 49 = .ok (.bipush 63, 2) := by decide +kernel
theorem dJ6_bitCount_0f7a4_51 : decode cJ6_bitCount_0f7a4 51 = .ok (.iand, 1) := by decide +kernel
theorem dJ6_bitCount_0f7a4_52 : decode cJ6_bitCount_0f7a4 52 = .ok (.ireturn, 1) := by decide +kernel
theorem dJ9_max_7cf53_0 : decode cJ9_max_7cf53 0 = .ok (.iload_n 0, 1) := by decide +kernel
theorem dJ9_max_7cf53_1 : decode cJ9_max_7cf53 1 = .ok (.iload_n 1, 1) := by decide +kernel
theorem dJ9_max_7cf53_2 : decode cJ9_max_7cf53 2 = .ok (.if_icmp .lt 7, 3) := by decide +kernel
theorem dJ9_max_7cf53_5 : decode cJ9_max_7cf53 5 = .ok (.iload_n 0, 1) := by decide +kernel
theorem dJ9_max_7cf53_6 : decode cJ9_max_7cf53 6 = .ok (.goto 4, 3) := by decide +kernel
theorem dJ9_max_7cf53_9 : decode cJ9_max_7cf53 9 = .ok (.iload_n 1, 1) := by decide +kernel
theorem dJ9_max_7cf53_10 : decode cJ9_max_7cf53 10 = .ok (.ireturn, 1) := by decide +kernel
theorem dJ9_min_7cf53_0 : decode cJ9_min_7cf53 0 = .ok (.iload_n 0, 1) := by decide +kernel
theorem dJ9_min_7cf53_1 : decode cJ9_min_7cf53 1 = .ok (.iload_n 1, 1) := by decide +kernel
theorem dJ9_min_7cf53_2 : decode cJ9_min_7cf53 2 = .ok (.if_icmp .gt 7, 3) := by decide +kernel
theorem dJ9_min_7cf53_5 : decode cJ9_min_7cf53 5 = .ok (.iload_n 0, 1) := by decide +kernel
theorem dJ9_min_7cf53_6 : decode cJ9_min_7cf53 6 = .ok (.goto 4, 3) := by decide +kernel
theorem dJ9_min_7cf53_9 : decode cJ9_min_7cf53 9 = .ok (.iload_n 1, 1) := by decide +kernel
theorem dJ9_min_7cf53_10 : decode cJ9_min_7cf53 10 = .ok (.ireturn, 1) := by decide +kernel
theorem dJ9_min_f86c9_0 : decode cJ9_min_f86c9 0 = .ok (.lload_n 0, 1) := by decide +kernel
theorem dJ9_min_f86c9_1 : decode cJ9_min_f86c9 1 = .ok (.lload_n 2, 1) := by decide +kernel
theorem dJ9_min_f86c9_2 : decode cJ9_min_f86c9 2 = .ok (.lcmp, 1) := by decide +kernel
theorem dJ9_min_f86c9_3 : decode cJ9_min_f86c9 3 = .ok (.ifCond .gt 7, 3) := by decide +kernel
theorem dJ9_min_f86c9_6 : decode cJ9_min_f86c9 6 = .ok (.lload_n 0, 1) := by decide +kernel
theorem dJ9_min_f86c9_7 : decode cJ9_min_f86c9 7 = .ok (.goto 4, 3) := by decide +kernel
theorem dJ9_min_f86c9_10 : decode cJ9_min_f86c9 10 = .ok (.lload_n 2, 1) := by decide +kernel
theorem dJ9_min_f86c9_11 : decode cJ9_min_f86c9 11 = .ok (.lreturn, 1) := by decide +kernel
theorem dJ0_length_8abf5_0 : decode cJ0_length_8abf5 0 = .ok (.aload_n 0, 1) := by decide +kernel
theorem dJ0_length_8abf5_1 : decode cJ0_length_8abf5 1 = .ok (.getfield 9, 3) := by decide +kernel
theorem dJ0_length_8abf5_4 : decode cJ0_length_8abf5 4 = .ok (.arraylength, 1) := by decide +kernel
theorem dJ0_length_8abf5_5 : decode cJ0_length_8abf5 5 = .ok (.aload_n 0, 1) := by decide +kernel
theorem dJ0_length_8abf5_6 : decode cJ0_length_8abf5 6 = .ok (.invokevirtual 335, 3) := by decide +kernel
theorem dJ0_length_8abf5_9 : decode cJ0_length_8abf5 9 = .ok (.ishr, 1) := by decide +kernel
theorem dJ0_length_8abf5_10 : decode cJ0_length_8abf5 10 = .ok (.ireturn, 1) := by decide +kernel
theorem dJ0_charAt_5068e_0 : decode cJ0_charAt_5068e 0 = .ok (.aload_n 0, 1) := by decide +kernel
theorem dJ0_charAt_5068e_1 : decode cJ0_charAt_5068e 1 = .ok (.invokevirtual 492, 3) := by decide +kernel
theorem dJ0_charAt_5068e_4 : decode cJ0_charAt_5068e 4 = .ok (.ifCond .eq 12, 3) := by decide +kernel
theorem dJ0_charAt_5068e_7 : decode cJ0_charAt_5068e 7 = .ok (.aload_n 0, 1) := by decide +kernel
theorem dJ0_charAt_5068e_8 : decode cJ0_charAt_5068e 8 = .ok (.getfield 9, 3) := by decide +kernel
theorem dJ0_charAt_5068e_11 : decode cJ0_charAt_5068e 11 = .ok (.iload_n 1, 1) := by decide +kernel
theorem dJ0_charAt_5068e_12 : decode cJ0_charAt_5068e 12 = .ok (.invokestatic 495, 3) := by decide +kernel
theorem dJ0_charAt_5068e_15 : decode cJ0_charAt_5068e 15 = .ok (.ireturn, 1) := by decide +kernel
theorem dJ0_charAt_5068e_16 : decode cJ0_charAt_5068e 16 = .ok (.aload_n 0, 1) := by decide +kernel
theorem dJ0_charAt_5068e_17 : decode cJ0_charAt_5068e 17 = .ok (.getfield 9, 3) := by decide +kernel
theorem dJ0_charAt_5068e_20 : decode cJ0_charAt_5068e 20 = .ok (.iload_n 1, 1) := by decide +kernel
theorem dJ0_charAt_5068e_21 : decode cJ0_charAt_5068e 21 = .ok (.invokestatic 498, 3) := by decide +kernel
theorem dJ0_charAt_5068e_24 : decode cJ0_charAt_5068e 24 = .ok (.ireturn, 1) := by decide +kernel
theorem dJ0_indexOf_0f7a4_0 : decode cJ0_indexOf_0f7a4 0 = .ok (.aload_n 0, 1) := by decide +kernel
theorem dJ0_indexOf_0f7a4_1 : decode cJ0_indexOf_0f7a4 1 = .ok (.iload_n 1, 1) := by decide +kernel
theorem dJ0_indexOf_0f7a4_2 : decode cJ0_indexOf_0f7a4 2 = .ok (.iconst 0, 1) := by decide +kernel
theorem dJ0_indexOf_0f7a4_3 : decode cJ0_indexOf_0f7a4 3 = .ok (.invokevirtual 633, 3) := by decide +kernel
theorem dJ0_indexOf_0f7a4_6 : decode cJ0_indexOf_0f7a4 6 = .ok (.ireturn, 1) := by decide +kernel
theorem dJ0_indexOf_7cf53_0 : decode cJ0_indexOf_7cf53 0 = .ok (.aload_n 0, 1) := by decide +kernel
theorem dJ0_indexOf_7cf53_1 : decode cJ0_indexOf_7cf53 1 = .ok (.invokevirtual 492, 3) := by decide +kernel
theorem dJ0_indexOf_7cf53_4 : decode cJ0_indexOf_7cf53 4 = .ok (.ifCond .eq 19, 3) := by decide +kernel
theorem dJ0_indexOf_7cf53_7 : decode cJ0_indexOf_7cf53 7 = .ok (.aload_n 0, 1) := by decide +kernel
theorem dJ0_indexOf_7cf53_8 : decode cJ0_indexOf_7cf53 8 = .ok (.getfield 9, 3) := by decide +kernel
theorem dJ0_indexOf_7cf53_11 : decode cJ0_indexOf_7cf53 11 = .ok (.iload_n 1, 1) := by decide +kernel
theorem dJ0_indexOf_7cf53_12 : decode cJ0_indexOf_7cf53 12 = .ok (.iload_n 2, 1) := by decide +kernel
theorem dJ0_indexOf_7cf53_13 : decode cJ0_indexOf_7cf53 13 = .ok (.aload_n 0, 1) := by decide +kernel
theorem dJ0_indexOf_7cf53_14 : decode cJ0_indexOf_7cf53 14 = .ok (.invokevirtual 505, 3) := by decide +kernel
theorem dJ0_indexOf_7cf53_17 : decode cJ0_indexOf_7cf53 17 = .ok (.invokestatic 637, 3) := by decide +kernel
theorem dJ0_indexOf_7cf53_20 : decode cJ0_indexOf_7cf53 20 = .ok (.goto 16, 3) := by decide +kernel
theorem dJ0_indexOf_7cf53_23 : decode cJ0_indexOf_7cf53 23 = .ok (.aload_n 0, 1) := by decide +kernel
theorem dJ0_indexOf_7cf53_24 : decode cJ0_indexOf_7cf53 24 = .ok (.getfield 9, 3) := by decide +kernel
theorem dJ0_indexOf_7cf53_27 : decode cJ0_indexOf_7cf53 27 = .ok (.iload_n 1, 1) := by decide +kernel
theorem dJ0_indexOf_7cf53_28 : decode cJ0_indexOf_7cf53 28 = .ok (.iload_n 2, 1) := by decide +kernel
theorem dJ0_indexOf_7cf53_29 : decode cJ0_indexOf_7cf53 29 = .ok (.aload_n 0, 1) := by decide +kernel
theorem dJ0_indexOf_7cf53_30 : decode cJ0_indexOf_7cf53 30 = .ok (.invokevirtual 505, 3) := by decide +kernel
theorem dJ0_indexOf_7cf53_33 : decode cJ0_indexOf_7cf53 33 = .ok (.invokestatic 640, 3) := by decide +kernel
theorem dJ0_indexOf_7cf53_36 : decode cJ0_indexOf_7cf53 36 = .ok (.ireturn, 1) := by decide +kernel
theorem dJ0_coder_7d493_0 : decode cJ0_coder_7d493 0 = .ok (.getstatic 38, 3) := by decide +kernel
theorem dJ0_coder_7d493_3 : decode cJ0_coder_7d493 3 = .ok (.ifCond .eq 10, 3) := by decide +kernel
theorem dJ0_coder_7d493_6 : decode cJ0_coder_7d493 6 = .ok (.aload_n 0, 1) := by decide +kernel
theorem dJ0_coder_7d493_7 : decode cJ0_coder_7d493 7 = .ok (.getfield 15, 3) := by decide +kernel
theorem dJ0_coder_7d493_10 : decode cJ0_coder_7d493 10 = .ok (.goto 4, 3) := by decide +kernel
theorem dJ0_coder_7d493_13 : decode cJ0_coder_7d493 13 = .ok (.iconst 1, 1) := by decide +kernel
theorem dJ0_coder_7d493_14 : decode cJ0_coder_7d493 14 = .ok (.ireturn, 1) := by decide +kernel
theorem dJ0_isLatin1_aae02_0 : decode cJ0_isLatin1_aae02 0 = .ok (.getstatic 38, 3) := by decide +kernel
theorem dJ0_isLatin1_aae02_3 : decode cJ0_isLatin1_aae02 3 = .ok (.ifCond .eq 14, 3) := by decide +kernel
theorem dJ0_isLatin1_aae02_6 : decode cJ0_isLatin1_aae02 6 = .ok (.aload_n 0, 1) := by decide +kernel
theorem dJ0_isLatin1_aae02_7 : decode cJ0_isLatin1_aae02 7 = .ok (.getfield 15, 3) := by decide +kernel
theorem dJ0_isLatin1_aae02_10 : decode cJ0_isLatin1_aae02 10 = .ok (.ifCond .ne 7, 3) := by decide +kernel
theorem dJ0_isLatin1_aae02_13 : decode cJ0_isLatin1_aae02 13 = .ok (.iconst 1, 1) := by decide +kernel
theorem dJ0_isLatin1_aae02_14 : decode cJ0_isLatin1_aae02 14 = .ok (.goto 4, 3) := by decide +kernel
theorem dJ0_isLatin1_aae02_17 : decode cJ0_isLatin1_aae02 17 = .ok (.iconst 0, 1) := by decide +kernel
theorem dJ0_isLatin1_aae02_18 : decode cJ0_isLatin1_aae02 18 = .ok (.ireturn, 1) := by decide +kernel
theorem dJ0_checkIndex_df160_0 : decode cJ0_checkIndex_df160 0 = .ok (.iload_n 0, 1) := by decide +kernel
theorem dJ0_checkIndex_df160_1 : decode cJ0_checkIndex_df160 1 = .ok (.iload_n 1, 1) := by decide +kernel
theorem dJ0_checkIndex_df160_2 : decode cJ0_checkIndex_df160 2 = .ok (.getstatic 1053, 3) := by decide +kernel
theorem dJ0_checkIndex_df160_5 : decode cJ0_checkIndex_df160 5 = .ok (.invokestatic 1059, 3) := by decide +kernel
theorem dJ0_checkIndex_df160_8 : decode cJ0_checkIndex_df160 8 = .ok (.pop, 1) := by decide +kernel
theorem dJ0_checkIndex_df160_9 : decode cJ0_checkIndex_df160 9 = .ok (.return_, 1) := by decide +kernel
theorem dJ0_checkBoundsBeginEnd_23922_0 : decode cJ0_checkBoundsBeginEnd_23922 0 = .ok (.iload_n 0, 1) := by decide +kernel
theorem dJ0_checkBoundsBeginEnd_23922_1 : decode cJ0_checkBoundsBeginEnd_23922 1 = .ok (.iload_n 1, 1) := by decide +kernel
theorem dJ0_checkBoundsBeginEnd_23922_2 : decode cJ0_checkBoundsBeginEnd_23922 2 = .ok (.iload_n 2, 1) := by decide +kernel
theorem dJ0_checkBoundsBeginEnd_23922_3 : decode cJ0_checkBoundsBeginEnd_23922 3 = .ok (.getstatic 1053, 3) := by decide +kernel
theorem dJ0_checkBoundsBeginEnd_23922_6 : decode cJ0_checkBoundsBeginEnd_23922 6 = .ok (.invokestatic 1062, 3) := by decide +kernel
theorem dJ0_checkBoundsBeginEnd_23922_9 : decode cJ0_checkBoundsBeginEnd_23922 9 = .ok (.pop, 1) := by decide +kernel
theorem dJ0_checkBoundsBeginEnd_23922_10 : decode cJ0_checkBoundsBeginEnd_23922 10 = .ok (.return_, 1) := by decide +kernel
theorem dJ1_charAt_3b067_0 : decode cJ1_charAt_3b067 0 = .ok (.iload_n 1, 1) := by decide +kernel
theorem dJ1_charAt_3b067_1 : decode cJ1_charAt_3b067 1 = .ok (.aload_n 0, 1) := by decide +kernel
theorem dJ1_charAt_3b067_2 : decode cJ1_charAt_3b067 2 = .ok (.arraylength, 1) := by decide +kernel
theorem dJ1_charAt_3b067_3 : decode cJ1_charAt_3b067 3 = .ok (.invokestatic 9, 3) := by decide +kernel
theorem dJ1_charAt_3b067_6 : decode cJ1_charAt_3b067 6 = .ok (.aload_n 0, 1) := by decide +kernel
theorem dJ1_charAt_3b067_7 : decode cJ1_charAt_3b067 7 = .ok (.iload_n 1, 1) := by decide +kernel
theorem dJ1_charAt_3b067_8 : decode cJ1_charAt_3b067 8 = .ok (.baload, 1) := by decide +kernel
theorem dJ1_charAt_3b067_9 : decode cJ1_charAt_3b067 9 = .ok (.sipush 255, 3) := by decide +kernel
theorem dJ1_charAt_3b067_12 : decode cJ1_charAt_3b067 12 = .ok (.iand, 1) := by decide +kernel
theorem dJ1_charAt_3b067_13 : decode cJ1_charAt_3b067 13 = .ok (.i2c, 1) := by decide +kernel
theorem dJ1_charAt_3b067_14 : decode cJ1_charAt_3b067 14 = .ok (.ireturn, 1) := by decide +kernel
theorem dJ1_canEncode_9a6ad_0 : decode cJ1_canEncode_9a6ad 0 = .ok (.iload_n 0, 1) := by decide +kernel
theorem dJ1_canEncode_9a6ad_1 : decode cJ1_canEncode_9a6ad 1 = .ok (.ifCond .lt 14, 3) := by decide +kernel
theorem dJ1_canEncode_9a6ad_4 : decode cJ1_canEncode_9a6ad 4 = .ok (.iload_n 0, 1) := by decide +kernel
theorem dJ1_canEncode_9a6ad_5 : decode cJ1_canEncode_9a6ad 5 = .ok (.sipush 255, 3) := by decide +kernel
theorem dJ1_canEncode_9a6ad_8 : decode cJ1_canEncode_9a6ad 8 = .ok (.if_icmp .gt 7, 3) := by decide +kernel
theorem dJ1_canEncode_9a6ad_11 : decode cJ1_canEncode_9a6ad 11 = .ok (.iconst 1, 1) := by decide +kernel
theorem dJ1_canEncode_9a6ad_12 : decode cJ1_canEncode_9a6ad 12 = .ok (.goto 4, 3) := by decide +kernel
theorem dJ1_canEncode_9a6ad_15 : decode cJ1_canEncode_9a6ad 15 = .ok (.iconst 0, 1) := by decide +kernel
theorem dJ1_canEncode_9a6ad_16 : decode cJ1_canEncode_9a6ad 16 = .ok (.ireturn, 1) := by decide +kernel
theorem dJ1_indexOf_4cfef_0 : decode cJ1_indexOf_4cfef 0 = .ok (.iload_n 1, 1) := by decide +kernel
theorem dJ1_indexOf_4cfef_1 : decode cJ1_indexOf_4cfef 1 = .ok (.invokestatic 88, 3) := by decide +kernel
theorem dJ1_indexOf_4cfef_4 : decode cJ1_indexOf_4cfef 4 = .ok (.ifCond .ne 5, 3) := by decide +kernel
theorem dJ1_indexOf_4cfef_7 : decode cJ1_indexOf_4cfef 7 = .ok (.iconst (-1), 1) := by decide +kernel
theorem dJ1_indexOf_4cfef_8 : decode cJ1_indexOf_4cfef 8 = .ok (.ireturn, 1) := by decide +kernel
theorem dJ1_indexOf_4cfef_9 : decode cJ1_indexOf_4cfef 9 = .ok (.iload_n 2, 1) := by decide +kernel
theorem dJ1_indexOf_4cfef_10 : decode cJ1_indexOf_4cfef 10 = .ok (.iconst 0, 1) := by decide +kernel
theorem dJ1_indexOf_4cfef_11 : decode cJ1_indexOf_4cfef 11 = .ok (.invokestatic 92, 3) := by decide +kernel
theorem dJ1_indexOf_4cfef_14 : decode cJ1_indexOf_4cfef 14 = .ok (.istore_n 2, 1) := by decide +kernel
theorem dJ1_indexOf_4cfef_15 : decode cJ1_indexOf_4cfef 15 = .ok (.iload_n 3, 1) := by decide +kernel
theorem dJ1_indexOf_4cfef_16 : decode cJ1_indexOf_4cfef 16 = .ok (.aload_n 0, 1) := by decide +kernel
theorem dJ1_indexOf_4cfef_17 : decode cJ1_indexOf_4cfef 17 = .ok (.arraylength, 1) := by decide +kernel
theorem dJ1_indexOf_4cfef_18 : decode cJ1_indexOf_4cfef 18 = .ok (.invokestatic 38, 3) := by decide +kernel
theorem dJ1_indexOf_4cfef_21 : decode cJ1_indexOf_4cfef 21 = .ok (.istore_n 3, 1) := by decide +kernel
theorem dJ1_indexOf_4cfef_22 : decode cJ1_indexOf_4cfef 22 = .ok (.iload_n 2, 1) := by decide +kernel
theorem dJ1_indexOf_4cfef_23 : decode cJ1_indexOf_4cfef 23 = .ok (.iload_n 3, 1) := by decide +kernel
theorem dJ1_indexOf_4cfef_24 : decode cJ1_indexOf_4cfef 24 = .ok (.if_icmp .lt 5, 3) := by decide +kernel
theorem dJ1_indexOf_4cfef_27 : decode cJ1_indexOf_4cfef 27 = .ok (.iconst (-1), 1) := by decide +kernel
theorem dJ1_indexOf_4cfef_28 : decode cJ1_indexOf_4cfef 28 = .ok (.ireturn, 1) := by decide +kernel
theorem dJ1_indexOf_4cfef_29 : decode cJ1_indexOf_4cfef 29 = .ok (.aload_n 0, 1) := by decide +kernel
theorem dJ1_indexOf_4cfef_30 : decode cJ1_indexOf_4cfef 30 = .ok (.iload_n 1, 1) := by decide +kernel
theorem dJ1_indexOf_4cfef_31 : decode cJ1_indexOf_4cfef 31 = .ok (.iload_n 2, 1) := by decide +kernel
theorem dJ1_indexOf_4cfef_32 : decode cJ1_indexOf_4cfef 32 = .ok (.iload_n 3, 1) := by decide +kernel
theorem dJ1_indexOf_4cfef_33 : decode cJ1_indexOf_4cfef 33 = .ok (.invokestatic 95, 3) := by decide +kernel
theorem dJ1_indexOf_4cfef_36 : decode cJ1_indexOf_4cfef 36 = .ok (.ireturn, 1) := by decide +kernel
theorem dJ1_indexOfChar_4cfef_0 : decode cJ1_indexOfChar_4cfef 0 = .ok (.iload_n 1, 1) := by decide +kernel
theorem dJ1_indexOfChar_4cfef_1 : decode cJ1_indexOfChar_4cfef 1 = .ok (.i2b, 1) := by decide +kernel
theorem dJ1_indexOfChar_4cfef_2 : decode cJ1_indexOfChar_4cfef 2 = .ok (.istore 4, 2) := by decide +kernel
theorem dJ1_indexOfChar_4cfef_4 : decode cJ1_indexOfChar_4cfef 4 = .ok (.iload_n 2, 1) := by decide +kernel
theorem dJ1_indexOfChar_4cfef_5 : decode cJ1_indexOfChar_4cfef 5 = .ok (.istore 5, 2) := by decide +kernel
theorem dJ1_indexOfChar_4cfef_7 : decode cJ1_indexOfChar_4cfef 7 = .ok (.iload 5, 2) := by decide +kernel
theorem dJ1_indexOfChar_4cfef_9 : decode cJ1_indexOfChar_4cfef 9 = .ok (.iload_n 3, 1) := by decide +kernel
theorem dJ1_indexOfChar_4cfef_10 : decode cJ1_indexOfChar_4cfef 10 = .ok (.if_icmp .ge 21, 3) := by decide +kernel
theorem dJ1_indexOfChar_4cfef_13 : decode cJ1_indexOfChar_4cfef 13 = .ok (.aload_n 0, 1) := by decide +kernel
theorem dJ1_indexOfChar_4cfef_14 : decode cJ1_indexOfChar_4cfef 14 = .ok (.iload 5, 2) := by decide +kernel
theorem dJ1_indexOfChar_4cfef_16 : decode cJ1_indexOfChar_4cfef 16 = .ok (.baload, 1) := by decide +kernel
theorem dJ1_indexOfChar_4cfef_17 : decode cJ1_indexOfChar_4cfef 17 = .ok (.iload 4, 2) := by decide +kernel
theorem dJ1_indexOfChar_4cfef_19 : decode cJ1_indexOfChar_4cfef 19 = .ok (.if_icmp .ne 6, 3) := by decide +kernel
theorem dJ1_indexOfChar_4cfef_22 : decode cJ1_indexOfChar_4cfef 22 = .ok (.iload 5, 2) := by decide +kernel
theorem dJ1_indexOfChar_4cfef_24 : decode cJ1_indexOfChar_4cfef 24 = .ok (.ireturn, 1) := by decide +kernel
theorem dJ1_indexOfChar_4cfef_25 : decode cJ1_indexOfChar_4cfef 25 = .ok (.iinc 5 1, 3) := by decide +kernel
theorem dJ1_indexOfChar_4cfef_28 : decode cJ1_indexOfChar_4cfef 28 = .ok (.goto (-21), 3) := by decide +kernel
theorem dJ1_indexOfChar_4cfef_31 : decode cJ1_indexOfChar_4cfef 31 = .ok (.iconst (-1), 1) := by decide +kernel
theorem dJ1_indexOfChar_4cfef_32 : decode cJ1_indexOfChar_4cfef 32 = .ok (.ireturn, 1) := by decide +kernel
theorem dJ2_getChar_3b067_0 : decode cJ2_getChar_3b067 0 = .ok (.getstatic 44, 3) := by decide +kernel
theorem dJ2_getChar_3b067_3 : decode cJ2_getChar_3b067 3 = .ok (.ifCond .ne 25, 3) := by decide +kernel
theorem dJ2_getChar_3b067_6 : decode cJ2_getChar_3b067 6 = .ok (.iload_n 1, 1) := by decide +kernel
theorem dJ2_getChar_3b067_7 : decode cJ2_getChar_3b067 7 = .ok (.ifCond .lt 11, 3) := by decide +kernel
theorem dJ2_getChar_3b067_10 : decode cJ2_getChar_3b067 10 = .ok (.iload_n 1, 1) := by decide +kernel
theorem dJ2_getChar_3b067_11 : decode cJ2_getChar_3b067 11 = .ok (.aload_n 0, 1) := by decide +kernel
theorem dJ2_getChar_3b067_12 : decode cJ2_getChar_3b067 12 = .ok (.invokestatic 48, 3) := by decide +kernel
theorem dJ2_getChar_3b067_15 : decode cJ2_getChar_3b067 15 = .ok (.if_icmp .lt 13, 3) := by decide +kernel
theorem dJ2_getChar_3b067_18 : decode cJ2_getChar_3b067 18 = .ok (.new 52, 3) := by decide +kernel
theorem dJ2_getChar_3b067_21 : decode cJ2_getChar_3b067 21 = .ok (.dup, 1) := by decide +kernel
theorem dJ2_getChar_3b067_22 : decode cJ2_getChar_3b067 22 = .ok (.ldc 54, 2) := by decide +kernel
theorem dJ2_getChar_3b067_24 : decode cJ2_getChar_3b067 24 = .ok (.invokespecial 56, 3) := by decide +kernel
theorem dJ2_getChar_3b067_27 : decode cJ2_getChar_3b067 27 = .ok (.athrow, 1) := by decide +kernel
theorem dJ2_getChar_3b067_28 : decode cJ2_getChar_3b067 28 = .ok (.iload_n 1, 1) := by decide +kernel
theorem dJ2_getChar_3b067_29 : decode cJ2_getChar_3b067 29 = .ok (.iconst 1, 1) := by decide +kernel
theorem dJ2_getChar_3b067_30 : decode cJ2_getChar_3b067 30 = .ok (.ishl, 1) := by decide +kernel
theorem dJ2_getChar_3b067_31 : decode cJ2_getChar_3b067 31 = .ok (.istore_n 1, 1) := by decide +kernel
theorem dJ2_getChar_3b067_32 : decode cJ2_getChar_3b067 32 = .ok (.aload_n 0, 1) := by decide +kernel
theorem dJ2_getChar_3b067_33 : decode cJ2_getChar_3b067 33 = .ok (.iload_n 1, 1) := by decide +kernel
theorem dJ2_getChar_3b067_34 : decode cJ2_getChar_3b067 34 = .ok (.iinc 1 1, 3) := by decide +kernel
theorem dJ2_getChar_3b067_37 : decode cJ2_getChar_3b067 37 = .ok (.baload, 1) := by decide +kernel
theorem dJ2_getChar_3b067_38 : decode cJ2_getChar_3b067 38 = .ok (.sipush 255, 3) := by decide +kernel
theorem dJ2_getChar_3b067_41 : decode cJ2_getChar_3b067 41 = .ok (.iand, 1) := by decide +kernel
theorem dJ2_getChar_3b067_42 : decode cJ2_getChar_3b067 42 = .ok (.getstatic 59, 3) := by decide +kernel
theorem dJ2_getChar_3b067_45 : decode cJ2_getChar_3b067 45 = .ok (.ishl, 1) := by decide +kernel
theorem dJ2_getChar_3b067_46 : decode cJ2_getChar_3b067 46 = .ok (.aload_n 0, 1) := by decide +kernel
theorem dJ2_getChar_3b067_47 : decode cJ2_getChar_3b067 47 = .ok (.iload_n 1, 1) := by decide +kernel
theorem dJ2_getChar_3b067_48 : decode cJ2_getChar_3b067 48 = .ok (.baload, 1) := by decide +kernel
theorem dJ2_getChar_3b067_49 : decode cJ2_getChar_3b067 49 = .ok (.sipush 255, 3) := by decide +kernel
theorem dJ2_getChar_3b067_52 : decode cJ2_getChar_3b067 52 = .ok (.iand, 1) := by decide +kernel
theorem dJ2_getChar_3b067_53 : decode cJ2_getChar_3b067 53 = .ok (.getstatic 63, 3) := by decide +kernel
theorem dJ2_getChar_3b067_56 : decode cJ2_getChar_3b067 56 = .ok (.ishl, 1) := by decide +kernel
theorem dJ2_getChar_3b067_57 : decode cJ2_getChar_3b067 57 = .ok (.ior, 1) := by decide +kernel
theorem dJ2_getChar_3b067_58 : decode cJ2_getChar_3b067 58 = .ok (.i2c, 1) := by decide +kernel
theorem dJ2_getChar_3b067_59 : decode cJ2_getChar_3b067 59 = .ok (.ireturn, 1) := by decide +kernel
theorem dJ2_length_9d52b_0 : decode cJ2_length_9d52b 0 = .ok (.aload_n 0, 1) := by decide +kernel
theorem dJ2_length_9d52b_1 : decode cJ2_length_9d52b 1 = .ok (.arraylength, 1) := by decide +kernel
theorem dJ2_length_9d52b_2 : decode cJ2_length_9d52b 2 = .ok (.iconst 1, 1) := by decide +kernel
theorem dJ2_length_9d52b_3 : decode cJ2_length_9d52b 3 = .ok (.ishr, 1) := by decide +kernel
theorem dJ2_length_9d52b_4 : decode cJ2_length_9d52b 4 = .ok (.ireturn, 1) := by decide +kernel
theorem dJ2_indexOf_4cfef_0 : decode cJ2_indexOf_4cfef 0 = .ok (.iload_n 2, 1) := by decide +kernel
theorem dJ2_indexOf_4cfef_1 : decode cJ2_indexOf_4cfef 1 = .ok (.iconst 0, 1) := by decide +kernel
theorem dJ2_indexOf_4cfef_2 : decode cJ2_indexOf_4cfef 2 = .ok (.invokestatic 224, 3) := by decide +kernel
theorem dJ2_indexOf_4cfef_5 : decode cJ2_indexOf_4cfef 5 = .ok (.istore_n 2, 1) := by decide +kernel
theorem dJ2_indexOf_4cfef_6 : decode cJ2_indexOf_4cfef 6 = .ok (.iload_n 3, 1) := by decide +kernel
theorem dJ2_indexOf_4cfef_7 : decode cJ2_indexOf_4cfef 7 = .ok (.aload_n 0, 1) := by decide +kernel
theorem dJ2_indexOf_4cfef_8 : decode cJ2_indexOf_4cfef 8 = .ok (.arraylength, 1) := by decide +kernel
theorem dJ2_indexOf_4cfef_9 : decode cJ2_indexOf_4cfef 9 = .ok (.iconst 1, 1) := by decide +kernel
theorem dJ2_indexOf_4cfef_10 : decode cJ2_indexOf_4cfef 10 = .ok (.ishr, 1) := by decide +kernel
theorem dJ2_indexOf_4cfef_11 : decode cJ2_indexOf_4cfef 11 = .ok (.invokestatic 183, 3) := by decide +kernel
theorem dJ2_indexOf_4cfef_14 : decode cJ2_indexOf_4cfef 14 = .ok (.istore_n 3, 1) := by decide +kernel
theorem dJ2_indexOf_4cfef_15 : decode cJ2_indexOf_4cfef 15 = .ok (.iload_n 2, 1) := by decide +kernel
theorem dJ2_indexOf_4cfef_16 : decode cJ2_indexOf_4cfef 16 = .ok (.iload_n 3, 1) := by decide +kernel
theorem dJ2_indexOf_4cfef_17 : decode cJ2_indexOf_4cfef 17 = .ok (.if_icmp .lt 5, 3) := by decide +kernel
theorem dJ2_indexOf_4cfef_20 : decode cJ2_indexOf_4cfef 20 = .ok (.iconst (-1), 1) := by decide +kernel
theorem dJ2_indexOf_4cfef_21 : decode cJ2_indexOf_4cfef 21 = .ok (.ireturn, 1) := by decide +kernel
theorem dJ2_indexOf_4cfef_22 : decode cJ2_indexOf_4cfef 22 = .ok (.iload_n 1, 1) := by decide +kernel
theorem dJ2_indexOf_4cfef_23 : decode cJ2_indexOf_4cfef 23 = .ok (.ldc 227, 2) := by decide +kernel
theorem dJ2_indexOf_4cfef_25 : decode cJ2_indexOf_4cfef 25 = .ok (.if_icmp .ge 11, 3) := by decide +kernel
theorem dJ2_indexOf_4cfef_28 : decode cJ2_indexOf_4cfef 28 = .ok (.aload_n 0, 1) := by decide +kernel
theorem dJ2_indexOf_4cfef_29 : decode cJ2_indexOf_4cfef 29 = .ok (.iload_n 1, 1) := by decide +kernel
theorem dJ2_indexOf_4cfef_30 : decode cJ2_indexOf_4cfef 30 = .ok (.iload_n 2, 1) := by decide +kernel
theorem dJ2_indexOf_4cfef_31 : decode cJ2_indexOf_4cfef 31 = .ok (.iload_n 3, 1) := by decide +kernel
theorem dJ2_indexOf_4cfef_32 : decode cJ2_indexOf_4cfef 32 = .ok (.invokestatic 228, 3) := by decide +kernel
theorem dJ2_indexOf_4cfef_35 : decode cJ2_indexOf_4cfef 35 = .ok (.ireturn, 1) := by decide +kernel
theorem dJ2_indexOf_4cfef_36 : decode cJ2_indexOf_4cfef 36 = .ok (.aload_n 0, 1) := by decide +kernel
theorem dJ2_indexOf_4cfef_37 : decode cJ2_indexOf_4cfef 37 = .ok (.iload_n 1, 1) := by decide +kernel
theorem dJ2_indexOf_4cfef_38 : decode cJ2_indexOf_4cfef 38 = .ok (.iload_n 2, 1) := by decide +kernel
theorem dJ2_indexOf_4cfef_39 : decode cJ2_indexOf_4cfef 39 = .ok (.iload_n 3, 1) := by decide +kernel
theorem dJ2_indexOf_4cfef_40 : decode cJ2_indexOf_4cfef 40 = .ok (.invokestatic 232, 3) := by decide +kernel
theorem dJ2_indexOf_4cfef_43 : decode cJ2_indexOf_4cfef 43 = .ok (.ireturn, 1) := by decide +kernel
theorem dJ2_indexOfChar_4cfef_0 : decode cJ2_indexOfChar_4cfef 0 = .ok (.iload_n 2, 1) := by decide +kernel
theorem dJ2_indexOfChar_4cfef_1 : decode cJ2_indexOfChar_4cfef 1 = .ok (.iload_n 3, 1) := by decide +kernel
theorem dJ2_indexOfChar_4cfef_2 : decode cJ2_indexOfChar_4cfef 2 = .ok (.aload_n 0, 1) := by decide +kernel
theorem dJ2_indexOfChar_4cfef_3 : decode cJ2_indexOfChar_4cfef 3 = .ok (.invokestatic 96, 3) := by decide +kernel
theorem dJ2_indexOfChar_4cfef_6 : decode cJ2_indexOfChar_4cfef 6 = .ok (.aload_n 0, 1) := by decide +kernel
theorem dJ2_indexOfChar_4cfef_7 : decode cJ2_indexOfChar_4cfef 7 = .ok (.iload_n 1, 1) := by decide +kernel
theorem dJ2_indexOfChar_4cfef_8 : decode cJ2_indexOfChar_4cfef 8 = .ok (.iload_n 2, 1) := by decide +kernel
theorem dJ2_indexOfChar_4cfef_9 : decode cJ2_indexOfChar_4cfef 9 = .ok (.iload_n 3, 1) := by decide +kernel
theorem dJ2_indexOfChar_4cfef_10 : decode cJ2_indexOfChar_4cfef 10 = .ok (.invokestatic 244, 3) := by decide +kernel
theorem dJ2_indexOfChar_4cfef_13 : decode cJ2_indexOfChar_4cfef 13 = .ok (.ireturn, 1) := by decide +kernel
theorem dJ2_indexOfCharUnsafe_4cfef_0 : decode cJ2_indexOfCharUnsafe_4cfef 0 = .ok (.iload_n 2, 1) := by decide +kernel
theorem dJ2_indexOfCharUnsafe_4cfef_1 : decode cJ2_indexOfCharUnsafe_4cfef 1 = .ok (.istore 4, 2) := by decide +kernel
theorem dJ2_indexOfCharUnsafe_4cfef_3 : decode cJ2_indexOfCharUnsafe_4cfef 3 = .ok (.iload 4, 2) := by decide +kernel
theorem dJ2_indexOfCharUnsafe_4cfef_5 : decode cJ2_indexOfCharUnsafe_4cfef 5 = .ok (.iload_n 3, 1) := by decide +kernel
theorem dJ2_indexOfCharUnsafe_4cfef_6 : decode cJ2_indexOfCharUnsafe_4cfef 6 = .ok (.if_icmp .ge 22, 3) := by decide +kernel
theorem dJ2_indexOfCharUnsafe_4cfef_9 : decode cJ2_indexOfCharUnsafe_4cfef 9 = .ok (.aload_n 0, 1) := by decide +kernel
theorem dJ2_indexOfCharUnsafe_4cfef_10 : decode cJ2_indexOfCharUnsafe_4cfef 10 = .ok (.iload 4, 2) := by decide +kernel
theorem dJ2_indexOfCharUnsafe_4cfef_12 : decode cJ2_indexOfCharUnsafe_4cfef 12 = .ok (.invokestatic 71, 3) := by decide +kernel
theorem dJ2_indexOfCharUnsafe_4cfef_15 : decode cJ2_indexOfCharUnsafe_4cfef 15 = .ok (.iload_n 1, 1) := by decide +kernel
theorem dJ2_indexOfCharUnsafe_4cfef_16 : decode cJ2_indexOfCharUnsafe_4cfef 16 = .ok (.if_icmp .ne 6, 3) := by decide +kernel
theorem dJ2_indexOfCharUnsafe_4cfef_19 : decode cJ2_indexOfCharUnsafe_4cfef 19 = .ok (.iload 4, 2) := by decide +kernel
theorem dJ2_indexOfCharUnsafe_4cfef_21 : decode cJ2_indexOfCharUnsafe_4cfef 21 = .ok (.ireturn, 1) := by decide +kernel
theorem dJ2_indexOfCharUnsafe_4cfef_22 : decode cJ2_indexOfCharUnsafe_4cfef 22 = .ok (.iinc 4 1, 3) := by decide +kernel
theorem dJ2_indexOfCharUnsafe_4cfef_25 : decode cJ2_indexOfCharUnsafe_4cfef 25 = .ok (.goto (-22), 3) := by decide +kernel
theorem dJ2_indexOfCharUnsafe_4cfef_28 : decode cJ2_indexOfCharUnsafe_4cfef 28 = .ok (.iconst (-1), 1) := by decide +kernel
theorem dJ2_indexOfCharUnsafe_4cfef_29 : decode cJ2_indexOfCharUnsafe_4cfef 29 = .ok (.ireturn, 1) := by decide +kernel
theorem dJ2_indexOfSupplementary_4cfef_0 : decode cJ2_indexOfSupplementary_4cfef 0 = .ok (.iload_n 1, 1) := by decide +kernel
theorem dJ2_indexOfSupplementary_4cfef_1 : decode cJ2_indexOfSupplementary_4cfef 1 = .ok (.invokestatic 164, 3) := by decide +kernel
theorem dJ2_indexOfSupplementary_4cfef_4 : decode cJ2_indexOfSupplementary_4cfef 4 = .ok (.ifCond .eq 65, 3) := by decide +kernel
theorem dJ2_indexOfSupplementary_4cfef_7 : decode cJ2_indexOfSupplementary_4cfef 7 = .ok (.iload_n 1, 1) := by decide +kernel
theorem dJ2_indexOfSupplementary_4cfef_8 : decode cJ2_indexOfSupplementary_4cfef 8 = .ok (.invokestatic 157, 3) := by decide +kernel
theorem dJ2_indexOfSupplementary_4cfef_11 : decode cJ2_indexOfSupplementary_4cfef 11 = .ok (.istore 4, 2) := by decide +kernel
theorem dJ2_indexOfSupplementary_4cfef_13 : decode cJ2_indexOfSupplementary_4cfef 13 = .ok (.iload_n 1, 1) := by decide +kernel
theorem dJ2_indexOfSupplementary_4cfef_14 : decode cJ2_indexOfSupplementary_4cfef 14 = .ok (.invokestatic 161, 3) := by decide +kernel
theorem dJ2_indexOfSupplementary_4cfef_17 : decode cJ2_indexOfSupplementary_4cfef 17 = .ok (.istore 5, 2) := by decide +kernel
theorem dJ2_indexOfSupplementary_4cfef_19 : decode cJ2_indexOfSupplementary_4cfef 19 = .ok (.iload_n 2, 1) := by decide +kernel
theorem dJ2_indexOfSupplementary_4cfef_20 : decode cJ2_indexOfSupplementary_4cfef 20 = .ok (.iload_n 3, 1) := by decide +kernel
theorem dJ2_indexOfSupplementary_4cfef_21 : decode cJ2_indexOfSupplementary_4cfef 21 = .ok (.aload_n 0, 1) := by decide +kernel
theorem dJ2_indexOfSupplementary_4cfef_22 : decode cJ2_indexOfSupplementary_4cfef 22 = .ok (.invokestatic 96, 3) := by decide +kernel
theorem dJ2_indexOfSupplementary_4cfef_25 : decode cJ2_indexOfSupplementary_4cfef 25 = .ok (.iload_n 2, 1) := by decide +kernel
theorem dJ2_indexOfSupplementary_4cfef_26 : decode cJ2_indexOfSupplementary_4cfef 26 = .ok (.istore 6, 2) := by decide +kernel
theorem dJ2_indexOfSupplementary_4cfef_28 : decode cJ2_indexOfSupplementary_4cfef 28 = .ok (.iload 6, 2) := by decide +kernel
theorem dJ2_indexOfSupplementary_4cfef_30 : decode cJ2_indexOfSupplementary_4cfef 30 = .ok (.iload_n 3, 1) := by decide +kernel
theorem dJ2_indexOfSupplementary_4cfef_31 : decode cJ2_indexOfSupplementary_4cfef 31 = .ok (.iconst 1, 1) := by decide +kernel
theorem dJ2_indexOfSupplementary_4cfef_32 : decode cJ2_indexOfSupplementary_4cfef 32 = .ok (.isub, 1) := by decide +kernel
theorem dJ2_indexOfSupplementary_4cfef_33 : decode cJ2_indexOfSupplementary_4cfef 33 = .ok (.if_icmp .ge 36, 3) := by decide +kernel
theorem dJ2_indexOfSupplementary_4cfef_36 : decode cJ2_indexOfSupplementary_4cfef 36 = .ok (.aload_n 0, 1) := by decide +kernel
theorem dJ2_indexOfSupplementary_4cfef_37 : decode cJ2_indexOfSupplementary_4cfef 37 = .ok (.iload 6, 2) := by decide +kernel
theorem dJ2_indexOfSupplementary_4cfef_39 : decode cJ2_indexOfSupplementary_4cfef 39 = .ok (.invokestatic 71, 3) := by decide +kernel
theorem dJ2_indexOfSupplementary_4cfef_42 : decode cJ2_indexOfSupplementary_4cfef 42 = .ok (.iload 4, 2) := by decide +kernel
theorem dJ2_indexOfSupplementary_4cfef_44 : decode cJ2_indexOfSupplementary_4cfef 44 = .ok (.if_icmp .ne 19, 3) := by decide +kernel
theorem dJ2_indexOfSupplementary_4cfef_47 : decode cJ2_indexOfSupplementary_4cfef 47 = .ok (.aload_n 0, 1) := by decide +kernel
theorem dJ2_indexOfSupplementary_4cfef_48 : decode cJ2_indexOfSupplementary_4cfef 48 = .ok (.iload 6, 2) := by decide +kernel
theorem dJ2_indexOfSupplementary_4cfef_50 : decode cJ2_indexOfSupplementary_4cfef 50 = .ok (.iconst 1, 1) := by decide +kernel
theorem dJ2_indexOfSupplementary_4cfef_51 : decode cJ2_indexOfSupplementary_4cfef 51 = .ok (.iadd, 1) := by decide +kernel
theorem dJ2_indexOfSupplementary_4cfef_52 : decode cJ2_indexOfSupplementary_4cfef 52 = .ok (.invokestatic 71, 3) := by decide +kernel
theorem dJ2_indexOfSupplementary_4cfef_55 : decode cJ2_indexOfSupplementary_4cfef 55 = .ok (.iload 5, 2) := by decide +kernel
theorem dJ2_indexOfSupplementary_4cfef_57 : decode cJ2_indexOfSupplementary_4cfef 57 = .ok (.if_icmp .ne 6, 3) := by decide +kernel
theorem dJ2_indexOfSupplementary_4cfef_60 : decode cJ2_indexOfSupplementary_4cfef 60 = .ok (.iload 6, 2) := by decide +kernel
theorem dJ2_indexOfSupplementary_4cfef_62 : decode cJ2_indexOfSupplementary_4cfef 62 = .ok (.ireturn, 1) := by decide +kernel
theorem dJ2_indexOfSupplementary_4cfef_63 : decode cJ2_indexOfSupplementary_4cfef 63 = .ok (.iinc 6 1, 3) := by decide +kernel
theorem dJ2_indexOfSupplementary_4cfef_66 : decode cJ2_indexOfSupplementary_4cfef 66 = .ok (.goto (-38), 3) := by decide +kernel
theorem dJ2_indexOfSupplementary_4cfef_69 : decode cJ2_indexOfSupplementary_4cfef 69 = .ok (.iconst (-1), 1) := by decide +kernel
theorem dJ2_indexOfSupplementary_4cfef_70 : decode cJ2_indexOfSupplementary_4cfef 70 = .ok (.ireturn, 1) := by decide +kernel
theorem dJ2_charAt_3b067_0 : decode cJ2_charAt_3b067 0 = .ok (.iload_n 1, 1) := by decide +kernel
theorem dJ2_charAt_3b067_1 : decode cJ2_charAt_3b067 1 = .ok (.aload_n 0, 1) := by decide +kernel
theorem dJ2_charAt_3b067_2 : decode cJ2_charAt_3b067 2 = .ok (.invokestatic 67, 3) := by decide +kernel
theorem dJ2_charAt_3b067_5 : decode cJ2_charAt_3b067 5 = .ok (.aload_n 0, 1) := by decide +kernel
theorem dJ2_charAt_3b067_6 : decode cJ2_charAt_3b067 6 = .ok (.iload_n 1, 1) := by decide +kernel
theorem dJ2_charAt_3b067_7 : decode cJ2_charAt_3b067 7 = .ok (.invokestatic 71, 3) := by decide +kernel
theorem dJ2_charAt_3b067_10 : decode cJ2_charAt_3b067 10 = .ok (.ireturn, 1) := by decide +kernel
theorem dJ2_checkIndex_2214a_0 : decode cJ2_checkIndex_2214a 0 = .ok (.iload_n 0, 1) := by decide +kernel
theorem dJ2_checkIndex_2214a_1 : decode cJ2_checkIndex_2214a 1 = .ok (.aload_n 1, 1) := by decide +kernel
theorem dJ2_checkIndex_2214a_2 : decode cJ2_checkIndex_2214a 2 = .ok (.invokestatic 48, 3) := by decide +kernel
theorem dJ2_checkIndex_2214a_5 : decode cJ2_checkIndex_2214a 5 = .ok (.invokestatic 414, 3) := by decide +kernel
theorem dJ2_checkIndex_2214a_8 : decode cJ2_checkIndex_2214a 8 = .ok (.return_, 1) := by decide +kernel
theorem dJ2_checkBoundsBeginEnd_d044e_0 : decode cJ2_checkBoundsBeginEnd_d044e 0 = .ok (.iload_n 0, 1) := by decide +kernel
theorem dJ2_checkBoundsBeginEnd_d044e_1 : decode cJ2_checkBoundsBeginEnd_d044e 1 = .ok (.iload_n 1, 1) := by decide +kernel
theorem dJ2_checkBoundsBeginEnd_d044e_2 : decode cJ2_checkBoundsBeginEnd_d044e 2 = .ok (.aload_n 2, 1) := by decide +kernel
theorem dJ2_checkBoundsBeginEnd_d044e_3 : decode cJ2_checkBoundsBeginEnd_d044e 3 = .ok (.invokestatic 48, 3) := by decide +kernel
theorem dJ2_checkBoundsBeginEnd_d044e_6 : decode cJ2_checkBoundsBeginEnd_d044e 6 = .ok (.invokestatic 241, 3) := by decide +kernel
theorem dJ2_checkBoundsBeginEnd_d044e_9 : decode cJ2_checkBoundsBeginEnd_d044e 9 = .ok (.return_, 1) := by decide +kernel
theorem dJ7_fill_53178_0 : decode cJ7_fill_53178 0 = .ok (.iconst 0, 1) := by decide +kernel
theorem dJ7_fill_53178_1 : decode cJ7_fill_53178 1 = .ok (.istore_n 2, 1) := by decide +kernel
theorem dJ7_fill_53178_2 : decode cJ7_fill_53178 2 = .ok (.aload_n 0, 1) := by decide +kernel
theorem dJ7_fill_53178_3 : decode cJ7_fill_53178 3 = .ok (.arraylength, 1) := by decide +kernel
theorem dJ7_fill_53178_4 : decode cJ7_fill_53178 4 = .ok (.istore_n 3, 1) := by decide +kernel
theorem dJ7_fill_53178_5 : decode cJ7_fill_53178 5 = .ok (.iload_n 2, 1) := by decide +kernel
theorem dJ7_fill_53178_6 : decode cJ7_fill_53178 6 = .ok (.iload_n 3, 1) := by decide +kernel
theorem dJ7_fill_53178_7 : decode cJ7_fill_53178 7 = .ok (.if_icmp .ge 13, 3) := by decide +kernel
theorem dJ7_fill_53178_10 : decode cJ7_fill_53178 10 = .ok (.aload_n 0, 1) := by decide +kernel
theorem dJ7_fill_53178_11 : decode cJ7_fill_53178 11 = .ok (.iload_n 2, 1) := by decide +kernel
theorem dJ7_fill_53178_12 : decode cJ7_fill_53178 12 = .ok (.iload_n 1, 1) := by decide +kernel
theorem dJ7_fill_53178_13 : decode cJ7_fill_53178 13 = .ok (.iastore, 1) := by decide +kernel
theorem dJ7_fill_53178_14 : decode cJ7_fill_53178 14 = .ok (.iinc 2 1, 3) := by decide +kernel
theorem dJ7_fill_53178_17 : decode cJ7_fill_53178 17 = .ok (.goto (-12), 3) := by decide +kernel
theorem dJ7_fill_53178_20 : decode cJ7_fill_53178 20 = .ok (.return_, 1) := by decide +kernel
theorem dJ3_checkIndex_8e157_0 : decode cJ3_checkIndex_8e157 0 = .ok (.iload_n 0, 1) := by decide +kernel
theorem dJ3_checkIndex_8e157_1 : decode cJ3_checkIndex_8e157 1 = .ok (.ifCond .lt 8, 3) := by decide +kernel
theorem dJ3_checkIndex_8e157_4 : decode cJ3_checkIndex_8e157 4 = .ok (.iload_n 0, 1) := by decide +kernel
theorem dJ3_checkIndex_8e157_5 : decode cJ3_checkIndex_8e157 5 = .ok (.iload_n 1, 1) := by decide +kernel
theorem dJ3_checkIndex_8e157_6 : decode cJ3_checkIndex_8e157 6 = .ok (.if_icmp .lt 10, 3) := by decide +kernel
theorem dJ3_checkIndex_8e157_9 : decode cJ3_checkIndex_8e157 9 = .ok (.aload_n 2, 1) := by decide +kernel
theorem dJ3_checkIndex_8e157_10 : decode cJ3_checkIndex_8e157 10 = .ok (.iload_n 0, 1) := by decide +kernel
theorem dJ3_checkIndex_8e157_11 : decode cJ3_checkIndex_8e157 11 = .ok (.iload_n 1, 1) := by decide +kernel
theorem dJ3_checkIndex_8e157_12 : decode cJ3_checkIndex_8e157 12 = .ok (.invokestatic 95, 3) := by decide +kernel
theorem dJ3_checkIndex_8e157_15 : decode cJ3_checkIndex_8e157 15 = .ok (.athrow, 1) := by decide +kernel
theorem dJ3_checkIndex_8e157_16 : decode cJ3_checkIndex_8e157 16 = .ok (.iload_n 0, 1) := by decide +kernel
theorem dJ3_checkIndex_8e157_17 : decode cJ3_checkIndex_8e157 17 = .ok (.ireturn, 1) := by decide +kernel
theorem dJ3_checkFromToIndex_8c36e_0 : decode cJ3_checkFromToIndex_8c36e 0 = .ok (.iload_n 0, 1) := by decide +kernel
theorem dJ3_checkFromToIndex_8c36e_1 : decode cJ3_checkFromToIndex_8c36e 1 = .ok (.ifCond .lt 13, 3) := by decide +kernel
theorem dJ3_checkFromToIndex_8c36e_4 : decode cJ3_checkFromToIndex_8c36e 4 = .ok (.iload_n 0, 1) := by decide +kernel
theorem dJ3_checkFromToIndex_8c36e_5 : decode cJ3_checkFromToIndex_8c36e 5 = .ok (.iload_n 1, 1) := by decide +kernel
theorem dJ3_checkFromToIndex_8c36e_6 : decode cJ3_checkFromToIndex_8c36e 6 = .ok (.if_icmp .gt 8, 3) := by decide +kernel
theorem dJ3_checkFromToIndex_8c36e_9 : decode cJ3_checkFromToIndex_8c36e 9 = .ok (.iload_n 1, 1) := by decide +kernel
theorem dJ3_checkFromToIndex_8c36e_10 : decode cJ3_checkFromToIndex_8c36e 10 = .ok (.iload_n 2, 1) := by decide +kernel
theorem dJ3_checkFromToIndex_8c36e_11 : decode cJ3_checkFromToIndex_8c36e 11 = .ok (.if_icmp .le 11, 3) := by decide +kernel
theorem dJ3_checkFromToIndex_8c36e_14 : decode cJ3_checkFromToIndex_8c36e 14 = .ok (.aload_n 3, 1) := by decide +kernel
theorem dJ3_checkFromToIndex_8c36e_15 : decode cJ3_checkFromToIndex_8c36e 15 = .ok (.iload_n 0, 1) := by decide +kernel
theorem dJ3_checkFromToIndex_8c36e_16 : decode cJ3_checkFromToIndex_8c36e 16 = .ok (.iload_n 1, 1) := by decide +kernel
theorem dJ3_checkFromToIndex_8c36e_17 : decode cJ3_checkFromToIndex_8c36e 17 = .ok (.iload_n 2, 1) := by decide +kernel
theorem dJ3_checkFromToIndex_8c36e_18 : decode cJ3_checkFromToIndex_8c36e 18 = .ok (.invokestatic 99, 3) := by decide +kernel
theorem dJ3_checkFromToIndex_8c36e_21 : decode cJ3_checkFromToIndex_8c36e 21 = .ok (.athrow, 1) := by decide +kernel
theorem dJ3_checkFromToIndex_8c36e_22 : decode cJ3_checkFromToIndex_8c36e 22 = .ok (.iload_n 0, 1) := by decide +kernel
theorem dJ3_checkFromToIndex_8c36e_23 : decode cJ3_checkFromToIndex_8c36e 23 = .ok (.ireturn, 1) := by decide +kernel
theorem dL_law_0 : decode cL_law 0 = .ok (.new 7, 3) := by decide +kernel
theorem dL_law_3 : decode cL_law 3 = .ok (.dup, 1) := by decide +kernel
theorem dL_law_4 : decode cL_law 4 = .ok (.invokespecial 9, 3) := by decide +kernel
theorem dL_law_7 : decode cL_law 7 = .ok (.astore_n 1, 1) := by decide +kernel
theorem dL_law_8 : decode cL_law 8 = .ok (.new 10, 3) := by decide +kernel
theorem dL_law_11 : decode cL_law 11 = .ok (.dup, 1) := by decide +kernel
theorem dL_law_12 : decode cL_law 12 = .ok (.invokespecial 12, 3) := by decide +kernel
theorem dL_law_15 : decode cL_law 15 = .ok (.astore_n 2, 1) := by decide +kernel
theorem dL_law_16 : decode cL_law 16 = .ok (.iconst 0, 1) := by decide +kernel
theorem dL_law_17 : decode cL_law 17 = .ok (.istore_n 3, 1) := by decide +kernel
theorem dL_law_18 : decode cL_law 18 = .ok (.iload_n 3, 1) := by decide +kernel
theorem dL_law_19 : decode cL_law 19 = .ok (.aload_n 0, 1) := by decide +kernel
theorem dL_law_20 : decode cL_law 20 = .ok (.arraylength, 1) := by decide +kernel
theorem dL_law_21 : decode cL_law 21 = .ok (.bipush 6, 2) := by decide +kernel
theorem dL_law_23 : decode cL_law 23 = .ok (.isub, 1) := by decide +kernel
theorem dL_law_24 : decode cL_law 24 = .ok (.if_icmp .gt 1606, 3) := by decide +kernel
theorem dL_law_27 : decode cL_law 27 = .ok (.aload_n 0, 1) := by decide +kernel
theorem dL_law_28 : decode cL_law 28 = .ok (.iload_n 3, 1) := by decide +kernel
theorem dL_law_29 : decode cL_law 29 = .ok (.iaload, 1) := by decide +kernel
theorem dL_law_30 : decode cL_law 30 = .ok (.bipush 63, 2) := by decide +kernel
theorem dL_law_32 : decode cL_law 32 = .ok (.iand, 1) := by decide +kernel
theorem dL_law_33 : decode cL_law 33 = .ok (.tableswitch 1591 0 37 #[167, 230, 253, 266, 289, 312, 345, 388, 431, 474, 507, 560, 593, 636, 659, 672, 715, 758, 801, 834, 877, 900, 923, 966, 1029, 1082, 1125, 1168, 1211, 1264, 1317, 1370, 1403, 1426, 1449, 1482, 1525, 1568], 167) := by decide +kernel
theorem dL_law_200 : decode cL_law 200 = .ok (.aload_n 1, 1) := by decide +kernel
theorem dL_law_201 : decode cL_law 201 = .ok (.aload_n 0, 1) := by decide +kernel
theorem dL_law_202 : decode cL_law 202 = .ok (.iload_n 3, 1) := by decide +kernel
theorem dL_law_203 : decode cL_law 203 = .ok (.iconst 1, 1) := by decide +kernel
theorem dL_law_204 : decode cL_law 204 = .ok (.iadd, 1) := by decide +kernel
theorem dL_law_205 : decode cL_law 205 = .ok (.iaload, 1) := by decide +kernel
theorem dL_law_206 : decode cL_law 206 = .ok (.aload_n 0, 1) := by decide +kernel
theorem dL_law_207 : decode cL_law 207 = .ok (.iload_n 3, 1) := by decide +kernel
theorem dL_law_208 : decode cL_law 208 = .ok (.iconst 2, 1) := by decide +kernel
theorem dL_law_209 : decode cL_law 209 = .ok (.iadd, 1) := by decide +kernel
theorem dL_law_210 : decode cL_law 210 = .ok (.iaload, 1) := by decide +kernel
theorem dL_law_211 : decode cL_law 211 = .ok (.aload_n 0, 1) := by decide +kernel
theorem dL_law_212 : decode cL_law 212 = .ok (.iload_n 3, 1) := by decide +kernel
theorem dL_law_213 : decode cL_law 213 = .ok (.iconst 3, 1) := by decide +kernel
theorem dL_law_214 : decode cL_law 214 = .ok (.iadd, 1) := by decide +kernel
theorem dL_law_215 : decode cL_law 215 = .ok (.iaload, 1) := by decide +kernel
theorem dL_law_216 : decode cL_law 216 = .ok (.aload_n 0, 1) := by decide +kernel
theorem dL_law_217 : decode cL_law 217 = .ok (.iload_n 3, 1) := by decide +kernel
theorem dL_law_218 : decode cL_law 218 = .ok (.iconst 4, 1) := by decide +kernel
theorem dL_law_219 : decode cL_law 219 = .ok (.iadd, 1) := by decide +kernel
theorem dL_law_220 : decode cL_law 220 = .ok (.iaload, 1) := by decide +kernel
theorem dL_law_221 : decode cL_law 221 = .ok (.aload_n 0, 1) := by decide +kernel
theorem dL_law_222 : decode cL_law 222 = .ok (.iload_n 3, 1) := by decide +kernel
theorem dL_law_223 : decode cL_law 223 = .ok (.iconst 5, 1) := by decide +kernel
theorem dL_law_224 : decode cL_law 224 = .ok (.iadd, 1) := by decide +kernel
theorem dL_law_225 : decode cL_law 225 = .ok (.iaload, 1) := by decide +kernel
theorem dL_law_226 : decode cL_law 226 = .ok (.invokevirtual 13, 3) := by decide +kernel
theorem dL_law_229 : decode cL_law 229 = .ok (.pop, 1) := by decide +kernel
theorem dL_law_230 : decode cL_law 230 = .ok (.aload_n 2, 1) := by decide +kernel
theorem dL_law_231 : decode cL_law 231 = .ok (.aload_n 0, 1) := by decide +kernel
theorem dL_law_232 : decode cL_law 232 = .ok (.iload_n 3, 1) := by decide +kernel
theorem dL_law_233 : decode cL_law 233 = .ok (.iconst 1, 1) := by decide +kernel
theorem dL_law_234 : decode cL_law 234 = .ok (.iadd, 1) := by decide +kernel
theorem dL_law_235 : decode cL_law 235 = .ok (.iaload, 1) := by decide +kernel
theorem dL_law_236 : decode cL_law 236 = .ok (.aload_n 0, 1) := by decide +kernel
theorem dL_law_237 : decode cL_law 237 = .ok (.iload_n 3, 1) := by decide +kernel
theorem dL_law_238 : decode cL_law 238 = .ok (.iconst 2, 1) := by decide +kernel
theorem dL_law_239 : decode cL_law 239 = .ok (.iadd, 1) := by decide +kernel
theorem dL_law_240 : decode cL_law 240 = .ok (.iaload, 1) := by decide +kernel
theorem dL_law_241 : decode cL_law 241 = .ok (.aload_n 0, 1) := by decide +kernel
theorem dL_law_242 : decode cL_law 242 = .ok (.iload_n 3, 1) := by decide +kernel
theorem dL_law_243 : decode cL_law 243 = .ok (.iconst 3, 1) := by decide +kernel
theorem dL_law_244 : decode cL_law 244 = .ok (.iadd, 1) := by decide +kernel
theorem dL_law_245 : decode cL_law 245 = .ok (.iaload, 1) := by decide +kernel
theorem dL_law_246 : decode cL_law 246 = .ok (.aload_n 0, 1) := by decide +kernel
theorem dL_law_247 : decode cL_law 247 = .ok (.iload_n 3, 1) := by decide +kernel
theorem dL_law_248 : decode cL_law 248 = .ok (.iconst 4, 1) := by decide +kernel
theorem dL_law_249 : decode cL_law 249 = .ok (.iadd, 1) := by decide +kernel
theorem dL_law_250 : decode cL_law 250 = .ok (.iaload, 1) := by decide +kernel
theorem dL_law_251 : decode cL_law 251 = .ok (.aload_n 0, 1) := by decide +kernel
theorem dL_law_252 : decode cL_law 252 = .ok (.iload_n 3, 1) := by decide +kernel
theorem dL_law_253 : decode cL_law 253 = .ok (.iconst 5, 1) := by decide +kernel
theorem dL_law_254 : decode cL_law 254 = .ok (.iadd, 1) := by decide +kernel
theorem dL_law_255 : decode cL_law 255 = .ok (.iaload, 1) := by decide +kernel
theorem dL_law_256 : decode cL_law 256 = .ok (.invokevirtual 17, 3) := by decide +kernel
theorem dL_law_259 : decode cL_law 259 = .ok (.pop, 1) := by decide +kernel
theorem dL_law_260 : decode cL_law 260 = .ok (.goto 1364, 3) := by decide +kernel
theorem dL_law_263 : decode cL_law 263 = .ok (.aload_n 1, 1) := by decide +kernel
theorem dL_law_264 : decode cL_law 264 = .ok (.aload_n 0, 1) := by decide +kernel
theorem dL_law_265 : decode cL_law 265 = .ok (.iload_n 3, 1) := by decide +kernel
theorem dL_law_266 : decode cL_law 266 = .ok (.iconst 1, 1) := by decide +kernel
theorem dL_law_267 : decode cL_law 267 = .ok (.iadd, 1) := by decide +kernel
theorem dL_law_268 : decode cL_law 268 = .ok (.iaload, 1) := by decide +kernel
theorem dL_law_269 : decode cL_law 269 = .ok (.invokevirtual 18, 3) := by decide +kernel
theorem dL_law_272 : decode cL_law 272 = .ok (.pop, 1) := by decide +kernel
theorem dL_law_273 : decode cL_law 273 = .ok (.aload_n 2, 1) := by decide +kernel
theorem dL_law_274 : decode cL_law 274 = .ok (.aload_n 0, 1) := by decide +kernel
theorem dL_law_275 : decode cL_law 275 = .ok (.iload_n 3, 1) := by decide +kernel
theorem dL_law_276 : decode cL_law 276 = .ok (.iconst 1, 1) := by decide +kernel
theorem dL_law_277 : decode cL_law 277 = .ok (.iadd, 1) := by decide +kernel
theorem dL_law_278 : decode cL_law 278 = .ok (.iaload, 1) := by decide +kernel
theorem dL_law_279 : decode cL_law 279 = .ok (.invokevirtual 22, 3) := by decide +kernel
theorem dL_law_282 : decode cL_law 282 = .ok (.pop, 1) := by decide +kernel
theorem dL_law_283 : decode cL_law 283 = .ok (.goto 1341, 3) := by decide +kernel
theorem dL_law_286 : decode cL_law 286 = .ok (.aload_n 1, 1) := by decide +kernel
theorem dL_law_287 : decode cL_law 287 = .ok (.invokevirtual 23, 3) := by decide +kernel
theorem dL_law_290 : decode cL_law 290 = .ok (.pop, 1) := by decide +kernel
theorem dL_law_291 : decode cL_law 291 = .ok (.aload_n 2, 1) := by decide +kernel
theorem dL_law_292 : decode cL_law 292 = .ok (.invokevirtual 27, 3) := by decide +kernel
theorem dL_law_295 : decode cL_law 295 = .ok (.pop, 1) := by decide +kernel
theorem dL_law_296 : decode cL_law 296 = .ok (.goto 1328, 3) := by decide +kernel
theorem dL_law_299 : decode cL_law 299 = .ok (.aload_n 1, 1) := by decide +kernel
theorem dL_law_300 : decode cL_law 300 = .ok (.aload_n 0, 1) := by decide +kernel
theorem dL_law_301 : decode cL_law 301 = .ok (.iload_n 3, 1) := by decide +kernel
theorem dL_law_302 : decode cL_law 302 = .ok (.iconst 1, 1) := by decide +kernel
theorem dL_law_303 : decode cL_law 303 = .ok (.iadd, 1) := by decide +kernel
theorem dL_law_304 : decode cL_law 304 = .ok (.iaload, 1) := by decide +kernel
theorem dL_law_305 : decode cL_law 305 = .ok (.invokevirtual 28, 3) := by decide +kernel
theorem dL_law_308 : decode cL_law 308 = .ok (.pop, 1) := by decide +kernel
theorem dL_law_309 : decode cL_law 309 = .ok (.aload_n 2, 1) := by decide +kernel
theorem dL_law_310 : decode cL_law 310 = .ok (.aload_n 0, 1) := by decide +kernel
theorem dL_law_311 : decode cL_law 311 = .ok (.iload_n 3, 1) := by decide +kernel
theorem dL_law_312 : decode cL_law 312 = .ok (.iconst 1, 1) := by decide +kernel
theorem dL_law_313 : decode cL_law 313 = .ok (.iadd, 1) := by decide +kernel
theorem dL_law_314 : decode cL_law 314 = .ok (.iaload, 1) := by decide +kernel
theorem dL_law_315 : decode cL_law 315 = .ok (.invokevirtual 31, 3) := by decide +kernel
theorem dL_law_318 : decode cL_law 318 = .ok (.pop, 1) := by decide +kernel
theorem dL_law_319 : decode cL_law 319 = .ok (.goto 1305, 3) := by decide +kernel
theorem dL_law_322 : decode cL_law 322 = .ok (.aload_n 1, 1) := by decide +kernel
theorem dL_law_323 : decode cL_law 323 = .ok (.aload_n 0, 1) := by decide +kernel
theorem dL_law_324 : decode cL_law 324 = .ok (.iload_n 3, 1) := by decide +kernel
theorem dL_law_325 : decode cL_law 325 = .ok (.iconst 1, 1) := by decide +kernel
theorem dL_law_326 : decode cL_law 326 = .ok (.iadd, 1) := by decide +kernel
theorem dL_law_327 : decode cL_law 327 = .ok (.iaload, 1) := by decide +kernel
theorem dL_law_328 : decode cL_law 328 = .ok (.invokevirtual 32, 3) := by decide +kernel
theorem dL_law_331 : decode cL_law 331 = .ok (.pop, 1) := by decide +kernel
theorem dL_law_332 : decode cL_law 332 = .ok (.aload_n 2, 1) := by decide +kernel
theorem dL_law_333 : decode cL_law 333 = .ok (.aload_n 0, 1) := by decide +kernel
theorem dL_law_334 : decode cL_law 334 = .ok (.iload_n 3, 1) := by decide +kernel
theorem dL_law_335 : decode cL_law 335 = .ok (.iconst 1, 1) := by decide +kernel
theorem dL_law_336 : decode cL_law 336 = .ok (.iadd, 1) := by decide +kernel
theorem dL_law_337 : decode cL_law 337 = .ok (.iaload, 1) := by decide +kernel
theorem dL_law_338 : decode cL_law 338 = .ok (.invokevirtual 35, 3) := by decide +kernel
theorem dL_law_341 : decode cL_law 341 = .ok (.pop, 1) := by decide +kernel
theorem dL_law_342 : decode cL_law 342 = .ok (.goto 1282, 3) := by decide +kernel
theorem dL_law_345 : decode cL_law 345 = .ok (.aload_n 1, 1) := by decide +kernel
theorem dL_law_346 : decode cL_law 346 = .ok (.aload_n 0, 1) := by decide +kernel
theorem dL_law_347 : decode cL_law 347 = .ok (.iload_n 3, 1) := by decide +kernel
theorem dL_law_348 : decode cL_law 348 = .ok (.iconst 1, 1) := by decide +kernel
theorem dL_law_349 : decode cL_law 349 = .ok (.iadd, 1) := by decide +kernel
theorem dL_law_350 : decode cL_law 350 = .ok (.iaload, 1) := by decide +kernel
theorem dL_law_351 : decode cL_law 351 = .ok (.aload_n 0, 1) := by decide +kernel
theorem dL_law_352 : decode cL_law 352 = .ok (.iload_n 3, 1) := by decide +kernel
theorem dL_law_353 : decode cL_law 353 = .ok (.iconst 2, 1) := by decide +kernel
theorem dL_law_354 : decode cL_law 354 = .ok (.iadd, 1) := by decide +kernel
theorem dL_law_355 : decode cL_law 355 = .ok (.iaload, 1) := by decide +kernel
theorem dL_law_356 : decode cL_law 356 = .ok (.invokevirtual 36, 3) := by decide +kernel
theorem dL_law_359 : decode cL_law 359 = .ok (.pop, 1) := by decide +kernel
theorem dL_law_360 : decode cL_law 360 = .ok (.aload_n 2, 1) := by decide +kernel
theorem dL_law_361 : decode cL_law 361 = .ok (.aload_n 0, 1) := by decide +kernel
theorem dL_law_362 : decode cL_law 362 = .ok (.iload_n 3, 1) := by decide +kernel
theorem dL_law_363 : decode cL_law 363 = .ok (.iconst 1, 1) := by decide +kernel
theorem dL_law_364 : decode cL_law 364 = .ok (.iadd, 1) := by decide +kernel
theorem dL_law_365 : decode cL_law 365 = .ok (.iaload, 1) := by decide +kernel
theorem dL_law_366 : decode cL_law 366 = .ok (.aload_n 0, 1) := by decide +kernel
theorem dL_law_367 : decode cL_law 367 = .ok (.iload_n 3, 1) := by decide +kernel
theorem dL_law_368 : decode cL_law 368 = .ok (.iconst 2, 1) := by decide +kernel
theorem dL_law_369 : decode cL_law 369 = .ok (.iadd, 1) := by decide +kernel
theorem dL_law_370 : decode cL_law 370 = .ok (.iaload, 1) := by decide +kernel
theorem dL_law_371 : decode cL_law 371 = .ok (.invokevirtual 40, 3) := by decide +kernel
theorem dL_law_374 : decode cL_law 374 = .ok (.pop, 1) := by decide +kernel
theorem dL_law_375 : decode cL_law 375 = .ok (.goto 1249, 3) := by decide +kernel
theorem dL_law_378 : decode cL_law 378 = .ok (.aload_n 1, 1) := by decide +kernel
theorem dL_law_379 : decode cL_law 379 = .ok (.aload_n 0, 1) := by decide +kernel
theorem dL_law_380 : decode cL_law 380 = .ok (.iload_n 3, 1) := by decide +kernel
theorem dL_law_381 : decode cL_law 381 = .ok (.iconst 1, 1) := by decide +kernel
theorem dL_law_382 : decode cL_law 382 = .ok (.iadd, 1) := by decide +kernel
theorem dL_law_383 : decode cL_law 383 = .ok (.iaload, 1) := by decide +kernel
theorem dL_law_384 : decode cL_law 384 = .ok (.aload_n 0, 1) := by decide +kernel
theorem dL_law_385 : decode cL_law 385 = .ok (.iload_n 3, 1) := by decide +kernel
theorem dL_law_386 : decode cL_law 386 = .ok (.iconst 2, 1) := by decide +kernel
theorem dL_law_387 : decode cL_law 387 = .ok (.iadd, 1) := by decide +kernel
theorem dL_law_388 : decode cL_law 388 = .ok (.iaload, 1) := by decide +kernel
theorem dL_law_389 : decode cL_law 389 = .ok (.aload_n 0, 1) := by decide +kernel
theorem dL_law_390 : decode cL_law 390 = .ok (.iload_n 3, 1) := by decide +kernel
theorem dL_law_391 : decode cL_law 391 = .ok (.iconst 3, 1) := by decide +kernel
theorem dL_law_392 : decode cL_law 392 = .ok (.iadd, 1) := by decide +kernel
theorem dL_law_393 : decode cL_law 393 = .ok (.iaload, 1) := by decide +kernel
theorem dL_law_394 : decode cL_law 394 = .ok (.invokevirtual 41, 3) := by decide +kernel
theorem dL_law_397 : decode cL_law 397 = .ok (.pop, 1) := by decide +kernel
theorem dL_law_398 : decode cL_law 398 = .ok (.aload_n 2, 1) := by decide +kernel
theorem dL_law_399 : decode cL_law 399 = .ok (.aload_n 0, 1) := by decide +kernel
theorem dL_law_400 : decode cL_law 400 = .ok (.iload_n 3, 1) := by decide +kernel
theorem dL_law_401 : decode cL_law 401 = .ok (.iconst 1, 1) := by decide +kernel
theorem dL_law_402 : decode cL_law 402 = .ok (.iadd, 1) := by decide +kernel
theorem dL_law_403 : decode cL_law 403 = .ok (.iaload, 1) := by decide +kernel
theorem dL_law_404 : decode cL_law 404 = .ok (.aload_n 0, 1) := by decide +kernel
theorem dL_law_405 : decode cL_law 405 = .ok (.iload_n 3, 1) := by decide +kernel
theorem dL_law_406 : decode cL_law 406 = .ok (.iconst 2, 1) := by decide +kernel
theorem dL_law_407 : decode cL_law 407 = .ok (.iadd, 1) := by decide +kernel
theorem dL_law_408 : decode cL_law 408 = .ok (.iaload, 1) := by decide +kernel
theorem dL_law_409 : decode cL_law 409 = .ok (.aload_n 0, 1) := by decide +kernel
theorem dL_law_410 : decode cL_law 410 = .ok (.iload_n 3, 1) := by decide +kernel
theorem dL_law_411 : decode cL_law 411 = .ok (.iconst 3, 1) := by decide +kernel
theorem dL_law_412 : decode cL_law 412 = .ok (.iadd, 1) := by decide +kernel
theorem dL_law_413 : decode cL_law 413 = .ok (.iaload, 1) := by decide +kernel
theorem dL_law_414 : decode cL_law 414 = .ok (.invokevirtual 45, 3) := by decide +kernel
theorem dL_law_417 : decode cL_law 417 = .ok (.pop, 1) := by decide +kernel
theorem dL_law_418 : decode cL_law 418 = .ok (.goto 1206, 3) := by decide +kernel
theorem dL_law_421 : decode cL_law 421 = .ok (.aload_n 1, 1) := by decide +kernel
theorem dL_law_422 : decode cL_law 422 = .ok (.aload_n 0, 1) := by decide +kernel
theorem dL_law_423 : decode cL_law 423 = .ok (.iload_n 3, 1) := by decide +kernel
theorem dL_law_424 : decode cL_law 424 = .ok (.iconst 1, 1) := by decide +kernel
theorem dL_law_425 : decode cL_law 425 = .ok (.iadd, 1) := by decide +kernel
theorem dL_law_426 : decode cL_law 426 = .ok (.iaload, 1) := by decide +kernel
theorem dL_law_427 : decode cL_law 427 = .ok (.aload_n 0, 1) := by decide +kernel
theorem dL_law_428 : decode cL_law 428 = .ok (.iload_n 3, 1) := by decide +kernel
theorem dL_law_429 : decode cL_law 429 = .ok (.iconst 2, 1) := by decide +kernel
theorem dL_law_430 : decode cL_law 430 = .ok (.iadd, 1) := by decide +kernel
theorem dL_law_431 : decode cL_law 431 = .ok (.iaload, 1) := by decide +kernel
theorem dL_law_432 : decode cL_law 432 = .ok (.aload_n 0, 1) := by decide +kernel
theorem dL_law_433 : decode cL_law 433 = .ok (.iload_n 3, 1) := by decide +kernel
theorem dL_law_434 : decode cL_law 434 = .ok (.iconst 3, 1) := by decide +kernel
theorem dL_law_435 : decode cL_law 435 = .ok (.iadd, 1) := by decide +kernel
theorem dL_law_436 : decode cL_law 436 = .ok (.iaload, 1) := by decide +kernel
theorem dL_law_437 : decode cL_law 437 = .ok (.invokevirtual 46, 3) := by decide +kernel
theorem dL_law_440 : decode cL_law 440 = .ok (.pop, 1) := by decide +kernel
theorem dL_law_441 : decode cL_law 441 = .ok (.aload_n 2, 1) := by decide +kernel
theorem dL_law_442 : decode cL_law 442 = .ok (.aload_n 0, 1) := by decide +kernel
theorem dL_law_443 : decode cL_law 443 = .ok (.iload_n 3, 1) := by decide +kernel
theorem dL_law_444 : decode cL_law 444 = .ok (.iconst 1, 1) := by decide +kernel
theorem dL_law_445 : decode cL_law 445 = .ok (.iadd, 1) := by decide +kernel
theorem dL_law_446 : decode cL_law 446 = .ok (.iaload, 1) := by decide +kernel
theorem dL_law_447 : decode cL_law 447 = .ok (.aload_n 0, 1) := by decide +kernel
theorem dL_law_448 : decode cL_law 448 = .ok (.iload_n 3, 1) := by decide +kernel
theorem dL_law_449 : decode cL_law 449 = .ok (.iconst 2, 1) := by decide +kernel
theorem dL_law_450 : decode cL_law 450 = .ok (.iadd, 1) := by decide +kernel
theorem dL_law_451 : decode cL_law 451 = .ok (.iaload, 1) := by decide +kernel
theorem dL_law_452 : decode cL_law 452 = .ok (.aload_n 0, 1) := by decide +kernel
theorem dL_law_453 : decode cL_law 453 = .ok (.iload_n 3, 1) := by decide +kernel
theorem dL_law_454 : decode cL_law 454 = .ok (.iconst 3, 1) := by decide +kernel
theorem dL_law_455 : decode cL_law 455 = .ok (.iadd, 1) := by decide +kernel
theorem dL_law_456 : decode cL_law 456 = .ok (.iaload, 1) := by decide +kernel
theorem dL_law_457 : decode cL_law 457 = .ok (.invokevirtual 50, 3) := by decide +kernel
theorem dL_law_460 : decode cL_law 460 = .ok (.pop, 1) := by decide +kernel
theorem dL_law_461 : decode cL_law 461 = .ok (.goto 1163, 3) := by decide +kernel
theorem dL_law_464 : decode cL_law 464 = .ok (.aload_n 1, 1) := by decide +kernel
theorem dL_law_465 : decode cL_law 465 = .ok (.aload_n 0, 1) := by decide +kernel
theorem dL_law_466 : decode cL_law 466 = .ok (.iload_n 3, 1) := by decide +kernel
theorem dL_law_467 : decode cL_law 467 = .ok (.iconst 1, 1) := by decide +kernel
theorem dL_law_468 : decode cL_law 468 = .ok (.iadd, 1) := by decide +kernel
theorem dL_law_469 : decode cL_law 469 = .ok (.iaload, 1) := by decide +kernel
theorem dL_law_470 : decode cL_law 470 = .ok (.aload_n 0, 1) := by decide +kernel
theorem dL_law_471 : decode cL_law 471 = .ok (.iload_n 3, 1) := by decide +kernel
theorem dL_law_472 : decode cL_law 472 = .ok (.iconst 2, 1) := by decide +kernel
theorem dL_law_473 : decode cL_law 473 = .ok (.iadd, 1) := by decide +kernel
theorem dL_law_474 : decode cL_law 474 = .ok (.iaload, 1) := by decide +kernel
theorem dL_law_475 : decode cL_law 475 = .ok (.aload_n 0, 1) := by decide +kernel
theorem dL_law_476 : decode cL_law 476 = .ok (.iload_n 3, 1) := by decide +kernel
theorem dL_law_477 : decode cL_law 477 = .ok (.iconst 3, 1) := by decide +kernel
theorem dL_law_478 : decode cL_law 478 = .ok (.iadd, 1) := by decide +kernel
theorem dL_law_479 : decode cL_law 479 = .ok (.iaload, 1) := by decide +kernel
theorem dL_law_480 : decode cL_law 480 = .ok (.invokevirtual 51, 3) := by decide +kernel
theorem dL_law_483 : decode cL_law 483 = .ok (.pop, 1) := by decide +kernel
theorem dL_law_484 : decode cL_law 484 = .ok (.aload_n 2, 1) := by decide +kernel
theorem dL_law_485 : decode cL_law 485 = .ok (.aload_n 0, 1) := by decide +kernel
theorem dL_law_486 : decode cL_law 486 = .ok (.iload_n 3, 1) := by decide +kernel
theorem dL_law_487 : decode cL_law 487 = .ok (.iconst 1, 1) := by decide +kernel
theorem dL_law_488 : decode cL_law 488 = .ok (.iadd, 1) := by decide +kernel
theorem dL_law_489 : decode cL_law 489 = .ok (.iaload, 1) := by decide +kernel
theorem dL_law_490 : decode cL_law 490 = .ok (.aload_n 0, 1) := by decide +kernel
theorem dL_law_491 : decode cL_law 491 = .ok (.iload_n 3, 1) := by decide +kernel
theorem dL_law_492 : decode cL_law 492 = .ok (.iconst 2, 1) := by decide +kernel
theorem dL_law_493 : decode cL_law 493 = .ok (.iadd, 1) := by decide +kernel
theorem dL_law_494 : decode cL_law 494 = .ok (.iaload, 1) := by decide +kernel
theorem dL_law_495 : decode cL_law 495 = .ok (.aload_n 0, 1) := by decide +kernel
theorem dL_law_496 : decode cL_law 496 = .ok (.iload_n 3, 1) := by decide +kernel
theorem dL_law_497 : decode cL_law 497 = .ok (.iconst 3, 1) := by decide +kernel
theorem dL_law_498 : decode cL_law 498 = .ok (.iadd, 1) := by decide +kernel
theorem dL_law_499 : decode cL_law 499 = .ok (.iaload, 1) := by decide +kernel
theorem dL_law_500 : decode cL_law 500 = .ok (.invokevirtual 54, 3) := by decide +kernel
theorem dL_law_503 : decode cL_law 503 = .ok (.pop, 1) := by decide +kernel
theorem dL_law_504 : decode cL_law 504 = .ok (.goto 1120, 3) := by decide +kernel
theorem dL_law_507 : decode cL_law 507 = .ok (.aload_n 1, 1) := by decide +kernel
theorem dL_law_508 : decode cL_law 508 = .ok (.aload_n 0, 1) := by decide +kernel
theorem dL_law_509 : decode cL_law 509 = .ok (.iload_n 3, 1) := by decide +kernel
theorem dL_law_510 : decode cL_law 510 = .ok (.iconst 1, 1) := by decide +kernel
theorem dL_law_511 : decode cL_law 511 = .ok (.iadd, 1) := by decide +kernel
theorem dL_law_512 : decode cL_law 512 = .ok (.iaload, 1) := by decide +kernel
theorem dL_law_513 : decode cL_law 513 = .ok (.aload_n 0, 1) := by decide +kernel
theorem dL_law_514 : decode cL_law 514 = .ok (.iload_n 3, 1) := by decide +kernel
theorem dL_law_515 : decode cL_law 515 = .ok (.iconst 2, 1) := by decide +kernel
theorem dL_law_516 : decode cL_law 516 = .ok (.iadd, 1) := by decide +kernel
theorem dL_law_517 : decode cL_law 517 = .ok (.iaload, 1) := by decide +kernel
theorem dL_law_518 : decode cL_law 518 = .ok (.invokevirtual 55, 3) := by decide +kernel
theorem dL_law_521 : decode cL_law 521 = .ok (.pop, 1) := by decide +kernel
theorem dL_law_522 : decode cL_law 522 = .ok (.aload_n 2, 1) := by decide +kernel
theorem dL_law_523 : decode cL_law 523 = .ok (.aload_n 0, 1) := by decide +kernel
theorem dL_law_524 : decode cL_law 524 = .ok (.iload_n 3, 1) := by decide +kernel
theorem dL_law_525 : decode cL_law 525 = .ok (.iconst 1, 1) := by decide +kernel
theorem dL_law_526 : decode cL_law 526 = .ok (.iadd, 1) := by decide +kernel
theorem dL_law_527 : decode cL_law 527 = .ok (.iaload, 1) := by decide +kernel
theorem dL_law_528 : decode cL_law 528 = .ok (.aload_n 0, 1) := by decide +kernel
theorem dL_law_529 : decode cL_law 529 = .ok (.iload_n 3, 1) := by decide +kernel
theorem dL_law_530 : decode cL_law 530 = .ok (.iconst 2, 1) := by decide +kernel
theorem dL_law_531 : decode cL_law 531 = .ok (.iadd, 1) := by decide +kernel
theorem dL_law_532 : decode cL_law 532 = .ok (.iaload, 1) := by decide +kernel
theorem dL_law_533 : decode cL_law 533 = .ok (.invokevirtual 58, 3) := by decide +kernel
theorem dL_law_536 : decode cL_law 536 = .ok (.pop, 1) := by decide +kernel
theorem dL_law_537 : decode cL_law 537 = .ok (.goto 1087, 3) := by decide +kernel
theorem dL_law_540 : decode cL_law 540 = .ok (.aload_n 1, 1) := by decide +kernel
theorem dL_law_541 : decode cL_law 541 = .ok (.aload_n 0, 1) := by decide +kernel
theorem dL_law_542 : decode cL_law 542 = .ok (.iload_n 3, 1) := by decide +kernel
theorem dL_law_543 : decode cL_law 543 = .ok (.iconst 1, 1) := by decide +kernel
theorem dL_law_544 : decode cL_law 544 = .ok (.iadd, 1) := by decide +kernel
theorem dL_law_545 : decode cL_law 545 = .ok (.iaload, 1) := by decide +kernel
theorem dL_law_546 : decode cL_law 546 = .ok (.aload_n 0, 1) := by decide +kernel
theorem dL_law_547 : decode cL_law 547 = .ok (.iload_n 3, 1) := by decide +kernel
theorem dL_law_548 : decode cL_law 548 = .ok (.iconst 2, 1) := by decide +kernel
theorem dL_law_549 : decode cL_law 549 = .ok (.iadd, 1) := by decide +kernel
theorem dL_law_550 : decode cL_law 550 = .ok (.iaload, 1) := by decide +kernel
theorem dL_law_551 : decode cL_law 551 = .ok (.aload_n 0, 1) := by decide +kernel
theorem dL_law_552 : decode cL_law 552 = .ok (.iload_n 3, 1) := by decide +kernel
theorem dL_law_553 : decode cL_law 553 = .ok (.iconst 3, 1) := by decide +kernel
theorem dL_law_554 : decode cL_law 554 = .ok (.iadd, 1) := by decide +kernel
theorem dL_law_555 : decode cL_law 555 = .ok (.iaload, 1) := by decide +kernel
theorem dL_law_556 : decode cL_law 556 = .ok (.aload_n 0, 1) := by decide +kernel
theorem dL_law_557 : decode cL_law 557 = .ok (.iload_n 3, 1) := by decide +kernel
theorem dL_law_558 : decode cL_law 558 = .ok (.iconst 4, 1) := by decide +kernel
theorem dL_law_559 : decode cL_law 559 = .ok (.iadd, 1) := by decide +kernel
theorem dL_law_560 : decode cL_law 560 = .ok (.iaload, 1) := by decide +kernel
theorem dL_law_561 : decode cL_law 561 = .ok (.invokevirtual 59, 3) := by decide +kernel
theorem dL_law_564 : decode cL_law 564 = .ok (.pop, 1) := by decide +kernel
theorem dL_law_565 : decode cL_law 565 = .ok (.aload_n 2, 1) := by decide +kernel
theorem dL_law_566 : decode cL_law 566 = .ok (.aload_n 0, 1) := by decide +kernel
theorem dL_law_567 : decode cL_law 567 = .ok (.iload_n 3, 1) := by decide +kernel
theorem dL_law_568 : decode cL_law 568 = .ok (.iconst 1, 1) := by decide +kernel
theorem dL_law_569 : decode cL_law 569 = .ok (.iadd, 1) := by decide +kernel
theorem dL_law_570 : decode cL_law 570 = .ok (.iaload, 1) := by decide +kernel
theorem dL_law_571 : decode cL_law 571 = .ok (.aload_n 0, 1) := by decide +kernel
theorem dL_law_572 : decode cL_law 572 = .ok (.iload_n 3, 1) := by decide +kernel
theorem dL_law_573 : decode cL_law 573 = .ok (.iconst 2, 1) := by decide +kernel
theorem dL_law_574 : decode cL_law 574 = .ok (.iadd, 1) := by decide +kernel
theorem dL_law_575 : decode cL_law 575 = .ok (.iaload, 1) := by decide +kernel
theorem dL_law_576 : decode cL_law 576 = .ok (.aload_n 0, 1) := by decide +kernel
theorem dL_law_577 : decode cL_law 577 = .ok (.iload_n 3, 1) := by decide +kernel
theorem dL_law_578 : decode cL_law 578 = .ok (.iconst 3, 1) := by decide +kernel
theorem dL_law_579 : decode cL_law 579 = .ok (.iadd, 1) := by decide +kernel
theorem dL_law_580 : decode cL_law 580 = .ok (.iaload, 1) := by decide +kernel
theorem dL_law_581 : decode cL_law 581 = .ok (.aload_n 0, 1) := by decide +kernel
theorem dL_law_582 : decode cL_law 582 = .ok (.iload_n 3, 1) := by decide +kernel
theorem dL_law_583 : decode cL_law 583 = .ok (.iconst 4, 1) := by decide +kernel
theorem dL_law_584 : decode cL_law 584 = .ok (.iadd, 1) := by decide +kernel
theorem dL_law_585 : decode cL_law 585 = .ok (.iaload, 1) := by decide +kernel
theorem dL_law_586 : decode cL_law 586 = .ok (.invokevirtual 63, 3) := by decide +kernel
theorem dL_law_589 : decode cL_law 589 = .ok (.pop, 1) := by decide +kernel
theorem dL_law_590 : decode cL_law 590 = .ok (.goto 1034, 3) := by decide +kernel
theorem dL_law_593 : decode cL_law 593 = .ok (.aload_n 1, 1) := by decide +kernel
theorem dL_law_594 : decode cL_law 594 = .ok (.aload_n 0, 1) := by decide +kernel
theorem dL_law_595 : decode cL_law 595 = .ok (.iload_n 3, 1) := by decide +kernel
theorem dL_law_596 : decode cL_law 596 = .ok (.iconst 1, 1) := by decide +kernel
theorem dL_law_597 : decode cL_law 597 = .ok (.iadd, 1) := by decide +kernel
theorem dL_law_598 : decode cL_law 598 = .ok (.iaload, 1) := by decide +kernel
theorem dL_law_599 : decode cL_law 599 = .ok (.aload_n 0, 1) := by decide +kernel
theorem dL_law_600 : decode cL_law 600 = .ok (.iload_n 3, 1) := by decide +kernel
theorem dL_law_601 : decode cL_law 601 = .ok (.iconst 2, 1) := by decide +kernel
theorem dL_law_602 : decode cL_law 602 = .ok (.iadd, 1) := by decide +kernel
theorem dL_law_603 : decode cL_law 603 = .ok (.iaload, 1) := by decide +kernel
theorem dL_law_604 : decode cL_law 604 = .ok (.invokevirtual 64, 3) := by decide +kernel
theorem dL_law_607 : decode cL_law 607 = .ok (.pop, 1) := by decide +kernel
theorem dL_law_608 : decode cL_law 608 = .ok (.aload_n 2, 1) := by decide +kernel
theorem dL_law_609 : decode cL_law 609 = .ok (.aload_n 0, 1) := by decide +kernel
theorem dL_law_610 : decode cL_law 610 = .ok (.iload_n 3, 1) := by decide +kernel
theorem dL_law_611 : decode cL_law 611 = .ok (.iconst 1, 1) := by decide +kernel
theorem dL_law_612 : decode cL_law 612 = .ok (.iadd, 1) := by decide +kernel
theorem dL_law_613 : decode cL_law 613 = .ok (.iaload, 1) := by decide +kernel
theorem dL_law_614 : decode cL_law 614 = .ok (.aload_n 0, 1) := by decide +kernel
theorem dL_law_615 : decode cL_law 615 = .ok (.iload_n 3, 1) := by decide +kernel
theorem dL_law_616 : decode cL_law 616 = .ok (.iconst 2, 1) := by decide +kernel
theorem dL_law_617 : decode cL_law 617 = .ok (.iadd, 1) := by decide +kernel
theorem dL_law_618 : decode cL_law 618 = .ok (.iaload, 1) := by decide +kernel
theorem dL_law_619 : decode cL_law 619 = .ok (.invokevirtual 67, 3) := by decide +kernel
theorem dL_law_622 : decode cL_law 622 = .ok (.pop, 1) := by decide +kernel
theorem dL_law_623 : decode cL_law 623 = .ok (.goto 1001, 3) := by decide +kernel
theorem dL_law_626 : decode cL_law 626 = .ok (.aload_n 1, 1) := by decide +kernel
theorem dL_law_627 : decode cL_law 627 = .ok (.aload_n 0, 1) := by decide +kernel
theorem dL_law_628 : decode cL_law 628 = .ok (.iload_n 3, 1) := by decide +kernel
theorem dL_law_629 : decode cL_law 629 = .ok (.iconst 1, 1) := by decide +kernel
theorem dL_law_630 : decode cL_law 630 = .ok (.iadd, 1) := by decide +kernel
theorem dL_law_631 : decode cL_law 631 = .ok (.iaload, 1) := by decide +kernel
theorem dL_law_632 : decode cL_law 632 = .ok (.aload_n 0, 1) := by decide +kernel
theorem dL_law_633 : decode cL_law 633 = .ok (.iload_n 3, 1) := by decide +kernel
theorem dL_law_634 : decode cL_law 634 = .ok (.iconst 2, 1) := by decide +kernel
theorem dL_law_635 : decode cL_law 635 = .ok (.iadd, 1) := by decide +kernel
theorem dL_law_636 : decode cL_law 636 = .ok (.iaload, 1) := by decide +kernel
theorem dL_law_637 : decode cL_law 637 = .ok (.aload_n 0, 1) := by decide +kernel
theorem dL_law_638 : decode cL_law 638 = .ok (.iload_n 3, 1) := by decide +kernel
theorem dL_law_639 : decode cL_law 639 = .ok (.iconst 3, 1) := by decide +kernel
theorem dL_law_640 : decode cL_law 640 = .ok (.iadd, 1) := by decide +kernel
theorem dL_law_641 : decode cL_law 641 = .ok (.iaload, 1) := by decide +kernel
theorem dL_law_642 : decode cL_law 642 = .ok (.invokevirtual 68, 3) := by decide +kernel
theorem dL_law_645 : decode cL_law 645 = .ok (.pop, 1) := by decide +kernel
theorem dL_law_646 : decode cL_law 646 = .ok (.aload_n 2, 1) := by decide +kernel
theorem dL_law_647 : decode cL_law 647 = .ok (.aload_n 0, 1) := by decide +kernel
theorem dL_law_648 : decode cL_law 648 = .ok (.iload_n 3, 1) := by decide +kernel
theorem dL_law_649 : decode cL_law 649 = .ok (.iconst 1, 1) := by decide +kernel
theorem dL_law_650 : decode cL_law 650 = .ok (.iadd, 1) := by decide +kernel
theorem dL_law_651 : decode cL_law 651 = .ok (.iaload, 1) := by decide +kernel
theorem dL_law_652 : decode cL_law 652 = .ok (.aload_n 0, 1) := by decide +kernel
theorem dL_law_653 : decode cL_law 653 = .ok (.iload_n 3, 1) := by decide +kernel
theorem dL_law_654 : decode cL_law 654 = .ok (.iconst 2, 1) := by decide +kernel
theorem dL_law_655 : decode cL_law 655 = .ok (.iadd, 1) := by decide +kernel
theorem dL_law_656 : decode cL_law 656 = .ok (.iaload, 1) := by decide +kernel
theorem dL_law_657 : decode cL_law 657 = .ok (.aload_n 0, 1) := by decide +kernel
theorem dL_law_658 : decode cL_law 658 = .ok (.iload_n 3, 1) := by decide +kernel
theorem dL_law_659 : decode cL_law 659 = .ok (.iconst 3, 1) := by decide +kernel
theorem dL_law_660 : decode cL_law 660 = .ok (.iadd, 1) := by decide +kernel
theorem dL_law_661 : decode cL_law 661 = .ok (.iaload, 1) := by decide +kernel
theorem dL_law_662 : decode cL_law 662 = .ok (.invokevirtual 71, 3) := by decide +kernel
theorem dL_law_665 : decode cL_law 665 = .ok (.pop, 1) := by decide +kernel
theorem dL_law_666 : decode cL_law 666 = .ok (.goto 958, 3) := by decide +kernel
theorem dL_law_669 : decode cL_law 669 = .ok (.aload_n 1, 1) := by decide +kernel
theorem dL_law_670 : decode cL_law 670 = .ok (.aload_n 0, 1) := by decide +kernel
theorem dL_law_671 : decode cL_law 671 = .ok (.iload_n 3, 1) := by decide +kernel
theorem dL_law_672 : decode cL_law 672 = .ok (.iconst 1, 1) := by decide +kernel
theorem dL_law_673 : decode cL_law 673 = .ok (.iadd, 1) := by decide +kernel
theorem dL_law_674 : decode cL_law 674 = .ok (.iaload, 1) := by decide +kernel
theorem dL_law_675 : decode cL_law 675 = .ok (.invokevirtual 72, 3) := by decide +kernel
theorem dL_law_678 : decode cL_law 678 = .ok (.pop, 1) := by decide +kernel
theorem dL_law_679 : decode cL_law 679 = .ok (.aload_n 2, 1) := by decide +kernel
theorem dL_law_680 : decode cL_law 680 = .ok (.aload_n 0, 1) := by decide +kernel
theorem dL_law_681 : decode cL_law 681 = .ok (.iload_n 3, 1) := by decide +kernel
theorem dL_law_682 : decode cL_law 682 = .ok (.iconst 1, 1) := by decide +kernel
theorem dL_law_683 : decode cL_law 683 = .ok (.iadd, 1) := by decide +kernel
theorem dL_law_684 : decode cL_law 684 = .ok (.iaload, 1) := by decide +kernel
theorem dL_law_685 : decode cL_law 685 = .ok (.invokevirtual 75, 3) := by decide +kernel
theorem dL_law_688 : decode cL_law 688 = .ok (.pop, 1) := by decide +kernel
theorem dL_law_689 : decode cL_law 689 = .ok (.goto 935, 3) := by decide +kernel
theorem dL_law_692 : decode cL_law 692 = .ok (.aload_n 1, 1) := by decide +kernel
theorem dL_law_693 : decode cL_law 693 = .ok (.invokevirtual 76, 3) := by decide +kernel
theorem dL_law_696 : decode cL_law 696 = .ok (.pop, 1) := by decide +kernel
theorem dL_law_697 : decode cL_law 697 = .ok (.aload_n 2, 1) := by decide +kernel
theorem dL_law_698 : decode cL_law 698 = .ok (.invokevirtual 79, 3) := by decide +kernel
theorem dL_law_701 : decode cL_law 701 = .ok (.pop, 1) := by decide +kernel
theorem dL_law_702 : decode cL_law 702 = .ok (.goto 922, 3) := by decide +kernel
theorem dL_law_705 : decode cL_law 705 = .ok (.aload_n 1, 1) := by decide +kernel
theorem dL_law_706 : decode cL_law 706 = .ok (.aload_n 0, 1) := by decide +kernel
theorem dL_law_707 : decode cL_law 707 = .ok (.iload_n 3, 1) := by decide +kernel
theorem dL_law_708 : decode cL_law 708 = .ok (.iconst 1, 1) := by decide +kernel
theorem dL_law_709 : decode cL_law 709 = .ok (.iadd, 1) := by decide +kernel
theorem dL_law_710 : decode cL_law 710 = .ok (.iaload, 1) := by decide +kernel
theorem dL_law_711 : decode cL_law 711 = .ok (.aload_n 0, 1) := by decide +kernel
theorem dL_law_712 : decode cL_law 712 = .ok (.iload_n 3, 1) := by decide +kernel
theorem dL_law_713 : decode cL_law 713 = .ok (.iconst 2, 1) := by decide +kernel
theorem dL_law_714 : decode cL_law 714 = .ok (.iadd, 1) := by decide +kernel
theorem dL_law_715 : decode cL_law 715 = .ok (.iaload, 1) := by decide +kernel
theorem dL_law_716 : decode cL_law 716 = .ok (.aload_n 0, 1) := by decide +kernel
theorem dL_law_717 : decode cL_law 717 = .ok (.iload_n 3, 1) := by decide +kernel
theorem dL_law_718 : decode cL_law 718 = .ok (.iconst 3, 1) := by decide +kernel
theorem dL_law_719 : decode cL_law 719 = .ok (.iadd, 1) := by decide +kernel
theorem dL_law_720 : decode cL_law 720 = .ok (.iaload, 1) := by decide +kernel
theorem dL_law_721 : decode cL_law 721 = .ok (.invokevirtual 80, 3) := by decide +kernel
theorem dL_law_724 : decode cL_law 724 = .ok (.pop, 1) := by decide +kernel
theorem dL_law_725 : decode cL_law 725 = .ok (.aload_n 2, 1) := by decide +kernel
theorem dL_law_726 : decode cL_law 726 = .ok (.aload_n 0, 1) := by decide +kernel
theorem dL_law_727 : decode cL_law 727 = .ok (.iload_n 3, 1) := by decide +kernel
theorem dL_law_728 : decode cL_law 728 = .ok (.iconst 1, 1) := by decide +kernel
theorem dL_law_729 : decode cL_law 729 = .ok (.iadd, 1) := by decide +kernel
theorem dL_law_730 : decode cL_law 730 = .ok (.iaload, 1) := by decide +kernel
theorem dL_law_731 : decode cL_law 731 = .ok (.aload_n 0, 1) := by decide +kernel
theorem dL_law_732 : decode cL_law 732 = .ok (.iload_n 3, 1) := by decide +kernel
theorem dL_law_733 : decode cL_law 733 = .ok (.iconst 2, 1) := by decide +kernel
theorem dL_law_734 : decode cL_law 734 = .ok (.iadd, 1) := by decide +kernel
theorem dL_law_735 : decode cL_law 735 = .ok (.iaload, 1) := by decide +kernel
theorem dL_law_736 : decode cL_law 736 = .ok (.aload_n 0, 1) := by decide +kernel
theorem dL_law_737 : decode cL_law 737 = .ok (.iload_n 3, 1) := by decide +kernel
theorem dL_law_738 : decode cL_law 738 = .ok (.iconst 3, 1) := by decide +kernel
theorem dL_law_739 : decode cL_law 739 = .ok (.iadd, 1) := by decide +kernel
theorem dL_law_740 : decode cL_law 740 = .ok (.iaload, 1) := by decide +kernel
theorem dL_law_741 : decode cL_law 741 = .ok (.invokevirtual 83, 3) := by decide +kernel
theorem dL_law_744 : decode cL_law 744 = .ok (.pop, 1) := by decide +kernel
theorem dL_law_745 : decode cL_law 745 = .ok (.goto 879, 3) := by decide +kernel
theorem dL_law_748 : decode cL_law 748 = .ok (.aload_n 1, 1) := by decide +kernel
theorem dL_law_749 : decode cL_law 749 = .ok (.aload_n 0, 1) := by decide +kernel
theorem dL_law_750 : decode cL_law 750 = .ok (.iload_n 3, 1) := by decide +kernel
theorem dL_law_751 : decode cL_law 751 = .ok (.iconst 1, 1) := by decide +kernel
theorem dL_law_752 : decode cL_law 752 = .ok (.iadd, 1) := by decide +kernel
theorem dL_law_753 : decode cL_law 753 = .ok (.iaload, 1) := by decide +kernel
theorem dL_law_754 : decode cL_law 754 = .ok (.aload_n 0, 1) := by decide +kernel
theorem dL_law_755 : decode cL_law 755 = .ok (.iload_n 3, 1) := by decide +kernel
theorem dL_law_756 : decode cL_law 756 = .ok (.iconst 2, 1) := by decide +kernel
theorem dL_law_757 : decode cL_law 757 = .ok (.iadd, 1) := by decide +kernel
theorem dL_law_758 : decode cL_law 758 = .ok (.iaload, 1) := by decide +kernel
theorem dL_law_759 : decode cL_law 759 = .ok (.aload_n 0, 1) := by decide +kernel
theorem dL_law_760 : decode cL_law 760 = .ok (.iload_n 3, 1) := by decide +kernel
theorem dL_law_761 : decode cL_law 761 = .ok (.iconst 3, 1) := by decide +kernel
theorem dL_law_762 : decode cL_law 762 = .ok (.iadd, 1) := by decide +kernel
theorem dL_law_763 : decode cL_law 763 = .ok (.iaload, 1) := by decide +kernel
theorem dL_law_764 : decode cL_law 764 = .ok (.invokevirtual 84, 3) := by decide +kernel
theorem dL_law_767 : decode cL_law 767 = .ok (.pop, 1) := by decide +kernel
theorem dL_law_768 : decode cL_law 768 = .ok (.aload_n 2, 1) := by decide +kernel
theorem dL_law_769 : decode cL_law 769 = .ok (.aload_n 0, 1) := by decide +kernel
theorem dL_law_770 : decode cL_law 770 = .ok (.iload_n 3, 1) := by decide +kernel
theorem dL_law_771 : decode cL_law 771 = .ok (.iconst 1, 1) := by decide +kernel
theorem dL_law_772 : decode cL_law 772 = .ok (.iadd, 1) := by decide +kernel
theorem dL_law_773 : decode cL_law 773 = .ok (.iaload, 1) := by decide +kernel
theorem dL_law_774 : decode cL_law 774 = .ok (.aload_n 0, 1) := by decide +kernel
theorem dL_law_775 : decode cL_law 775 = .ok (.iload_n 3, 1) := by decide +kernel
theorem dL_law_776 : decode cL_law 776 = .ok (.iconst 2, 1) := by decide +kernel
theorem dL_law_777 : decode cL_law 777 = .ok (.iadd, 1) := by decide +kernel
theorem dL_law_778 : decode cL_law 778 = .ok (.iaload, 1) := by decide +kernel
theorem dL_law_779 : decode cL_law 779 = .ok (.aload_n 0, 1) := by decide +kernel
theorem dL_law_780 : decode cL_law 780 = .ok (.iload_n 3, 1) := by decide +kernel
theorem dL_law_781 : decode cL_law 781 = .ok (.iconst 3, 1) := by decide +kernel
theorem dL_law_782 : decode cL_law 782 = .ok (.iadd, 1) := by decide +kernel
theorem dL_law_783 : decode cL_law 783 = .ok (.iaload, 1) := by decide +kernel
theorem dL_law_784 : decode cL_law 784 = .ok (.invokevirtual 87, 3) := by decide +kernel
theorem dL_law_787 : decode cL_law 787 = .ok (.pop, 1) := by decide +kernel
theorem dL_law_788 : decode cL_law 788 = .ok (.goto 836, 3) := by decide +kernel
theorem dL_law_791 : decode cL_law 791 = .ok (.aload_n 1, 1) := by decide +kernel
theorem dL_law_792 : decode cL_law 792 = .ok (.aload_n 0, 1) := by decide +kernel
theorem dL_law_793 : decode cL_law 793 = .ok (.iload_n 3, 1) := by decide +kernel
theorem dL_law_794 : decode cL_law 794 = .ok (.iconst 1, 1) := by decide +kernel
theorem dL_law_795 : decode cL_law 795 = .ok (.iadd, 1) := by decide +kernel
theorem dL_law_796 : decode cL_law 796 = .ok (.iaload, 1) := by decide +kernel
theorem dL_law_797 : decode cL_law 797 = .ok (.aload_n 0, 1) := by decide +kernel
theorem dL_law_798 : decode cL_law 798 = .ok (.iload_n 3, 1) := by decide +kernel
theorem dL_law_799 : decode cL_law 799 = .ok (.iconst 2, 1) := by decide +kernel
theorem dL_law_800 : decode cL_law 800 = .ok (.iadd, 1) := by decide +kernel
theorem dL_law_801 : decode cL_law 801 = .ok (.iaload, 1) := by decide +kernel
theorem dL_law_802 : decode cL_law 802 = .ok (.aload_n 0, 1) := by decide +kernel
theorem dL_law_803 : decode cL_law 803 = .ok (.iload_n 3, 1) := by decide +kernel
theorem dL_law_804 : decode cL_law 804 = .ok (.iconst 3, 1) := by decide +kernel
theorem dL_law_805 : decode cL_law 805 = .ok (.iadd, 1) := by decide +kernel
theorem dL_law_806 : decode cL_law 806 = .ok (.iaload, 1) := by decide +kernel
theorem dL_law_807 : decode cL_law 807 = .ok (.invokevirtual 88, 3) := by decide +kernel
theorem dL_law_810 : decode cL_law 810 = .ok (.pop, 1) := by decide +kernel
theorem dL_law_811 : decode cL_law 811 = .ok (.aload_n 2, 1) := by decide +kernel
theorem dL_law_812 : decode cL_law 812 = .ok (.aload_n 0, 1) := by decide +kernel
theorem dL_law_813 : decode cL_law 813 = .ok (.iload_n 3, 1) := by decide +kernel
theorem dL_law_814 : decode cL_law 814 = .ok (.iconst 1, 1) := by decide +kernel
theorem dL_law_815 : decode cL_law 815 = .ok (.iadd, 1) := by decide +kernel
theorem dL_law_816 : decode cL_law 816 = .ok (.iaload, 1) := by decide +kernel
theorem dL_law_817 : decode cL_law 817 = .ok (.aload_n 0, 1) := by decide +kernel
theorem dL_law_818 : decode cL_law 818 = .ok (.iload_n 3, 1) := by decide +kernel
theorem dL_law_819 : decode cL_law 819 = .ok (.iconst 2, 1) := by decide +kernel
theorem dL_law_820 : decode cL_law 820 = .ok (.iadd, 1) := by decide +kernel
theorem dL_law_821 : decode cL_law 821 = .ok (.iaload, 1) := by decide +kernel
theorem dL_law_822 : decode cL_law 822 = .ok (.aload_n 0, 1) := by decide +kernel
theorem dL_law_823 : decode cL_law 823 = .ok (.iload_n 3, 1) := by decide +kernel
theorem dL_law_824 : decode cL_law 824 = .ok (.iconst 3, 1) := by decide +kernel
theorem dL_law_825 : decode cL_law 825 = .ok (.iadd, 1) := by decide +kernel
theorem dL_law_826 : decode cL_law 826 = .ok (.iaload, 1) := by decide +kernel
theorem dL_law_827 : decode cL_law 827 = .ok (.invokevirtual 91, 3) := by decide +kernel
theorem dL_law_830 : decode cL_law 830 = .ok (.pop, 1) := by decide +kernel
theorem dL_law_831 : decode cL_law 831 = .ok (.goto 793, 3) := by decide +kernel
theorem dL_law_834 : decode cL_law 834 = .ok (.aload_n 1, 1) := by decide +kernel
theorem dL_law_835 : decode cL_law 835 = .ok (.aload_n 0, 1) := by decide +kernel
theorem dL_law_836 : decode cL_law 836 = .ok (.iload_n 3, 1) := by decide +kernel
theorem dL_law_837 : decode cL_law 837 = .ok (.iconst 1, 1) := by decide +kernel
theorem dL_law_838 : decode cL_law 838 = .ok (.iadd, 1) := by decide +kernel
theorem dL_law_839 : decode cL_law 839 = .ok (.iaload, 1) := by decide +kernel
theorem dL_law_840 : decode cL_law 840 = .ok (.aload_n 0, 1) := by decide +kernel
theorem dL_law_841 : decode cL_law 841 = .ok (.iload_n 3, 1) := by decide +kernel
theorem dL_law_842 : decode cL_law 842 = .ok (.iconst 2, 1) := by decide +kernel
theorem dL_law_843 : decode cL_law 843 = .ok (.iadd, 1) := by decide +kernel
theorem dL_law_844 : decode cL_law 844 = .ok (.iaload, 1) := by decide +kernel
theorem dL_law_845 : decode cL_law 845 = .ok (.invokevirtual 92, 3) := by decide +kernel
theorem dL_law_848 : decode cL_law 848 = .ok (.pop, 1) := by decide +kernel
theorem dL_law_849 : decode cL_law 849 = .ok (.aload_n 2, 1) := by decide +kernel
theorem dL_law_850 : decode cL_law 850 = .ok (.aload_n 0, 1) := by decide +kernel
theorem dL_law_851 : decode cL_law 851 = .ok (.iload_n 3, 1) := by decide +kernel
theorem dL_law_852 : decode cL_law 852 = .ok (.iconst 1, 1) := by decide +kernel
theorem dL_law_853 : decode cL_law 853 = .ok (.iadd, 1) := by decide +kernel
theorem dL_law_854 : decode cL_law 854 = .ok (.iaload, 1) := by decide +kernel
theorem dL_law_855 : decode cL_law 855 = .ok (.aload_n 0, 1) := by decide +kernel
theorem dL_law_856 : decode cL_law 856 = .ok (.iload_n 3, 1) := by decide +kernel
theorem dL_law_857 : decode cL_law 857 = .ok (.iconst 2, 1) := by decide +kernel
theorem dL_law_858 : decode cL_law 858 = .ok (.iadd, 1) := by decide +kernel
theorem dL_law_859 : decode cL_law 859 = .ok (.iaload, 1) := by decide +kernel
theorem dL_law_860 : decode cL_law 860 = .ok (.invokevirtual 95, 3) := by decide +kernel
theorem dL_law_863 : decode cL_law 863 = .ok (.pop, 1) := by decide +kernel
theorem dL_law_864 : decode cL_law 864 = .ok (.goto 760, 3) := by decide +kernel
theorem dL_law_867 : decode cL_law 867 = .ok (.aload_n 1, 1) := by decide +kernel
theorem dL_law_868 : decode cL_law 868 = .ok (.aload_n 0, 1) := by decide +kernel
theorem dL_law_869 : decode cL_law 869 = .ok (.iload_n 3, 1) := by decide +kernel
theorem dL_law_870 : decode cL_law 870 = .ok (.iconst 1, 1) := by decide +kernel
theorem dL_law_871 : decode cL_law 871 = .ok (.iadd, 1) := by decide +kernel
theorem dL_law_872 : decode cL_law 872 = .ok (.iaload, 1) := by decide +kernel
theorem dL_law_873 : decode cL_law 873 = .ok (.aload_n 0, 1) := by decide +kernel
theorem dL_law_874 : decode cL_law 874 = .ok (.iload_n 3, 1) := by decide +kernel
theorem dL_law_875 : decode cL_law 875 = .ok (.iconst 2, 1) := by decide +kernel
theorem dL_law_876 : decode cL_law 876 = .ok (.iadd, 1) := by decide +kernel
theorem dL_law_877 : decode cL_law 877 = .ok (.iaload, 1) := by decide +kernel
theorem dL_law_878 : decode cL_law 878 = .ok (.aload_n 0, 1) := by decide +kernel
theorem dL_law_879 : decode cL_law 879 = .ok (.iload_n 3, 1) := by decide +kernel
theorem dL_law_880 : decode cL_law 880 = .ok (.iconst 3, 1) := by decide +kernel
theorem dL_law_881 : decode cL_law 881 = .ok (.iadd, 1) := by decide +kernel
theorem dL_law_882 : decode cL_law 882 = .ok (.iaload, 1) := by decide +kernel
theorem dL_law_883 : decode cL_law 883 = .ok (.invokevirtual 96, 3) := by decide +kernel
theorem dL_law_886 : decode cL_law 886 = .ok (.pop, 1) := by decide +kernel
theorem dL_law_887 : decode cL_law 887 = .ok (.aload_n 2, 1) := by decide +kernel
theorem dL_law_888 : decode cL_law 888 = .ok (.aload_n 0, 1) := by decide +kernel
theorem dL_law_889 : decode cL_law 889 = .ok (.iload_n 3, 1) := by decide +kernel
theorem dL_law_890 : decode cL_law 890 = .ok (.iconst 1, 1) := by decide +kernel
theorem dL_law_891 : decode cL_law 891 = .ok (.iadd, 1) := by decide +kernel
theorem dL_law_892 : decode cL_law 892 = .ok (.iaload, 1) := by decide +kernel
theorem dL_law_893 : decode cL_law 893 = .ok (.aload_n 0, 1) := by decide +kernel
theorem dL_law_894 : decode cL_law 894 = .ok (.iload_n 3, 1) := by decide +kernel
theorem dL_law_895 : decode cL_law 895 = .ok (.iconst 2, 1) := by decide +kernel
theorem dL_law_896 : decode cL_law 896 = .ok (.iadd, 1) := by decide +kernel
theorem dL_law_897 : decode cL_law 897 = .ok (.iaload, 1) := by decide +kernel
theorem dL_law_898 : decode cL_law 898 = .ok (.aload_n 0, 1) := by decide +kernel
theorem dL_law_899 : decode cL_law 899 = .ok (.iload_n 3, 1) := by decide +kernel
theorem dL_law_900 : decode cL_law 900 = .ok (.iconst 3, 1) := by decide +kernel
theorem dL_law_901 : decode cL_law 901 = .ok (.iadd, 1) := by decide +kernel
theorem dL_law_902 : decode cL_law 902 = .ok (.iaload, 1) := by decide +kernel
theorem dL_law_903 : decode cL_law 903 = .ok (.invokevirtual 99, 3) := by decide +kernel
theorem dL_law_906 : decode cL_law 906 = .ok (.pop, 1) := by decide +kernel
theorem dL_law_907 : decode cL_law 907 = .ok (.goto 717, 3) := by decide +kernel
theorem dL_law_910 : decode cL_law 910 = .ok (.aload_n 1, 1) := by decide +kernel
theorem dL_law_911 : decode cL_law 911 = .ok (.aload_n 0, 1) := by decide +kernel
theorem dL_law_912 : decode cL_law 912 = .ok (.iload_n 3, 1) := by decide +kernel
theorem dL_law_913 : decode cL_law 913 = .ok (.iconst 1, 1) := by decide +kernel
theorem dL_law_914 : decode cL_law 914 = .ok (.iadd, 1) := by decide +kernel
theorem dL_law_915 : decode cL_law 915 = .ok (.iaload, 1) := by decide +kernel
theorem dL_law_916 : decode cL_law 916 = .ok (.invokevirtual 100, 3) := by decide +kernel
theorem dL_law_919 : decode cL_law 919 = .ok (.pop, 1) := by decide +kernel
theorem dL_law_920 : decode cL_law 920 = .ok (.aload_n 2, 1) := by decide +kernel
theorem dL_law_921 : decode cL_law 921 = .ok (.aload_n 0, 1) := by decide +kernel
theorem dL_law_922 : decode cL_law 922 = .ok (.iload_n 3, 1) := by decide +kernel
theorem dL_law_923 : decode cL_law 923 = .ok (.iconst 1, 1) := by decide +kernel
theorem dL_law_924 : decode cL_law 924 = .ok (.iadd, 1) := by decide +kernel
theorem dL_law_925 : decode cL_law 925 = .ok (.iaload, 1) := by decide +kernel
theorem dL_law_926 : decode cL_law 926 = .ok (.invokevirtual 104, 3) := by decide +kernel
theorem dL_law_929 : decode cL_law 929 = .ok (.pop, 1) := by decide +kernel
theorem dL_law_930 : decode cL_law 930 = .ok (.goto 694, 3) := by decide +kernel
theorem dL_law_933 : decode cL_law 933 = .ok (.aload_n 1, 1) := by decide +kernel
theorem dL_law_934 : decode cL_law 934 = .ok (.aload_n 0, 1) := by decide +kernel
theorem dL_law_935 : decode cL_law 935 = .ok (.iload_n 3, 1) := by decide +kernel
theorem dL_law_936 : decode cL_law 936 = .ok (.iconst 1, 1) := by decide +kernel
theorem dL_law_937 : decode cL_law 937 = .ok (.iadd, 1) := by decide +kernel
theorem dL_law_938 : decode cL_law 938 = .ok (.iaload, 1) := by decide +kernel
theorem dL_law_939 : decode cL_law 939 = .ok (.invokevirtual 105, 3) := by decide +kernel
theorem dL_law_942 : decode cL_law 942 = .ok (.aload_n 2, 1) := by decide +kernel
theorem dL_law_943 : decode cL_law 943 = .ok (.aload_n 0, 1) := by decide +kernel
theorem dL_law_944 : decode cL_law 944 = .ok (.iload_n 3, 1) := by decide +kernel
theorem dL_law_945 : decode cL_law 945 = .ok (.iconst 1, 1) := by decide +kernel
theorem dL_law_946 : decode cL_law 946 = .ok (.iadd, 1) := by decide +kernel
theorem dL_law_947 : decode cL_law 947 = .ok (.iaload, 1) := by decide +kernel
theorem dL_law_948 : decode cL_law 948 = .ok (.invokevirtual 108, 3) := by decide +kernel
theorem dL_law_951 : decode cL_law 951 = .ok (.if_icmp .eq 673, 3) := by decide +kernel
theorem dL_law_954 : decode cL_law 954 = .ok (.iconst 0, 1) := by decide +kernel
theorem dL_law_955 : decode cL_law 955 = .ok (.ireturn, 1) := by decide +kernel
theorem dL_law_956 : decode cL_law 956 = .ok (.aload_n 1, 1) := by decide +kernel
theorem dL_law_957 : decode cL_law 957 = .ok (.aload_n 0, 1) := by decide +kernel
theorem dL_law_958 : decode cL_law 958 = .ok (.iload_n 3, 1) := by decide +kernel
theorem dL_law_959 : decode cL_law 959 = .ok (.iconst 1, 1) := by decide +kernel
theorem dL_law_960 : decode cL_law 960 = .ok (.iadd, 1) := by decide +kernel
theorem dL_law_961 : decode cL_law 961 = .ok (.iaload, 1) := by decide +kernel
theorem dL_law_962 : decode cL_law 962 = .ok (.aload_n 0, 1) := by decide +kernel
theorem dL_law_963 : decode cL_law 963 = .ok (.iload_n 3, 1) := by decide +kernel
theorem dL_law_964 : decode cL_law 964 = .ok (.iconst 2, 1) := by decide +kernel
theorem dL_law_965 : decode cL_law 965 = .ok (.iadd, 1) := by decide +kernel
theorem dL_law_966 : decode cL_law 966 = .ok (.iaload, 1) := by decide +kernel
theorem dL_law_967 : decode cL_law 967 = .ok (.aload_n 0, 1) := by decide +kernel
theorem dL_law_968 : decode cL_law 968 = .ok (.iload_n 3, 1) := by decide +kernel
theorem dL_law_969 : decode cL_law 969 = .ok (.iconst 3, 1) := by decide +kernel
theorem dL_law_970 : decode cL_law 970 = .ok (.iadd, 1) := by decide +kernel
theorem dL_law_971 : decode cL_law 971 = .ok (.iaload, 1) := by decide +kernel
theorem dL_law_972 : decode cL_law 972 = .ok (.invokevirtual 109, 3) := by decide +kernel
theorem dL_law_975 : decode cL_law 975 = .ok (.pop, 1) := by decide +kernel
theorem dL_law_976 : decode cL_law 976 = .ok (.aload_n 2, 1) := by decide +kernel
theorem dL_law_977 : decode cL_law 977 = .ok (.aload_n 0, 1) := by decide +kernel
theorem dL_law_978 : decode cL_law 978 = .ok (.iload_n 3, 1) := by decide +kernel
theorem dL_law_979 : decode cL_law 979 = .ok (.iconst 1, 1) := by decide +kernel
theorem dL_law_980 : decode cL_law 980 = .ok (.iadd, 1) := by decide +kernel
theorem dL_law_981 : decode cL_law 981 = .ok (.iaload, 1) := by decide +kernel
theorem dL_law_982 : decode cL_law 982 = .ok (.aload_n 0, 1) := by decide +kernel
theorem dL_law_983 : decode cL_law 983 = .ok (.iload_n 3, 1) := by decide +kernel
theorem dL_law_984 : decode cL_law 984 = .ok (.iconst 2, 1) := by decide +kernel
theorem dL_law_985 : decode cL_law 985 = .ok (.iadd, 1) := by decide +kernel
theorem dL_law_986 : decode cL_law 986 = .ok (.iaload, 1) := by decide +kernel
theorem dL_law_987 : decode cL_law 987 = .ok (.aload_n 0, 1) := by decide +kernel
theorem dL_law_988 : decode cL_law 988 = .ok (.iload_n 3, 1) := by decide +kernel
theorem dL_law_989 : decode cL_law 989 = .ok (.iconst 3, 1) := by decide +kernel
theorem dL_law_990 : decode cL_law 990 = .ok (.iadd, 1) := by decide +kernel
theorem dL_law_991 : decode cL_law 991 = .ok (.iaload, 1) := by decide +kernel
theorem dL_law_992 : decode cL_law 992 = .ok (.invokevirtual 112, 3) := by decide +kernel
theorem dL_law_995 : decode cL_law 995 = .ok (.pop, 1) := by decide +kernel
theorem dL_law_996 : decode cL_law 996 = .ok (.goto 628, 3) := by decide +kernel
theorem dL_law_999 : decode cL_law 999 = .ok (.aload_n 1, 1) := by decide +kernel
theorem dL_law_1000 : decode cL_law 1000 = .ok (.aload_n 0, 1) := by decide +kernel
theorem dL_law_1001 : decode cL_law 1001 = .ok (.iload_n 3, 1) := by decide +kernel
theorem dL_law_1002 : decode cL_law 1002 = .ok (.iconst 1, 1) := by decide +kernel
theorem dL_law_1003 : decode cL_law 1003 = .ok (.iadd, 1) := by decide +kernel
theorem dL_law_1004 : decode cL_law 1004 = .ok (.iaload, 1) := by decide +kernel
theorem dL_law_1005 : decode cL_law 1005 = .ok (.aload_n 0, 1) := by decide +kernel
theorem dL_law_1006 : decode cL_law 1006 = .ok (.iload_n 3, 1) := by decide +kernel
theorem dL_law_1007 : decode cL_law 1007 = .ok (.iconst 2, 1) := by decide +kernel
theorem dL_law_1008 : decode cL_law 1008 = .ok (.iadd, 1) := by decide +kernel
theorem dL_law_1009 : decode cL_law 1009 = .ok (.iaload, 1) := by decide +kernel
theorem dL_law_1010 : decode cL_law 1010 = .ok (.aload_n 0, 1) := by decide +kernel
theorem dL_law_1011 : decode cL_law 1011 = .ok (.iload_n 3, 1) := by decide +kernel
theorem dL_law_1012 : decode cL_law 1012 = .ok (.iconst 3, 1) := by decide +kernel
theorem dL_law_1013 : decode cL_law 1013 = .ok (.iadd, 1) := by decide +kernel
theorem dL_law_1014 : decode cL_law 1014 = .ok (.iaload, 1) := by decide +kernel
theorem dL_law_1015 : decode cL_law 1015 = .ok (.aload_n 0, 1) := by decide +kernel
theorem dL_law_1016 : decode cL_law 1016 = .ok (.iload_n 3, 1) := by decide +kernel
theorem dL_law_1017 : decode cL_law 1017 = .ok (.iconst 4, 1) := by decide +kernel
theorem dL_law_1018 : decode cL_law 1018 = .ok (.iadd, 1) := by decide +kernel
theorem dL_law_1019 : decode cL_law 1019 = .ok (.iaload, 1) := by decide +kernel
theorem dL_law_1020 : decode cL_law 1020 = .ok (.aload_n 0, 1) := by decide +kernel
theorem dL_law_1021 : decode cL_law 1021 = .ok (.iload_n 3, 1) := by decide +kernel
theorem dL_law_1022 : decode cL_law 1022 = .ok (.iconst 5, 1) := by decide +kernel
theorem dL_law_1023 : decode cL_law 1023 = .ok (.iadd, 1) := by decide +kernel
theorem dL_law_1024 : decode cL_law 1024 = .ok (.iaload, 1) := by decide +kernel
theorem dL_law_1025 : decode cL_law 1025 = .ok (.invokevirtual 113, 3) := by decide +kernel
theorem dL_law_1028 : decode cL_law 1028 = .ok (.pop, 1) := by decide +kernel
theorem dL_law_1029 : decode cL_law 1029 = .ok (.aload_n 2, 1) := by decide +kernel
theorem dL_law_1030 : decode cL_law 1030 = .ok (.aload_n 0, 1) := by decide +kernel
theorem dL_law_1031 : decode cL_law 1031 = .ok (.iload_n 3, 1) := by decide +kernel
theorem dL_law_1032 : decode cL_law 1032 = .ok (.iconst 1, 1) := by decide +kernel
theorem dL_law_1033 : decode cL_law 1033 = .ok (.iadd, 1) := by decide +kernel
theorem dL_law_1034 : decode cL_law 1034 = .ok (.iaload, 1) := by decide +kernel
theorem dL_law_1035 : decode cL_law 1035 = .ok (.aload_n 0, 1) := by decide +kernel
theorem dL_law_1036 : decode cL_law 1036 = .ok (.iload_n 3, 1) := by decide +kernel
theorem dL_law_1037 : decode cL_law 1037 = .ok (.iconst 2, 1) := by decide +kernel
theorem dL_law_1038 : decode cL_law 1038 = .ok (.iadd, 1) := by decide +kernel
theorem dL_law_1039 : decode cL_law 1039 = .ok (.iaload, 1) := by decide +kernel
theorem dL_law_1040 : decode cL_law 1040 = .ok (.aload_n 0, 1) := by decide +kernel
theorem dL_law_1041 : decode cL_law 1041 = .ok (.iload_n 3, 1) := by decide +kernel
theorem dL_law_1042 : decode cL_law 1042 = .ok (.iconst 3, 1) := by decide +kernel
theorem dL_law_1043 : decode cL_law 1043 = .ok (.iadd, 1) := by decide +kernel
theorem dL_law_1044 : decode cL_law 1044 = .ok (.iaload, 1) := by decide +kernel
theorem dL_law_1045 : decode cL_law 1045 = .ok (.aload_n 0, 1) := by decide +kernel
theorem dL_law_1046 : decode cL_law 1046 = .ok (.iload_n 3, 1) := by decide +kernel
theorem dL_law_1047 : decode cL_law 1047 = .ok (.iconst 4, 1) := by decide +kernel
theorem dL_law_1048 : decode cL_law 1048 = .ok (.iadd, 1) := by decide +kernel
theorem dL_law_1049 : decode cL_law 1049 = .ok (.iaload, 1) := by decide +kernel
theorem dL_law_1050 : decode cL_law 1050 = .ok (.aload_n 0, 1) := by decide +kernel
theorem dL_law_1051 : decode cL_law 1051 = .ok (.iload_n 3, 1) := by decide +kernel
theorem dL_law_1052 : decode cL_law 1052 = .ok (.iconst 5, 1) := by decide +kernel
theorem dL_law_1053 : decode cL_law 1053 = .ok (.iadd, 1) := by decide +kernel
theorem dL_law_1054 : decode cL_law 1054 = .ok (.iaload, 1) := by decide +kernel
theorem dL_law_1055 : decode cL_law 1055 = .ok (.invokevirtual 116, 3) := by decide +kernel
theorem dL_law_1058 : decode cL_law 1058 = .ok (.pop, 1) := by decide +kernel
theorem dL_law_1059 : decode cL_law 1059 = .ok (.goto 565, 3) := by decide +kernel
theorem dL_law_1062 : decode cL_law 1062 = .ok (.aload_n 1, 1) := by decide +kernel
theorem dL_law_1063 : decode cL_law 1063 = .ok (.aload_n 0, 1) := by decide +kernel
theorem dL_law_1064 : decode cL_law 1064 = .ok (.iload_n 3, 1) := by decide +kernel
theorem dL_law_1065 : decode cL_law 1065 = .ok (.iconst 1, 1) := by decide +kernel
theorem dL_law_1066 : decode cL_law 1066 = .ok (.iadd, 1) := by decide +kernel
theorem dL_law_1067 : decode cL_law 1067 = .ok (.iaload, 1) := by decide +kernel
theorem dL_law_1068 : decode cL_law 1068 = .ok (.aload_n 0, 1) := by decide +kernel
theorem dL_law_1069 : decode cL_law 1069 = .ok (.iload_n 3, 1) := by decide +kernel
theorem dL_law_1070 : decode cL_law 1070 = .ok (.iconst 2, 1) := by decide +kernel
theorem dL_law_1071 : decode cL_law 1071 = .ok (.iadd, 1) := by decide +kernel
theorem dL_law_1072 : decode cL_law 1072 = .ok (.iaload, 1) := by decide +kernel
theorem dL_law_1073 : decode cL_law 1073 = .ok (.aload_n 0, 1) := by decide +kernel
theorem dL_law_1074 : decode cL_law 1074 = .ok (.iload_n 3, 1) := by decide +kernel
theorem dL_law_1075 : decode cL_law 1075 = .ok (.iconst 3, 1) := by decide +kernel
theorem dL_law_1076 : decode cL_law 1076 = .ok (.iadd, 1) := by decide +kernel
theorem dL_law_1077 : decode cL_law 1077 = .ok (.iaload, 1) := by decide +kernel
theorem dL_law_1078 : decode cL_law 1078 = .ok (.aload_n 0, 1) := by decide +kernel
theorem dL_law_1079 : decode cL_law 1079 = .ok (.iload_n 3, 1) := by decide +kernel
theorem dL_law_1080 : decode cL_law 1080 = .ok (.iconst 4, 1) := by decide +kernel
theorem dL_law_1081 : decode cL_law 1081 = .ok (.iadd, 1) := by decide +kernel
theorem dL_law_1082 : decode cL_law 1082 = .ok (.iaload, 1) := by decide +kernel
theorem dL_law_1083 : decode cL_law 1083 = .ok (.invokevirtual 117, 3) := by decide +kernel
theorem dL_law_1086 : decode cL_law 1086 = .ok (.pop, 1) := by decide +kernel
theorem dL_law_1087 : decode cL_law 1087 = .ok (.aload_n 2, 1) := by decide +kernel
theorem dL_law_1088 : decode cL_law 1088 = .ok (.aload_n 0, 1) := by decide +kernel
theorem dL_law_1089 : decode cL_law 1089 = .ok (.iload_n 3, 1) := by decide +kernel
theorem dL_law_1090 : decode cL_law 1090 = .ok (.iconst 1, 1) := by decide +kernel
theorem dL_law_1091 : decode cL_law 1091 = .ok (.iadd, 1) := by decide +kernel
theorem dL_law_1092 : decode cL_law 1092 = .ok (.iaload, 1) := by decide +kernel
theorem dL_law_1093 : decode cL_law 1093 = .ok (.aload_n 0, 1) := by decide +kernel
theorem dL_law_1094 : decode cL_law 1094 = .ok (.iload_n 3, 1) := by decide +kernel
theorem dL_law_1095 : decode cL_law 1095 = .ok (.iconst 2, 1) := by decide +kernel
theorem dL_law_1096 : decode cL_law 1096 = .ok (.iadd, 1) := by decide +kernel
theorem dL_law_1097 : decode cL_law 1097 = .ok (.iaload, 1) := by decide +kernel
theorem dL_law_1098 : decode cL_law 1098 = .ok (.aload_n 0, 1) := by decide +kernel
theorem dL_law_1099 : decode cL_law 1099 = .ok (.iload_n 3, 1) := by decide +kernel
theorem dL_law_1100 : decode cL_law 1100 = .ok (.iconst 3, 1) := by decide +kernel
theorem dL_law_1101 : decode cL_law 1101 = .ok (.iadd, 1) := by decide +kernel
theorem dL_law_1102 : decode cL_law 1102 = .ok (.iaload, 1) := by decide +kernel
theorem dL_law_1103 : decode cL_law 1103 = .ok (.aload_n 0, 1) := by decide +kernel
theorem dL_law_1104 : decode cL_law 1104 = .ok (.iload_n 3, 1) := by decide +kernel
theorem dL_law_1105 : decode cL_law 1105 = .ok (.iconst 4, 1) := by decide +kernel
theorem dL_law_1106 : decode cL_law 1106 = .ok (.iadd, 1) := by decide +kernel
theorem dL_law_1107 : decode cL_law 1107 = .ok (.iaload, 1) := by decide +kernel
theorem dL_law_1108 : decode cL_law 1108 = .ok (.invokevirtual 120, 3) := by decide +kernel
theorem dL_law_1111 : decode cL_law 1111 = .ok (.pop, 1) := by decide +kernel
theorem dL_law_1112 : decode cL_law 1112 = .ok (.goto 512, 3) := by decide +kernel
theorem dL_law_1115 : decode cL_law 1115 = .ok (.aload_n 1, 1) := by decide +kernel
theorem dL_law_1116 : decode cL_law 1116 = .ok (.aload_n 0, 1) := by decide +kernel
theorem dL_law_1117 : decode cL_law 1117 = .ok (.iload_n 3, 1) := by decide +kernel
theorem dL_law_1118 : decode cL_law 1118 = .ok (.iconst 1, 1) := by decide +kernel
theorem dL_law_1119 : decode cL_law 1119 = .ok (.iadd, 1) := by decide +kernel
theorem dL_law_1120 : decode cL_law 1120 = .ok (.iaload, 1) := by decide +kernel
theorem dL_law_1121 : decode cL_law 1121 = .ok (.aload_n 0, 1) := by decide +kernel
theorem dL_law_1122 : decode cL_law 1122 = .ok (.iload_n 3, 1) := by decide +kernel
theorem dL_law_1123 : decode cL_law 1123 = .ok (.iconst 2, 1) := by decide +kernel
theorem dL_law_1124 : decode cL_law 1124 = .ok (.iadd, 1) := by decide +kernel
theorem dL_law_1125 : decode cL_law 1125 = .ok (.iaload, 1) := by decide +kernel
theorem dL_law_1126 : decode cL_law 1126 = .ok (.aload_n 0, 1) := by decide +kernel
theorem dL_law_1127 : decode cL_law 1127 = .ok (.iload_n 3, 1) := by decide +kernel
theorem dL_law_1128 : decode cL_law 1128 = .ok (.iconst 3, 1) := by decide +kernel
theorem dL_law_1129 : decode cL_law 1129 = .ok (.iadd, 1) := by decide +kernel
theorem dL_law_1130 : decode cL_law 1130 = .ok (.iaload, 1) := by decide +kernel
theorem dL_law_1131 : decode cL_law 1131 = .ok (.invokevirtual 121, 3) := by decide +kernel
theorem dL_law_1134 : decode cL_law 1134 = .ok (.pop2, 1) := by decide +kernel
theorem dL_law_1135 : decode cL_law 1135 = .ok (.aload_n 2, 1) := by decide +kernel
theorem dL_law_1136 : decode cL_law 1136 = .ok (.aload_n 0, 1) := by decide +kernel
theorem dL_law_1137 : decode cL_law 1137 = .ok (.iload_n 3, 1) := by decide +kernel
theorem dL_law_1138 : decode cL_law 1138 = .ok (.iconst 1, 1) := by decide +kernel
theorem dL_law_1139 : decode cL_law 1139 = .ok (.iadd, 1) := by decide +kernel
theorem dL_law_1140 : decode cL_law 1140 = .ok (.iaload, 1) := by decide +kernel
theorem dL_law_1141 : decode cL_law 1141 = .ok (.aload_n 0, 1) := by decide +kernel
theorem dL_law_1142 : decode cL_law 1142 = .ok (.iload_n 3, 1) := by decide +kernel
theorem dL_law_1143 : decode cL_law 1143 = .ok (.iconst 2, 1) := by decide +kernel
theorem dL_law_1144 : decode cL_law 1144 = .ok (.iadd, 1) := by decide +kernel
theorem dL_law_1145 : decode cL_law 1145 = .ok (.iaload, 1) := by decide +kernel
theorem dL_law_1146 : decode cL_law 1146 = .ok (.aload_n 0, 1) := by decide +kernel
theorem dL_law_1147 : decode cL_law 1147 = .ok (.iload_n 3, 1) := by decide +kernel
theorem dL_law_1148 : decode cL_law 1148 = .ok (.iconst 3, 1) := by decide +kernel
theorem dL_law_1149 : decode cL_law 1149 = .ok (.iadd, 1) := by decide +kernel
theorem dL_law_1150 : decode cL_law 1150 = .ok (.iaload, 1) := by decide +kernel
theorem dL_law_1151 : decode cL_law 1151 = .ok (.invokevirtual 125, 3) := by decide +kernel
theorem dL_law_1154 : decode cL_law 1154 = .ok (.pop2, 1) := by decide +kernel
theorem dL_law_1155 : decode cL_law 1155 = .ok (.goto 469, 3) := by decide +kernel
theorem dL_law_1158 : decode cL_law 1158 = .ok (.aload_n 1, 1) := by decide +kernel
theorem dL_law_1159 : decode cL_law 1159 = .ok (.aload_n 0, 1) := by decide +kernel
theorem dL_law_1160 : decode cL_law 1160 = .ok (.iload_n 3, 1) := by decide +kernel
theorem dL_law_1161 : decode cL_law 1161 = .ok (.iconst 1, 1) := by decide +kernel
theorem dL_law_1162 : decode cL_law 1162 = .ok (.iadd, 1) := by decide +kernel
theorem dL_law_1163 : decode cL_law 1163 = .ok (.iaload, 1) := by decide +kernel
theorem dL_law_1164 : decode cL_law 1164 = .ok (.aload_n 0, 1) := by decide +kernel
theorem dL_law_1165 : decode cL_law 1165 = .ok (.iload_n 3, 1) := by decide +kernel
theorem dL_law_1166 : decode cL_law 1166 = .ok (.iconst 2, 1) := by decide +kernel
theorem dL_law_1167 : decode cL_law 1167 = .ok (.iadd, 1) := by decide +kernel
theorem dL_law_1168 : decode cL_law 1168 = .ok (.iaload, 1) := by decide +kernel
theorem dL_law_1169 : decode cL_law 1169 = .ok (.aload_n 0, 1) := by decide +kernel
theorem dL_law_1170 : decode cL_law 1170 = .ok (.iload_n 3, 1) := by decide +kernel
theorem dL_law_1171 : decode cL_law 1171 = .ok (.iconst 3, 1) := by decide +kernel
theorem dL_law_1172 : decode cL_law 1172 = .ok (.iadd, 1) := by decide +kernel
theorem dL_law_1173 : decode cL_law 1173 = .ok (.iaload, 1) := by decide +kernel
theorem dL_law_1174 : decode cL_law 1174 = .ok (.invokevirtual 126, 3) := by decide +kernel
theorem dL_law_1177 : decode cL_law 1177 = .ok (.pop, 1) := by decide +kernel
theorem dL_law_1178 : decode cL_law 1178 = .ok (.aload_n 2, 1) := by decide +kernel
theorem dL_law_1179 : decode cL_law 1179 = .ok (.aload_n 0, 1) := by decide +kernel
theorem dL_law_1180 : decode cL_law 1180 = .ok (.iload_n 3, 1) := by decide +kernel
theorem dL_law_1181 : decode cL_law 1181 = .ok (.iconst 1, 1) := by decide +kernel
theorem dL_law_1182 : decode cL_law 1182 = .ok (.iadd, 1) := by decide +kernel
theorem dL_law_1183 : decode cL_law 1183 = .ok (.iaload, 1) := by decide +kernel
theorem dL_law_1184 : decode cL_law 1184 = .ok (.aload_n 0, 1) := by decide +kernel
theorem dL_law_1185 : decode cL_law 1185 = .ok (.iload_n 3, 1) := by decide +kernel
theorem dL_law_1186 : decode cL_law 1186 = .ok (.iconst 2, 1) := by decide +kernel
theorem dL_law_1187 : decode cL_law 1187 = .ok (.iadd, 1) := by decide +kernel
theorem dL_law_1188 : decode cL_law 1188 = .ok (.iaload, 1) := by decide +kernel
theorem dL_law_1189 : decode cL_law 1189 = .ok (.aload_n 0, 1) := by decide +kernel
theorem dL_law_1190 : decode cL_law 1190 = .ok (.iload_n 3, 1) := by decide +kernel
theorem dL_law_1191 : decode cL_law 1191 = .ok (.iconst 3, 1) := by decide +kernel
theorem dL_law_1192 : decode cL_law 1192 = .ok (.iadd, 1) := by decide +kernel
theorem dL_law_1193 : decode cL_law 1193 = .ok (.iaload, 1) := by decide +kernel
theorem dL_law_1194 : decode cL_law 1194 = .ok (.invokevirtual 129, 3) := by decide +kernel
theorem dL_law_1197 : decode cL_law 1197 = .ok (.pop, 1) := by decide +kernel
theorem dL_law_1198 : decode cL_law 1198 = .ok (.goto 426, 3) := by decide +kernel
theorem dL_law_1201 : decode cL_law 1201 = .ok (.aload_n 1, 1) := by decide +kernel
theorem dL_law_1202 : decode cL_law 1202 = .ok (.aload_n 0, 1) := by decide +kernel
theorem dL_law_1203 : decode cL_law 1203 = .ok (.iload_n 3, 1) := by decide +kernel
theorem dL_law_1204 : decode cL_law 1204 = .ok (.iconst 1, 1) := by decide +kernel
theorem dL_law_1205 : decode cL_law 1205 = .ok (.iadd, 1) := by decide +kernel
theorem dL_law_1206 : decode cL_law 1206 = .ok (.iaload, 1) := by decide +kernel
theorem dL_law_1207 : decode cL_law 1207 = .ok (.aload_n 0, 1) := by decide +kernel
theorem dL_law_1208 : decode cL_law 1208 = .ok (.iload_n 3, 1) := by decide +kernel
theorem dL_law_1209 : decode cL_law 1209 = .ok (.iconst 2, 1) := by decide +kernel
theorem dL_law_1210 : decode cL_law 1210 = .ok (.iadd, 1) := by decide +kernel
theorem dL_law_1211 : decode cL_law 1211 = .ok (.iaload, 1) := by decide +kernel
theorem dL_law_1212 : decode cL_law 1212 = .ok (.aload_n 0, 1) := by decide +kernel
theorem dL_law_1213 : decode cL_law 1213 = .ok (.iload_n 3, 1) := by decide +kernel
theorem dL_law_1214 : decode cL_law 1214 = .ok (.iconst 3, 1) := by decide +kernel
theorem dL_law_1215 : decode cL_law 1215 = .ok (.iadd, 1) := by decide +kernel
theorem dL_law_1216 : decode cL_law 1216 = .ok (.iaload, 1) := by decide +kernel
theorem dL_law_1217 : decode cL_law 1217 = .ok (.invokevirtual 130, 3) := by decide +kernel
theorem dL_law_1220 : decode cL_law 1220 = .ok (.pop, 1) := by decide +kernel
theorem dL_law_1221 : decode cL_law 1221 = .ok (.aload_n 2, 1) := by decide +kernel
theorem dL_law_1222 : decode cL_law 1222 = .ok (.aload_n 0, 1) := by decide +kernel
theorem dL_law_1223 : decode cL_law 1223 = .ok (.iload_n 3, 1) := by decide +kernel
theorem dL_law_1224 : decode cL_law 1224 = .ok (.iconst 1, 1) := by decide +kernel
theorem dL_law_1225 : decode cL_law 1225 = .ok (.iadd, 1) := by decide +kernel
theorem dL_law_1226 : decode cL_law 1226 = .ok (.iaload, 1) := by decide +kernel
theorem dL_law_1227 : decode cL_law 1227 = .ok (.aload_n 0, 1) := by decide +kernel
theorem dL_law_1228 : decode cL_law 1228 = .ok (.iload_n 3, 1) := by decide +kernel
theorem dL_law_1229 : decode cL_law 1229 = .ok (.iconst 2, 1) := by decide +kernel
theorem dL_law_1230 : decode cL_law 1230 = .ok (.iadd, 1) := by decide +kernel
theorem dL_law_1231 : decode cL_law 1231 = .ok (.iaload, 1) := by decide +kernel
theorem dL_law_1232 : decode cL_law 1232 = .ok (.aload_n 0, 1) := by decide +kernel
theorem dL_law_1233 : decode cL_law 1233 = .ok (.iload_n 3, 1) := by decide +kernel
theorem dL_law_1234 : decode cL_law 1234 = .ok (.iconst 3, 1) := by decide +kernel
theorem dL_law_1235 : decode cL_law 1235 = .ok (.iadd, 1) := by decide +kernel
theorem dL_law_1236 : decode cL_law 1236 = .ok (.iaload, 1) := by decide +kernel
theorem dL_law_1237 : decode cL_law 1237 = .ok (.invokevirtual 133, 3) := by decide +kernel
theorem dL_law_1240 : decode cL_law 1240 = .ok (.pop, 1) := by decide +kernel
theorem dL_law_1241 : decode cL_law 1241 = .ok (.goto 383, 3) := by decide +kernel
theorem dL_law_1244 : decode cL_law 1244 = .ok (.aload_n 1, 1) := by decide +kernel
theorem dL_law_1245 : decode cL_law 1245 = .ok (.aload_n 0, 1) := by decide +kernel
theorem dL_law_1246 : decode cL_law 1246 = .ok (.iload_n 3, 1) := by decide +kernel
theorem dL_law_1247 : decode cL_law 1247 = .ok (.iconst 1, 1) := by decide +kernel
theorem dL_law_1248 : decode cL_law 1248 = .ok (.iadd, 1) := by decide +kernel
theorem dL_law_1249 : decode cL_law 1249 = .ok (.iaload, 1) := by decide +kernel
theorem dL_law_1250 : decode cL_law 1250 = .ok (.aload_n 0, 1) := by decide +kernel
theorem dL_law_1251 : decode cL_law 1251 = .ok (.iload_n 3, 1) := by decide +kernel
theorem dL_law_1252 : decode cL_law 1252 = .ok (.iconst 2, 1) := by decide +kernel
theorem dL_law_1253 : decode cL_law 1253 = .ok (.iadd, 1) := by decide +kernel
theorem dL_law_1254 : decode cL_law 1254 = .ok (.iaload, 1) := by decide +kernel
theorem dL_law_1255 : decode cL_law 1255 = .ok (.aload_n 0, 1) := by decide +kernel
theorem dL_law_1256 : decode cL_law 1256 = .ok (.iload_n 3, 1) := by decide +kernel
theorem dL_law_1257 : decode cL_law 1257 = .ok (.iconst 3, 1) := by decide +kernel
theorem dL_law_1258 : decode cL_law 1258 = .ok (.iadd, 1) := by decide +kernel
theorem dL_law_1259 : decode cL_law 1259 = .ok (.iaload, 1) := by decide +kernel
theorem dL_law_1260 : decode cL_law 1260 = .ok (.aload_n 0, 1) := by decide +kernel
theorem dL_law_1261 : decode cL_law 1261 = .ok (.iload_n 3, 1) := by decide +kernel
theorem dL_law_1262 : decode cL_law 1262 = .ok (.iconst 4, 1) := by decide +kernel
theorem dL_law_1263 : decode cL_law 1263 = .ok (.iadd, 1) := by decide +kernel
theorem dL_law_1264 : decode cL_law 1264 = .ok (.iaload, 1) := by decide +kernel
theorem dL_law_1265 : decode cL_law 1265 = .ok (.invokevirtual 134, 3) := by decide +kernel
theorem dL_law_1268 : decode cL_law 1268 = .ok (.pop, 1) := by decide +kernel
theorem dL_law_1269 : decode cL_law 1269 = .ok (.aload_n 2, 1) := by decide +kernel
theorem dL_law_1270 : decode cL_law 1270 = .ok (.aload_n 0, 1) := by decide +kernel
theorem dL_law_1271 : decode cL_law 1271 = .ok (.iload_n 3, 1) := by decide +kernel
theorem dL_law_1272 : decode cL_law 1272 = .ok (.iconst 1, 1) := by decide +kernel
theorem dL_law_1273 : decode cL_law 1273 = .ok (.iadd, 1) := by decide +kernel
theorem dL_law_1274 : decode cL_law 1274 = .ok (.iaload, 1) := by decide +kernel
theorem dL_law_1275 : decode cL_law 1275 = .ok (.aload_n 0, 1) := by decide +kernel
theorem dL_law_1276 : decode cL_law 1276 = .ok (.iload_n 3, 1) := by decide +kernel
theorem dL_law_1277 : decode cL_law 1277 = .ok (.iconst 2, 1) := by decide +kernel
theorem dL_law_1278 : decode cL_law 1278 = .ok (.iadd, 1) := by decide +kernel
theorem dL_law_1279 : decode cL_law 1279 = .ok (.iaload, 1) := by decide +kernel
theorem dL_law_1280 : decode cL_law 1280 = .ok (.aload_n 0, 1) := by decide +kernel
theorem dL_law_1281 : decode cL_law 1281 = .ok (.iload_n 3, 1) := by decide +kernel
theorem dL_law_1282 : decode cL_law 1282 = .ok (.iconst 3, 1) := by decide +kernel
theorem dL_law_1283 : decode cL_law 1283 = .ok (.iadd, 1) := by decide +kernel
theorem dL_law_1284 : decode cL_law 1284 = .ok (.iaload, 1) := by decide +kernel
theorem dL_law_1285 : decode cL_law 1285 = .ok (.aload_n 0, 1) := by decide +kernel
theorem dL_law_1286 : decode cL_law 1286 = .ok (.iload_n 3, 1) := by decide +kernel
theorem dL_law_1287 : decode cL_law 1287 = .ok (.iconst 4, 1) := by decide +kernel
theorem dL_law_1288 : decode cL_law 1288 = .ok (.iadd, 1) := by decide +kernel
theorem dL_law_1289 : decode cL_law 1289 = .ok (.iaload, 1) := by decide +kernel
theorem dL_law_1290 : decode cL_law 1290 = .ok (.invokevirtual 137, 3) := by decide +kernel
theorem dL_law_1293 : decode cL_law 1293 = .ok (.pop, 1) := by decide +kernel
theorem dL_law_1294 : decode cL_law 1294 = .ok (.goto 330, 3) := by decide +kernel
theorem dL_law_1297 : decode cL_law 1297 = .ok (.aload_n 1, 1) := by decide +kernel
theorem dL_law_1298 : decode cL_law 1298 = .ok (.aload_n 0, 1) := by decide +kernel
theorem dL_law_1299 : decode cL_law 1299 = .ok (.iload_n 3, 1) := by decide +kernel
theorem dL_law_1300 : decode cL_law 1300 = .ok (.iconst 1, 1) := by decide +kernel
theorem dL_law_1301 : decode cL_law 1301 = .ok (.iadd, 1) := by decide +kernel
theorem dL_law_1302 : decode cL_law 1302 = .ok (.iaload, 1) := by decide +kernel
theorem dL_law_1303 : decode cL_law 1303 = .ok (.aload_n 0, 1) := by decide +kernel
theorem dL_law_1304 : decode cL_law 1304 = .ok (.iload_n 3, 1) := by decide +kernel
theorem dL_law_1305 : decode cL_law 1305 = .ok (.iconst 2, 1) := by decide +kernel
theorem dL_law_1306 : decode cL_law 1306 = .ok (.iadd, 1) := by decide +kernel
theorem dL_law_1307 : decode cL_law 1307 = .ok (.iaload, 1) := by decide +kernel
theorem dL_law_1308 : decode cL_law 1308 = .ok (.aload_n 0, 1) := by decide +kernel
theorem dL_law_1309 : decode cL_law 1309 = .ok (.iload_n 3, 1) := by decide +kernel
theorem dL_law_1310 : decode cL_law 1310 = .ok (.iconst 3, 1) := by decide +kernel
theorem dL_law_1311 : decode cL_law 1311 = .ok (.iadd, 1) := by decide +kernel
theorem dL_law_1312 : decode cL_law 1312 = .ok (.iaload, 1) := by decide +kernel
theorem dL_law_1313 : decode cL_law 1313 = .ok (.aload_n 0, 1) := by decide +kernel
theorem dL_law_1314 : decode cL_law 1314 = .ok (.iload_n 3, 1) := by decide +kernel
theorem dL_law_1315 : decode cL_law 1315 = .ok (.iconst 4, 1) := by decide +kernel
theorem dL_law_1316 : decode cL_law 1316 = .ok (.iadd, 1) := by decide +kernel
theorem dL_law_1317 : decode cL_law 1317 = .ok (.iaload, 1) := by decide +kernel
theorem dL_law_1318 : decode cL_law 1318 = .ok (.invokevirtual 138, 3) := by decide +kernel
theorem dL_law_1321 : decode cL_law 1321 = .ok (.pop, 1) := by decide +kernel
theorem dL_law_1322 : decode cL_law 1322 = .ok (.aload_n 2, 1) := by decide +kernel
theorem dL_law_1323 : decode cL_law 1323 = .ok (.aload_n 0, 1) := by decide +kernel
theorem dL_law_1324 : decode cL_law 1324 = .ok (.iload_n 3, 1) := by decide +kernel
theorem dL_law_1325 : decode cL_law 1325 = .ok (.iconst 1, 1) := by decide +kernel
theorem dL_law_1326 : decode cL_law 1326 = .ok (.iadd, 1) := by decide +kernel
theorem dL_law_1327 : decode cL_law 1327 = .ok (.iaload, 1) := by decide +kernel
theorem dL_law_1328 : decode cL_law 1328 = .ok (.aload_n 0, 1) := by decide +kernel
theorem dL_law_1329 : decode cL_law 1329 = .ok (.iload_n 3, 1) := by decide +kernel
theorem dL_law_1330 : decode cL_law 1330 = .ok (.iconst 2, 1) := by decide +kernel
theorem dL_law_1331 : decode cL_law 1331 = .ok (.iadd, 1) := by decide +kernel
theorem dL_law_1332 : decode cL_law 1332 = .ok (.iaload, 1) := by decide +kernel
theorem dL_law_1333 : decode cL_law 1333 = .ok (.aload_n 0, 1) := by decide +kernel
theorem dL_law_1334 : decode cL_law 1334 = .ok (.iload_n 3, 1) := by decide +kernel
theorem dL_law_1335 : decode cL_law 1335 = .ok (.iconst 3, 1) := by decide +kernel
theorem dL_law_1336 : decode cL_law 1336 = .ok (.iadd, 1) := by decide +kernel
theorem dL_law_1337 : decode cL_law 1337 = .ok (.iaload, 1) := by decide +kernel
theorem dL_law_1338 : decode cL_law 1338 = .ok (.aload_n 0, 1) := by decide +kernel
theorem dL_law_1339 : decode cL_law 1339 = .ok (.iload_n 3, 1) := by decide +kernel
theorem dL_law_1340 : decode cL_law 1340 = .ok (.iconst 4, 1) := by decide +kernel
theorem dL_law_1341 : decode cL_law 1341 = .ok (.iadd, 1) := by decide +kernel
theorem dL_law_1342 : decode cL_law 1342 = .ok (.iaload, 1) := by decide +kernel
theorem dL_law_1343 : decode cL_law 1343 = .ok (.invokevirtual 141, 3) := by decide +kernel
theorem dL_law_1346 : decode cL_law 1346 = .ok (.pop, 1) := by decide +kernel
theorem dL_law_1347 : decode cL_law 1347 = .ok (.goto 277, 3) := by decide +kernel
theorem dL_law_1350 : decode cL_law 1350 = .ok (.aload_n 1, 1) := by decide +kernel
theorem dL_law_1351 : decode cL_law 1351 = .ok (.aload_n 0, 1) := by decide +kernel
theorem dL_law_1352 : decode cL_law 1352 = .ok (.iload_n 3, 1) := by decide +kernel
theorem dL_law_1353 : decode cL_law 1353 = .ok (.iconst 1, 1) := by decide +kernel
theorem dL_law_1354 : decode cL_law 1354 = .ok (.iadd, 1) := by decide +kernel
theorem dL_law_1355 : decode cL_law 1355 = .ok (.iaload, 1) := by decide +kernel
theorem dL_law_1356 : decode cL_law 1356 = .ok (.aload_n 0, 1) := by decide +kernel
theorem dL_law_1357 : decode cL_law 1357 = .ok (.iload_n 3, 1) := by decide +kernel
theorem dL_law_1358 : decode cL_law 1358 = .ok (.iconst 2, 1) := by decide +kernel
theorem dL_law_1359 : decode cL_law 1359 = .ok (.iadd, 1) := by decide +kernel
theorem dL_law_1360 : decode cL_law 1360 = .ok (.iaload, 1) := by decide +kernel
theorem dL_law_1361 : decode cL_law 1361 = .ok (.aload_n 0, 1) := by decide +kernel
theorem dL_law_1362 : decode cL_law 1362 = .ok (.iload_n 3, 1) := by decide +kernel
theorem dL_law_1363 : decode cL_law 1363 = .ok (.iconst 3, 1) := by decide +kernel
theorem dL_law_1364 : decode cL_law 1364 = .ok (.iadd, 1) := by decide +kernel
theorem dL_law_1365 : decode cL_law 1365 = .ok (.iaload, 1) := by decide +kernel
theorem dL_law_1366 : decode cL_law 1366 = .ok (.aload_n 0, 1) := by decide +kernel
theorem dL_law_1367 : decode cL_law 1367 = .ok (.iload_n 3, 1) := by decide +kernel
theorem dL_law_1368 : decode cL_law 1368 = .ok (.iconst 4, 1) := by decide +kernel
theorem dL_law_1369 : decode cL_law 1369 = .ok (.iadd, 1) := by decide +kernel
theorem dL_law_1370 : decode cL_law 1370 = .ok (.iaload, 1) := by decide +kernel
theorem dL_law_1371 : decode cL_law 1371 = .ok (.invokevirtual 142, 3) := by decide +kernel
theorem dL_law_1374 : decode cL_law 1374 = .ok (.pop, 1) := by decide +kernel
theorem dL_law_1375 : decode cL_law 1375 = .ok (.aload_n 2, 1) := by decide +kernel
theorem dL_law_1376 : decode cL_law 1376 = .ok (.aload_n 0, 1) := by decide +kernel
theorem dL_law_1377 : decode cL_law 1377 = .ok (.iload_n 3, 1) := by decide +kernel
theorem dL_law_1378 : decode cL_law 1378 = .ok (.iconst 1, 1) := by decide +kernel
theorem dL_law_1379 : decode cL_law 1379 = .ok (.iadd, 1) := by decide +kernel
theorem dL_law_1380 : decode cL_law 1380 = .ok (.iaload, 1) := by decide +kernel
theorem dL_law_1381 : decode cL_law 1381 = .ok (.aload_n 0, 1) := by decide +kernel
theorem dL_law_1382 : decode cL_law 1382 = .ok (.iload_n 3, 1) := by decide +kernel
theorem dL_law_1383 : decode cL_law 1383 = .ok (.iconst 2, 1) := by decide +kernel
theorem dL_law_1384 : decode cL_law 1384 = .ok (.iadd, 1) := by decide +kernel
theorem dL_law_1385 : decode cL_law 1385 = .ok (.iaload, 1) := by decide +kernel
theorem dL_law_1386 : decode cL_law 1386 = .ok (.aload_n 0, 1) := by decide +kernel
theorem dL_law_1387 : decode cL_law 1387 = .ok (.iload_n 3, 1) := by decide +kernel
theorem dL_law_1388 : decode cL_law 1388 = .ok (.iconst 3, 1) := by decide +kernel
theorem dL_law_1389 : decode cL_law 1389 = .ok (.iadd, 1) := by decide +kernel
theorem dL_law_1390 : decode cL_law 1390 = .ok (.iaload, 1) := by decide +kernel
theorem dL_law_1391 : decode cL_law 1391 = .ok (.aload_n 0, 1) := by decide +kernel
theorem dL_law_1392 : decode cL_law 1392 = .ok (.iload_n 3, 1) := by decide +kernel
theorem dL_law_1393 : decode cL_law 1393 = .ok (.iconst 4, 1) := by decide +kernel
theorem dL_law_1394 : decode cL_law 1394 = .ok (.iadd, 1) := by decide +kernel
theorem dL_law_1395 : decode cL_law 1395 = .ok (.iaload, 1) := by decide +kernel
theorem dL_law_1396 : decode cL_law 1396 = .ok (.invokevirtual 145, 3) := by decide +kernel
theorem dL_law_1399 : decode cL_law 1399 = .ok (.pop, 1) := by decide +kernel
theorem dL_law_1400 : decode cL_law 1400 = .ok (.goto 224, 3) := by decide +kernel
theorem dL_law_1403 : decode cL_law 1403 = .ok (.aload_n 1, 1) := by decide +kernel
theorem dL_law_1404 : decode cL_law 1404 = .ok (.aload_n 0, 1) := by decide +kernel
theorem dL_law_1405 : decode cL_law 1405 = .ok (.iload_n 3, 1) := by decide +kernel
theorem dL_law_1406 : decode cL_law 1406 = .ok (.iconst 1, 1) := by decide +kernel
theorem dL_law_1407 : decode cL_law 1407 = .ok (.iadd, 1) := by decide +kernel
theorem dL_law_1408 : decode cL_law 1408 = .ok (.iaload, 1) := by decide +kernel
theorem dL_law_1409 : decode cL_law 1409 = .ok (.aload_n 0, 1) := by decide +kernel
theorem dL_law_1410 : decode cL_law 1410 = .ok (.iload_n 3, 1) := by decide +kernel
theorem dL_law_1411 : decode cL_law 1411 = .ok (.iconst 2, 1) := by decide +kernel
theorem dL_law_1412 : decode cL_law 1412 = .ok (.iadd, 1) := by decide +kernel
theorem dL_law_1413 : decode cL_law 1413 = .ok (.iaload, 1) := by decide +kernel
theorem dL_law_1414 : decode cL_law 1414 = .ok (.invokevirtual 146, 3) := by decide +kernel
theorem dL_law_1417 : decode cL_law 1417 = .ok (.pop, 1) := by decide +kernel
theorem dL_law_1418 : decode cL_law 1418 = .ok (.aload_n 2, 1) := by decide +kernel
theorem dL_law_1419 : decode cL_law 1419 = .ok (.aload_n 0, 1) := by decide +kernel
theorem dL_law_1420 : decode cL_law 1420 = .ok (.iload_n 3, 1) := by decide +kernel
theorem dL_law_1421 : decode cL_law 1421 = .ok (.iconst 1, 1) := by decide +kernel
theorem dL_law_1422 : decode cL_law 1422 = .ok (.iadd, 1) := by decide +kernel
theorem dL_law_1423 : decode cL_law 1423 = .ok (.iaload, 1) := by decide +kernel
theorem dL_law_1424 : decode cL_law 1424 = .ok (.aload_n 0, 1) := by decide +kernel
theorem dL_law_1425 : decode cL_law 1425 = .ok (.iload_n 3, 1) := by decide +kernel
theorem dL_law_1426 : decode cL_law 1426 = .ok (.iconst 2, 1) := by decide +kernel
theorem dL_law_1427 : decode cL_law 1427 = .ok (.iadd, 1) := by decide +kernel
theorem dL_law_1428 : decode cL_law 1428 = .ok (.iaload, 1) := by decide +kernel
theorem dL_law_1429 : decode cL_law 1429 = .ok (.invokevirtual 149, 3) := by decide +kernel
theorem dL_law_1432 : decode cL_law 1432 = .ok (.pop, 1) := by decide +kernel
theorem dL_law_1433 : decode cL_law 1433 = .ok (.goto 191, 3) := by decide +kernel
theorem dL_law_1436 : decode cL_law 1436 = .ok (.aload_n 1, 1) := by decide +kernel
theorem dL_law_1437 : decode cL_law 1437 = .ok (.aload_n 0, 1) := by decide +kernel
theorem dL_law_1438 : decode cL_law 1438 = .ok (.iload_n 3, 1) := by decide +kernel
theorem dL_law_1439 : decode cL_law 1439 = .ok (.iconst 1, 1) := by decide +kernel
theorem dL_law_1440 : decode cL_law 1440 = .ok (.iadd, 1) := by decide +kernel
theorem dL_law_1441 : decode cL_law 1441 = .ok (.iaload, 1) := by decide +kernel
theorem dL_law_1442 : decode cL_law 1442 = .ok (.invokevirtual 150, 3) := by decide +kernel
theorem dL_law_1445 : decode cL_law 1445 = .ok (.pop, 1) := by decide +kernel
theorem dL_law_1446 : decode cL_law 1446 = .ok (.aload_n 2, 1) := by decide +kernel
theorem dL_law_1447 : decode cL_law 1447 = .ok (.aload_n 0, 1) := by decide +kernel
theorem dL_law_1448 : decode cL_law 1448 = .ok (.iload_n 3, 1) := by decide +kernel
theorem dL_law_1449 : decode cL_law 1449 = .ok (.iconst 1, 1) := by decide +kernel
theorem dL_law_1450 : decode cL_law 1450 = .ok (.iadd, 1) := by decide +kernel
theorem dL_law_1451 : decode cL_law 1451 = .ok (.iaload, 1) := by decide +kernel
theorem dL_law_1452 : decode cL_law 1452 = .ok (.invokevirtual 153, 3) := by decide +kernel
theorem dL_law_1455 : decode cL_law 1455 = .ok (.pop, 1) := by decide +kernel
theorem dL_law_1456 : decode cL_law 1456 = .ok (.goto 168, 3) := by decide +kernel
theorem dL_law_1459 : decode cL_law 1459 = .ok (.aload_n 1, 1) := by decide +kernel
theorem dL_law_1460 : decode cL_law 1460 = .ok (.aload_n 0, 1) := by decide +kernel
theorem dL_law_1461 : decode cL_law 1461 = .ok (.iload_n 3, 1) := by decide +kernel
theorem dL_law_1462 : decode cL_law 1462 = .ok (.iconst 1, 1) := by decide +kernel
theorem dL_law_1463 : decode cL_law 1463 = .ok (.iadd, 1) := by decide +kernel
theorem dL_law_1464 : decode cL_law 1464 = .ok (.iaload, 1) := by decide +kernel
theorem dL_law_1465 : decode cL_law 1465 = .ok (.invokevirtual 154, 3) := by decide +kernel
theorem dL_law_1468 : decode cL_law 1468 = .ok (.pop, 1) := by decide +kernel
theorem dL_law_1469 : decode cL_law 1469 = .ok (.aload_n 2, 1) := by decide +kernel
theorem dL_law_1470 : decode cL_law 1470 = .ok (.aload_n 0, 1) := by decide +kernel
theorem dL_law_1471 : decode cL_law 1471 = .ok (.iload_n 3, 1) := by decide +kernel
theorem dL_law_1472 : decode cL_law 1472 = .ok (.iconst 1, 1) := by decide +kernel
theorem dL_law_1473 : decode cL_law 1473 = .ok (.iadd, 1) := by decide +kernel
theorem dL_law_1474 : decode cL_law 1474 = .ok (.iaload, 1) := by decide +kernel
theorem dL_law_1475 : decode cL_law 1475 = .ok (.invokevirtual 157, 3) := by decide +kernel
theorem dL_law_1478 : decode cL_law 1478 = .ok (.pop, 1) := by decide +kernel
theorem dL_law_1479 : decode cL_law 1479 = .ok (.goto 145, 3) := by decide +kernel
theorem dL_law_1482 : decode cL_law 1482 = .ok (.aload_n 1, 1) := by decide +kernel
theorem dL_law_1483 : decode cL_law 1483 = .ok (.aload_n 0, 1) := by decide +kernel
theorem dL_law_1484 : decode cL_law 1484 = .ok (.iload_n 3, 1) := by decide +kernel
theorem dL_law_1485 : decode cL_law 1485 = .ok (.iconst 1, 1) := by decide +kernel
theorem dL_law_1486 : decode cL_law 1486 = .ok (.iadd, 1) := by decide +kernel
theorem dL_law_1487 : decode cL_law 1487 = .ok (.iaload, 1) := by decide +kernel
theorem dL_law_1488 : decode cL_law 1488 = .ok (.aload_n 0, 1) := by decide +kernel
theorem dL_law_1489 : decode cL_law 1489 = .ok (.iload_n 3, 1) := by decide +kernel
theorem dL_law_1490 : decode cL_law 1490 = .ok (.iconst 2, 1) := by decide +kernel
theorem dL_law_1491 : decode cL_law 1491 = .ok (.iadd, 1) := by decide +kernel
theorem dL_law_1492 : decode cL_law 1492 = .ok (.iaload, 1) := by decide +kernel
theorem dL_law_1493 : decode cL_law 1493 = .ok (.invokevirtual 158, 3) := by decide +kernel
theorem dL_law_1496 : decode cL_law 1496 = .ok (.pop, 1) := by decide +kernel
theorem dL_law_1497 : decode cL_law 1497 = .ok (.aload_n 2, 1) := by decide +kernel
theorem dL_law_1498 : decode cL_law 1498 = .ok (.aload_n 0, 1) := by decide +kernel
theorem dL_law_1499 : decode cL_law 1499 = .ok (.iload_n 3, 1) := by decide +kernel
theorem dL_law_1500 : decode cL_law 1500 = .ok (.iconst 1, 1) := by decide +kernel
theorem dL_law_1501 : decode cL_law 1501 = .ok (.iadd, 1) := by decide +kernel
theorem dL_law_1502 : decode cL_law 1502 = .ok (.iaload, 1) := by decide +kernel
theorem dL_law_1503 : decode cL_law 1503 = .ok (.aload_n 0, 1) := by decide +kernel
theorem dL_law_1504 : decode cL_law 1504 = .ok (.iload_n 3, 1) := by decide +kernel
theorem dL_law_1505 : decode cL_law 1505 = .ok (.iconst 2, 1) := by decide +kernel
theorem dL_law_1506 : decode cL_law 1506 = .ok (.iadd, 1) := by decide +kernel
theorem dL_law_1507 : decode cL_law 1507 = .ok (.iaload, 1) := by decide +kernel
theorem dL_law_1508 : decode cL_law 1508 = .ok (.invokevirtual 161, 3) := by decide +kernel
theorem dL_law_1511 : decode cL_law 1511 = .ok (.pop, 1) := by decide +kernel
theorem dL_law_1512 : decode cL_law 1512 = .ok (.goto 112, 3) := by decide +kernel
theorem dL_law_1515 : decode cL_law 1515 = .ok (.aload_n 1, 1) := by decide +kernel
theorem dL_law_1516 : decode cL_law 1516 = .ok (.aload_n 0, 1) := by decide +kernel
theorem dL_law_1517 : decode cL_law 1517 = .ok (.iload_n 3, 1) := by decide +kernel
theorem dL_law_1518 : decode cL_law 1518 = .ok (.iconst 1, 1) := by decide +kernel
theorem dL_law_1519 : decode cL_law 1519 = .ok (.iadd, 1) := by decide +kernel
theorem dL_law_1520 : decode cL_law 1520 = .ok (.iaload, 1) := by decide +kernel
theorem dL_law_1521 : decode cL_law 1521 = .ok (.aload_n 0, 1) := by decide +kernel
theorem dL_law_1522 : decode cL_law 1522 = .ok (.iload_n 3, 1) := by decide +kernel
theorem dL_law_1523 : decode cL_law 1523 = .ok (.iconst 2, 1) := by decide +kernel
theorem dL_law_1524 : decode cL_law 1524 = .ok (.iadd, 1) := by decide +kernel
theorem dL_law_1525 : decode cL_law 1525 = .ok (.iaload, 1) := by decide +kernel
theorem dL_law_1526 : decode cL_law 1526 = .ok (.aload_n 0, 1) := by decide +kernel
theorem dL_law_1527 : decode cL_law 1527 = .ok (.iload_n 3, 1) := by decide +kernel
theorem dL_law_1528 : decode cL_law 1528 = .ok (.iconst 3, 1) := by decide +kernel
theorem dL_law_1529 : decode cL_law 1529 = .ok (.iadd, 1) := by decide +kernel
theorem dL_law_1530 : decode cL_law 1530 = .ok (.iaload, 1) := by decide +kernel
theorem dL_law_1531 : decode cL_law 1531 = .ok (.invokevirtual 162, 3) := by decide +kernel
theorem dL_law_1534 : decode cL_law 1534 = .ok (.pop, 1) := by decide +kernel
theorem dL_law_1535 : decode cL_law 1535 = .ok (.aload_n 2, 1) := by decide +kernel
theorem dL_law_1536 : decode cL_law 1536 = .ok (.aload_n 0, 1) := by decide +kernel
theorem dL_law_1537 : decode cL_law 1537 = .ok (.iload_n 3, 1) := by decide +kernel
theorem dL_law_1538 : decode cL_law 1538 = .ok (.iconst 1, 1) := by decide +kernel
theorem dL_law_1539 : decode cL_law 1539 = .ok (.iadd, 1) := by decide +kernel
theorem dL_law_1540 : decode cL_law 1540 = .ok (.iaload, 1) := by decide +kernel
theorem dL_law_1541 : decode cL_law 1541 = .ok (.aload_n 0, 1) := by decide +kernel
theorem dL_law_1542 : decode cL_law 1542 = .ok (.iload_n 3, 1) := by decide +kernel
theorem dL_law_1543 : decode cL_law 1543 = .ok (.iconst 2, 1) := by decide +kernel
theorem dL_law_1544 : decode cL_law 1544 = .ok (.iadd, 1) := by decide +kernel
theorem dL_law_1545 : decode cL_law 1545 = .ok (.iaload, 1) := by decide +kernel
theorem dL_law_1546 : decode cL_law 1546 = .ok (.aload_n 0, 1) := by decide +kernel
theorem dL_law_1547 : decode cL_law 1547 = .ok (.iload_n 3, 1) := by decide +kernel
theorem dL_law_1548 : decode cL_law 1548 = .ok (.iconst 3, 1) := by decide +kernel
theorem dL_law_1549 : decode cL_law 1549 = .ok (.iadd, 1) := by decide +kernel
theorem dL_law_1550 : decode cL_law 1550 = .ok (.iaload, 1) := by decide +kernel
theorem dL_law_1551 : decode cL_law 1551 = .ok (.invokevirtual 165, 3) := by decide +kernel
theorem dL_law_1554 : decode cL_law 1554 = .ok (.pop, 1) := by decide +kernel
theorem dL_law_1555 : decode cL_law 1555 = .ok (.goto 69, 3) := by decide +kernel
theorem dL_law_1558 : decode cL_law 1558 = .ok (.aload_n 1, 1) := by decide +kernel
theorem dL_law_1559 : decode cL_law 1559 = .ok (.aload_n 0, 1) := by decide +kernel
theorem dL_law_1560 : decode cL_law 1560 = .ok (.iload_n 3, 1) := by decide +kernel
theorem dL_law_1561 : decode cL_law 1561 = .ok (.iconst 1, 1) := by decide +kernel
theorem dL_law_1562 : decode cL_law 1562 = .ok (.iadd, 1) := by decide +kernel
theorem dL_law_1563 : decode cL_law 1563 = .ok (.iaload, 1) := by decide +kernel
theorem dL_law_1564 : decode cL_law 1564 = .ok (.aload_n 0, 1) := by decide +kernel
theorem dL_law_1565 : decode cL_law 1565 = .ok (.iload_n 3, 1) := by decide +kernel
theorem dL_law_1566 : decode cL_law 1566 = .ok (.iconst 2, 1) := by decide +kernel
theorem dL_law_1567 : decode cL_law 1567 = .ok (.iadd, 1) := by decide +kernel
theorem dL_law_1568 : decode cL_law 1568 = .ok (.iaload, 1) := by decide +kernel
theorem dL_law_1569 : decode cL_law 1569 = .ok (.aload_n 0, 1) := by decide +kernel
theorem dL_law_1570 : decode cL_law 1570 = .ok (.iload_n 3, 1) := by decide +kernel
theorem dL_law_1571 : decode cL_law 1571 = .ok (.iconst 3, 1) := by decide +kernel
theorem dL_law_1572 : decode cL_law 1572 = .ok (.iadd, 1) := by decide +kernel
theorem dL_law_1573 : decode cL_law 1573 = .ok (.iaload, 1) := by decide +kernel
theorem dL_law_1574 : decode cL_law 1574 = .ok (.invokevirtual 166, 3) := by decide +kernel
theorem dL_law_1577 : decode cL_law 1577 = .ok (.pop, 1) := by decide +kernel
theorem dL_law_1578 : decode cL_law 1578 = .ok (.aload_n 2, 1) := by decide +kernel
theorem dL_law_1579 : decode cL_law 1579 = .ok (.aload_n 0, 1) := by decide +kernel
theorem dL_law_1580 : decode cL_law 1580 = .ok (.iload_n 3, 1) := by decide +kernel
theorem dL_law_1581 : decode cL_law 1581 = .ok (.iconst 1, 1) := by decide +kernel
theorem dL_law_1582 : decode cL_law 1582 = .ok (.iadd, 1) := by decide +kernel
theorem dL_law_1583 : decode cL_law 1583 = .ok (.iaload, 1) := by decide +kernel
theorem dL_law_1584 : decode cL_law 1584 = .ok (.aload_n 0, 1) := by decide +kernel
theorem dL_law_1585 : decode cL_law 1585 = .ok (.iload_n 3, 1) := by decide +kernel
theorem dL_law_1586 : decode cL_law 1586 = .ok (.iconst 2, 1) := by decide +kernel
theorem dL_law_1587 : decode cL_law 1587 = .ok (.iadd, 1) := by decide +kernel
theorem dL_law_1588 : decode cL_law 1588 = .ok (.iaload, 1) := by decide +kernel
theorem dL_law_1589 : decode cL_law 1589 = .ok (.aload_n 0, 1) := by decide +kernel
theorem dL_law_1590 : decode cL_law 1590 = .ok (.iload_n 3, 1) := by decide +kernel
theorem dL_law_1591 : decode cL_law 1591 = .ok (.iconst 3, 1) := by decide +kernel
theorem dL_law_1592 : decode cL_law 1592 = .ok (.iadd, 1) := by decide +kernel
theorem dL_law_1593 : decode cL_law 1593 = .ok (.iaload, 1) := by decide +kernel
theorem dL_law_1594 : decode cL_law 1594 = .ok (.invokevirtual 169, 3) := by decide +kernel
theorem dL_law_1597 : decode cL_law 1597 = .ok (.pop, 1) := by decide +kernel
theorem dL_law_1598 : decode cL_law 1598 = .ok (.goto 26, 3) := by decide +kernel
theorem dL_law_1601 : decode cL_law 1601 = .ok (.aload_n 1, 1) := by decide +kernel
theorem dL_law_1602 : decode cL_law 1602 = .ok (.aload_n 0, 1) := by decide +kernel
theorem dL_law_1603 : decode cL_law 1603 = .ok (.iload_n 3, 1) := by decide +kernel
theorem dL_law_1604 : decode cL_law 1604 = .ok (.iconst 1, 1) := by decide +kernel
theorem dL_law_1605 : decode cL_law 1605 = .ok (.iadd, 1) := by decide +kernel
theorem dL_law_1606 : decode cL_law 1606 = .ok (.iaload, 1) := by decide +kernel
theorem dL_law_1607 : decode cL_law 1607 = .ok (.invokevirtual 170, 3) := by decide +kernel
theorem dL_law_1610 : decode cL_law 1610 = .ok (.pop, 1) := by decide +kernel
theorem dL_law_1611 : decode cL_law 1611 = .ok (.aload_n 2, 1) := by decide +kernel
theorem dL_law_1612 : decode cL_law 1612 = .ok (.aload_n 0, 1) := by decide +kernel
theorem dL_law_1613 : decode cL_law 1613 = .ok (.iload_n 3, 1) := by decide +kernel
theorem dL_law_1614 : decode cL_law 1614 = .ok (.iconst 1, 1) := by decide +kernel
theorem dL_law_1615 : decode cL_law 1615 = .ok (.iadd, 1) := by decide +kernel
theorem dL_law_1616 : decode cL_law 1616 = .ok (.iaload, 1) := by decide +kernel
theorem dL_law_1617 : decode cL_law 1617 = .ok (.invokevirtual 173, 3) := by decide +kernel
theorem dL_law_1620 : decode cL_law 1620 = .ok (.pop, 1) := by decide +kernel
theorem dL_law_1621 : decode cL_law 1621 = .ok (.goto 3, 3) := by decide +kernel
theorem dL_law_1624 : decode cL_law 1624 = .ok (.iinc 3 6, 3) := by decide +kernel
theorem dL_law_1627 : decode cL_law 1627 = .ok (.goto (-1609), 3) := by decide +kernel
theorem dL_law_1630 : decode cL_law 1630 = .ok (.iconst 1, 1) := by decide +kernel
theorem dL_law_1631 : decode cL_law 1631 = .ok (.ireturn, 1) := by decide +kernel
