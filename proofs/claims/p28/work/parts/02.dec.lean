theorem dX0_init_0 : decode cX0_init 0 = .ok (.aload_n 0, 1) := by decide +kernel
theorem dX0_init_1 : decode cX0_init 1 = .ok (.invokespecial 3, 3) := by decide +kernel
theorem dX0_init_4 : decode cX0_init 4 = .ok (.aload_n 0, 1) := by decide +kernel
theorem dX0_init_5 : decode cX0_init 5 = .ok (.getstatic 9, 3) := by decide +kernel
theorem dX0_init_8 : decode cX0_init 8 = .ok (.invokevirtual 13, 3) := by decide +kernel
theorem dX0_init_11 : decode cX0_init 11 = .ok (.checkcast 14, 3) := by decide +kernel
theorem dX0_init_14 : decode cX0_init 14 = .ok (.putfield 18, 3) := by decide +kernel
theorem dX0_init_17 : decode cX0_init 17 = .ok (.aload_n 0, 1) := by decide +kernel
theorem dX0_init_18 : decode cX0_init 18 = .ok (.bipush 6, 2) := by decide +kernel
theorem dX0_init_20 : decode cX0_init 20 = .ok (.newarray .int, 2) := by decide +kernel
theorem dX0_init_22 : decode cX0_init 22 = .ok (.putfield 23, 3) := by decide +kernel
theorem dX0_init_25 : decode cX0_init 25 = .ok (.aload_n 0, 1) := by decide +kernel
theorem dX0_init_26 : decode cX0_init 26 = .ok (.bipush 6, 2) := by decide +kernel
theorem dX0_init_28 : decode cX0_init 28 = .ok (.newarray .int, 2) := by decide +kernel
theorem dX0_init_30 : decode cX0_init 30 = .ok (.putfield 26, 3) := by decide +kernel
theorem dX0_init_33 : decode cX0_init 33 = .ok (.aload_n 0, 1) := by decide +kernel
theorem dX0_init_34 : decode cX0_init 34 = .ok (.bipush 6, 2) := by decide +kernel
theorem dX0_init_36 : decode cX0_init 36 = .ok (.newarray .int, 2) := by decide +kernel
theorem dX0_init_38 : decode cX0_init 38 = .ok (.putfield 29, 3) := by decide +kernel
theorem dX0_init_41 : decode cX0_init 41 = .ok (.aload_n 0, 1) := by decide +kernel
theorem dX0_init_42 : decode cX0_init 42 = .ok (.bipush 8, 2) := by decide +kernel
theorem dX0_init_44 : decode cX0_init 44 = .ok (.anewarray 32, 3) := by decide +kernel
theorem dX0_init_47 : decode cX0_init 47 = .ok (.putfield 34, 3) := by decide +kernel
theorem dX0_init_50 : decode cX0_init 50 = .ok (.iconst 0, 1) := by decide +kernel
theorem dX0_init_51 : decode cX0_init 51 = .ok (.istore_n 1, 1) := by decide +kernel
theorem dX0_init_52 : decode cX0_init 52 = .ok (.iload_n 1, 1) := by decide +kernel
theorem dX0_init_53 : decode cX0_init 53 = .ok (.bipush 8, 2) := by decide +kernel
theorem dX0_init_55 : decode cX0_init 55 = .ok (.if_icmp .ge 23, 3) := by decide +kernel
theorem dX0_init_58 : decode cX0_init 58 = .ok (.aload_n 0, 1) := by decide +kernel
theorem dX0_init_59 : decode cX0_init 59 = .ok (.getfield 34, 3) := by decide +kernel
theorem dX0_init_62 : decode cX0_init 62 = .ok (.iload_n 1, 1) := by decide +kernel
theorem dX0_init_63 : decode cX0_init 63 = .ok (.new 32, 3) := by decide +kernel
theorem dX0_init_66 : decode cX0_init 66 = .ok (.dup, 1) := by decide +kernel
theorem dX0_init_67 : decode cX0_init 67 = .ok (.iload_n 1, 1) := by decide +kernel
theorem dX0_init_68 : decode cX0_init 68 = .ok (.invokespecial 38, 3) := by decide +kernel
theorem dX0_init_71 : decode cX0_init 71 = .ok (.aastore, 1) := by decide +kernel
theorem dX0_init_72 : decode cX0_init 72 = .ok (.iinc 1 1, 3) := by decide +kernel
theorem dX0_init_75 : decode cX0_init 75 = .ok (.goto (-23), 3) := by decide +kernel
theorem dX0_init_78 : decode cX0_init 78 = .ok (.return_, 1) := by decide +kernel
theorem dX0_copyFrom_0 : decode cX0_copyFrom 0 = .ok (.aload_n 1, 1) := by decide +kernel
theorem dX0_copyFrom_1 : decode cX0_copyFrom 1 = .ok (.getfield 18, 3) := by decide +kernel
theorem dX0_copyFrom_4 : decode cX0_copyFrom 4 = .ok (.aload_n 0, 1) := by decide +kernel
theorem dX0_copyFrom_5 : decode cX0_copyFrom 5 = .ok (.getfield 18, 3) := by decide +kernel
theorem dX0_copyFrom_8 : decode cX0_copyFrom 8 = .ok (.invokestatic 41, 3) := by decide +kernel
theorem dX0_copyFrom_11 : decode cX0_copyFrom 11 = .ok (.aload_n 1, 1) := by decide +kernel
theorem dX0_copyFrom_12 : decode cX0_copyFrom 12 = .ok (.getfield 23, 3) := by decide +kernel
theorem dX0_copyFrom_15 : decode cX0_copyFrom 15 = .ok (.aload_n 0, 1) := by decide +kernel
theorem dX0_copyFrom_16 : decode cX0_copyFrom 16 = .ok (.getfield 23, 3) := by decide +kernel
theorem dX0_copyFrom_19 : decode cX0_copyFrom 19 = .ok (.invokestatic 41, 3) := by decide +kernel
theorem dX0_copyFrom_22 : decode cX0_copyFrom 22 = .ok (.aload_n 1, 1) := by decide +kernel
theorem dX0_copyFrom_23 : decode cX0_copyFrom 23 = .ok (.getfield 26, 3) := by decide +kernel
theorem dX0_copyFrom_26 : decode cX0_copyFrom 26 = .ok (.aload_n 0, 1) := by decide +kernel
theorem dX0_copyFrom_27 : decode cX0_copyFrom 27 = .ok (.getfield 26, 3) := by decide +kernel
theorem dX0_copyFrom_30 : decode cX0_copyFrom 30 = .ok (.invokestatic 41, 3) := by decide +kernel
theorem dX0_copyFrom_33 : decode cX0_copyFrom 33 = .ok (.aload_n 1, 1) := by decide +kernel
theorem dX0_copyFrom_34 : decode cX0_copyFrom 34 = .ok (.getfield 29, 3) := by decide +kernel
theorem dX0_copyFrom_37 : decode cX0_copyFrom 37 = .ok (.aload_n 0, 1) := by decide +kernel
theorem dX0_copyFrom_38 : decode cX0_copyFrom 38 = .ok (.getfield 29, 3) := by decide +kernel
theorem dX0_copyFrom_41 : decode cX0_copyFrom 41 = .ok (.invokestatic 41, 3) := by decide +kernel
theorem dX0_copyFrom_44 : decode cX0_copyFrom 44 = .ok (.iconst 0, 1) := by decide +kernel
theorem dX0_copyFrom_45 : decode cX0_copyFrom 45 = .ok (.istore_n 2, 1) := by decide +kernel
theorem dX0_copyFrom_46 : decode cX0_copyFrom 46 = .ok (.iload_n 2, 1) := by decide +kernel
theorem dX0_copyFrom_47 : decode cX0_copyFrom 47 = .ok (.bipush 8, 2) := by decide +kernel
theorem dX0_copyFrom_49 : decode cX0_copyFrom 49 = .ok (.if_icmp .ge 24, 3) := by decide +kernel
theorem dX0_copyFrom_52 : decode cX0_copyFrom 52 = .ok (.aload_n 0, 1) := by decide +kernel
theorem dX0_copyFrom_53 : decode cX0_copyFrom 53 = .ok (.getfield 34, 3) := by decide +kernel
theorem dX0_copyFrom_56 : decode cX0_copyFrom 56 = .ok (.iload_n 2, 1) := by decide +kernel
theorem dX0_copyFrom_57 : decode cX0_copyFrom 57 = .ok (.aaload, 1) := by decide +kernel
theorem dX0_copyFrom_58 : decode cX0_copyFrom 58 = .ok (.aload_n 1, 1) := by decide +kernel
theorem dX0_copyFrom_59 : decode cX0_copyFrom 59 = .ok (.getfield 34, 3) := by decide +kernel
theorem dX0_copyFrom_62 : decode cX0_copyFrom 62 = .ok (.iload_n 2, 1) := by decide +kernel
theorem dX0_copyFrom_63 : decode cX0_copyFrom 63 = .ok (.aaload, 1) := by decide +kernel
theorem dX0_copyFrom_64 : decode cX0_copyFrom 64 = .ok (.invokevirtual 45, 3) := by decide +kernel
theorem dX0_copyFrom_67 : decode cX0_copyFrom 67 = .ok (.iinc 2 1, 3) := by decide +kernel
theorem dX0_copyFrom_70 : decode cX0_copyFrom 70 = .ok (.goto (-24), 3) := by decide +kernel
theorem dX0_copyFrom_73 : decode cX0_copyFrom 73 = .ok (.aload_n 0, 1) := by decide +kernel
theorem dX0_copyFrom_74 : decode cX0_copyFrom 74 = .ok (.aload_n 1, 1) := by decide +kernel
theorem dX0_copyFrom_75 : decode cX0_copyFrom 75 = .ok (.getfield 49, 3) := by decide +kernel
theorem dX0_copyFrom_78 : decode cX0_copyFrom 78 = .ok (.putfield 49, 3) := by decide +kernel
theorem dX0_copyFrom_81 : decode cX0_copyFrom 81 = .ok (.aload_n 0, 1) := by decide +kernel
theorem dX0_copyFrom_82 : decode cX0_copyFrom 82 = .ok (.aload_n 1, 1) := by decide +kernel
theorem dX0_copyFrom_83 : decode cX0_copyFrom 83 = .ok (.getfield 53, 3) := by decide +kernel
theorem dX0_copyFrom_86 : decode cX0_copyFrom 86 = .ok (.putfield 53, 3) := by decide +kernel
theorem dX0_copyFrom_89 : decode cX0_copyFrom 89 = .ok (.aload_n 0, 1) := by decide +kernel
theorem dX0_copyFrom_90 : decode cX0_copyFrom 90 = .ok (.aload_n 1, 1) := by decide +kernel
theorem dX0_copyFrom_91 : decode cX0_copyFrom 91 = .ok (.getfield 56, 3) := by decide +kernel
theorem dX0_copyFrom_94 : decode cX0_copyFrom 94 = .ok (.putfield 56, 3) := by decide +kernel
theorem dX0_copyFrom_97 : decode cX0_copyFrom 97 = .ok (.return_, 1) := by decide +kernel
theorem dX0_find_0 : decode cX0_find 0 = .ok (.iload_n 1, 1) := by decide +kernel
theorem dX0_find_1 : decode cX0_find 1 = .ok (.ifCond .lt 26, 3) := by decide +kernel
theorem dX0_find_4 : decode cX0_find 4 = .ok (.iload_n 1, 1) := by decide +kernel
theorem dX0_find_5 : decode cX0_find 5 = .ok (.aload_n 0, 1) := by decide +kernel
theorem dX0_find_6 : decode cX0_find 6 = .ok (.getfield 49, 3) := by decide +kernel
theorem dX0_find_9 : decode cX0_find 9 = .ok (.if_icmp .ge 18, 3) := by decide +kernel
theorem dX0_find_12 : decode cX0_find 12 = .ok (.iload_n 1, 1) := by decide +kernel
theorem dX0_find_13 : decode cX0_find 13 = .ok (.bipush 8, 2) := by decide +kernel
theorem dX0_find_15 : decode cX0_find 15 = .ok (.if_icmp .ge 12, 3) := by decide +kernel
theorem dX0_find_18 : decode cX0_find 18 = .ok (.aload_n 0, 1) := by decide +kernel
theorem dX0_find_19 : decode cX0_find 19 = .ok (.getfield 34, 3) := by decide +kernel
theorem dX0_find_22 : decode cX0_find 22 = .ok (.iload_n 1, 1) := by decide +kernel
theorem dX0_find_23 : decode cX0_find 23 = .ok (.aaload, 1) := by decide +kernel
theorem dX0_find_24 : decode cX0_find 24 = .ok (.goto 4, 3) := by decide +kernel
theorem dX0_find_27 : decode cX0_find 27 = .ok (.aconst_null, 1) := by decide +kernel
theorem dX0_find_28 : decode cX0_find 28 = .ok (.areturn, 1) := by decide +kernel
theorem dX0_changeSetting_0 : decode cX0_changeSetting 0 = .ok (.iload_n 1, 1) := by decide +kernel
theorem dX0_changeSetting_1 : decode cX0_changeSetting 1 = .ok (.ifCond .lt 8, 3) := by decide +kernel
theorem dX0_changeSetting_4 : decode cX0_changeSetting 4 = .ok (.iload_n 1, 1) := by decide +kernel
theorem dX0_changeSetting_5 : decode cX0_changeSetting 5 = .ok (.iconst 5, 1) := by decide +kernel
theorem dX0_changeSetting_6 : decode cX0_changeSetting 6 = .ok (.if_icmp .lt 6, 3) := by decide +kernel
theorem dX0_changeSetting_9 : decode cX0_changeSetting 9 = .ok (.bipush (-2), 2) := by decide +kernel
theorem dX0_changeSetting_11 : decode cX0_changeSetting 11 = .ok (.ireturn, 1) := by decide +kernel
theorem dX0_changeSetting_12 : decode cX0_changeSetting 12 = .ok (.iload_n 2, 1) := by decide +kernel
theorem dX0_changeSetting_13 : decode cX0_changeSetting 13 = .ok (.getstatic 59, 3) := by decide +kernel
theorem dX0_changeSetting_16 : decode cX0_changeSetting 16 = .ok (.iload_n 1, 1) := by decide +kernel
theorem dX0_changeSetting_17 : decode cX0_changeSetting 17 = .ok (.iaload, 1) := by decide +kernel
theorem dX0_changeSetting_18 : decode cX0_changeSetting 18 = .ok (.if_icmp .lt 12, 3) := by decide +kernel
theorem dX0_changeSetting_21 : decode cX0_changeSetting 21 = .ok (.iload_n 2, 1) := by decide +kernel
theorem dX0_changeSetting_22 : decode cX0_changeSetting 22 = .ok (.getstatic 62, 3) := by decide +kernel
theorem dX0_changeSetting_25 : decode cX0_changeSetting 25 = .ok (.iload_n 1, 1) := by decide +kernel
theorem dX0_changeSetting_26 : decode cX0_changeSetting 26 = .ok (.iaload, 1) := by decide +kernel
theorem dX0_changeSetting_27 : decode cX0_changeSetting 27 = .ok (.if_icmp .le 6, 3) := by decide +kernel
theorem dX0_changeSetting_30 : decode cX0_changeSetting 30 = .ok (.bipush (-2), 2) := by decide +kernel
theorem dX0_changeSetting_32 : decode cX0_changeSetting 32 = .ok (.ireturn, 1) := by decide +kernel
theorem dX0_changeSetting_33 : decode cX0_changeSetting 33 = .ok (.aload_n 0, 1) := by decide +kernel
theorem dX0_changeSetting_34 : decode cX0_changeSetting 34 = .ok (.getfield 18, 3) := by decide +kernel
theorem dX0_changeSetting_37 : decode cX0_changeSetting 37 = .ok (.iload_n 1, 1) := by decide +kernel
theorem dX0_changeSetting_38 : decode cX0_changeSetting 38 = .ok (.iaload, 1) := by decide +kernel
theorem dX0_changeSetting_39 : decode cX0_changeSetting 39 = .ok (.istore_n 3, 1) := by decide +kernel
theorem dX0_changeSetting_40 : decode cX0_changeSetting 40 = .ok (.aload_n 0, 1) := by decide +kernel
theorem dX0_changeSetting_41 : decode cX0_changeSetting 41 = .ok (.getfield 18, 3) := by decide +kernel
theorem dX0_changeSetting_44 : decode cX0_changeSetting 44 = .ok (.iload_n 1, 1) := by decide +kernel
theorem dX0_changeSetting_45 : decode cX0_changeSetting 45 = .ok (.iload_n 2, 1) := by decide +kernel
theorem dX0_changeSetting_46 : decode cX0_changeSetting 46 = .ok (.iastore, 1) := by decide +kernel
theorem dX0_changeSetting_47 : decode cX0_changeSetting 47 = .ok (.iload_n 1, 1) := by decide +kernel
theorem dX0_changeSetting_48 : decode cX0_changeSetting 48 = .ok (.iconst 1, 1) := by decide +kernel
theorem dX0_changeSetting_49 : decode cX0_changeSetting 49 = .ok (.if_icmp .ne 8, 3) := by decide +kernel
theorem dX0_changeSetting_52 : decode cX0_changeSetting 52 = .ok (.aload_n 0, 1) := by decide +kernel
theorem dX0_changeSetting_53 : decode cX0_changeSetting 53 = .ok (.iload_n 2, 1) := by decide +kernel
theorem dX0_changeSetting_54 : decode cX0_changeSetting 54 = .ok (.invokevirtual 65, 3) := by decide +kernel
theorem dX0_changeSetting_57 : decode cX0_changeSetting 57 = .ok (.iload_n 3, 1) := by decide +kernel
theorem dX0_changeSetting_58 : decode cX0_changeSetting 58 = .ok (.ireturn, 1) := by decide +kernel
theorem dX0_loseChargeAbove_0 : decode cX0_loseChargeAbove 0 = .ok (.iconst 0, 1) := by decide +kernel
theorem dX0_loseChargeAbove_1 : decode cX0_loseChargeAbove 1 = .ok (.istore_n 2, 1) := by decide +kernel
theorem dX0_loseChargeAbove_2 : decode cX0_loseChargeAbove 2 = .ok (.iload_n 2, 1) := by decide +kernel
theorem dX0_loseChargeAbove_3 : decode cX0_loseChargeAbove 3 = .ok (.aload_n 0, 1) := by decide +kernel
theorem dX0_loseChargeAbove_4 : decode cX0_loseChargeAbove 4 = .ok (.getfield 49, 3) := by decide +kernel
theorem dX0_loseChargeAbove_7 : decode cX0_loseChargeAbove 7 = .ok (.if_icmp .ge 31, 3) := by decide +kernel
theorem dX0_loseChargeAbove_10 : decode cX0_loseChargeAbove 10 = .ok (.aload_n 0, 1) := by decide +kernel
theorem dX0_loseChargeAbove_11 : decode cX0_loseChargeAbove 11 = .ok (.getfield 34, 3) := by decide +kernel
theorem dX0_loseChargeAbove_14 : decode cX0_loseChargeAbove 14 = .ok (.iload_n 2, 1) := by decide +kernel
theorem dX0_loseChargeAbove_15 : decode cX0_loseChargeAbove 15 = .ok (.aaload, 1) := by decide +kernel
theorem dX0_loseChargeAbove_16 : decode cX0_loseChargeAbove 16 = .ok (.aload_n 0, 1) := by decide +kernel
theorem dX0_loseChargeAbove_17 : decode cX0_loseChargeAbove 17 = .ok (.getfield 34, 3) := by decide +kernel
theorem dX0_loseChargeAbove_20 : decode cX0_loseChargeAbove 20 = .ok (.iload_n 2, 1) := by decide +kernel
theorem dX0_loseChargeAbove_21 : decode cX0_loseChargeAbove 21 = .ok (.aaload, 1) := by decide +kernel
theorem dX0_loseChargeAbove_22 : decode cX0_loseChargeAbove 22 = .ok (.getfield 68, 3) := by decide +kernel
theorem dX0_loseChargeAbove_25 : decode cX0_loseChargeAbove 25 = .ok (.iload_n 1, 1) := by decide +kernel
theorem dX0_loseChargeAbove_26 : decode cX0_loseChargeAbove 26 = .ok (.invokestatic 71, 3) := by decide +kernel
theorem dX0_loseChargeAbove_29 : decode cX0_loseChargeAbove 29 = .ok (.putfield 68, 3) := by decide +kernel
theorem dX0_loseChargeAbove_32 : decode cX0_loseChargeAbove 32 = .ok (.iinc 2 1, 3) := by decide +kernel
theorem dX0_loseChargeAbove_35 : decode cX0_loseChargeAbove 35 = .ok (.goto (-33), 3) := by decide +kernel
theorem dX0_loseChargeAbove_38 : decode cX0_loseChargeAbove 38 = .ok (.return_, 1) := by decide +kernel
theorem dX0_addStation_0 : decode cX0_addStation 0 = .ok (.iload_n 1, 1) := by decide +kernel
theorem dX0_addStation_1 : decode cX0_addStation 1 = .ok (.iconst 1, 1) := by decide +kernel
theorem dX0_addStation_2 : decode cX0_addStation 2 = .ok (.if_icmp .lt 9, 3) := by decide +kernel
theorem dX0_addStation_5 : decode cX0_addStation 5 = .ok (.iload_n 1, 1) := by decide +kernel
theorem dX0_addStation_6 : decode cX0_addStation 6 = .ok (.bipush 63, 2) := by decide +kernel
theorem dX0_addStation_8 : decode cX0_addStation 8 = .ok (.if_icmp .le 6, 3) := by decide +kernel
theorem dX0_addStation_11 : decode cX0_addStation 11 = .ok (.bipush (-2), 2) := by decide +kernel
theorem dX0_addStation_13 : decode cX0_addStation 13 = .ok (.ireturn, 1) := by decide +kernel
theorem dX0_addStation_14 : decode cX0_addStation 14 = .ok (.aload_n 0, 1) := by decide +kernel
theorem dX0_addStation_15 : decode cX0_addStation 15 = .ok (.getfield 49, 3) := by decide +kernel
theorem dX0_addStation_18 : decode cX0_addStation 18 = .ok (.bipush 8, 2) := by decide +kernel
theorem dX0_addStation_20 : decode cX0_addStation 20 = .ok (.if_icmp .lt 6, 3) := by decide +kernel
theorem dX0_addStation_23 : decode cX0_addStation 23 = .ok (.bipush (-4), 2) := by decide +kernel
theorem dX0_addStation_25 : decode cX0_addStation 25 = .ok (.ireturn, 1) := by decide +kernel
theorem dX0_addStation_26 : decode cX0_addStation 26 = .ok (.aload_n 0, 1) := by decide +kernel
theorem dX0_addStation_27 : decode cX0_addStation 27 = .ok (.getfield 34, 3) := by decide +kernel
theorem dX0_addStation_30 : decode cX0_addStation 30 = .ok (.aload_n 0, 1) := by decide +kernel
theorem dX0_addStation_31 : decode cX0_addStation 31 = .ok (.getfield 49, 3) := by decide +kernel
theorem dX0_addStation_34 : decode cX0_addStation 34 = .ok (.aaload, 1) := by decide +kernel
theorem dX0_addStation_35 : decode cX0_addStation 35 = .ok (.iload_n 1, 1) := by decide +kernel
theorem dX0_addStation_36 : decode cX0_addStation 36 = .ok (.putfield 77, 3) := by decide +kernel
theorem dX0_addStation_39 : decode cX0_addStation 39 = .ok (.aload_n 0, 1) := by decide +kernel
theorem dX0_addStation_40 : decode cX0_addStation 40 = .ok (.getfield 34, 3) := by decide +kernel
theorem dX0_addStation_43 : decode cX0_addStation 43 = .ok (.aload_n 0, 1) := by decide +kernel
theorem dX0_addStation_44 : decode cX0_addStation 44 = .ok (.getfield 49, 3) := by decide +kernel
theorem dX0_addStation_47 : decode cX0_addStation 47 = .ok (.aaload, 1) := by decide +kernel
theorem dX0_addStation_48 : decode cX0_addStation 48 = .ok (.aload_n 0, 1) := by decide +kernel
theorem dX0_addStation_49 : decode cX0_addStation 49 = .ok (.getfield 18, 3) := by decide +kernel
theorem dX0_addStation_52 : decode cX0_addStation 52 = .ok (.iconst 1, 1) := by decide +kernel
theorem dX0_addStation_53 : decode cX0_addStation 53 = .ok (.iaload, 1) := by decide +kernel
theorem dX0_addStation_54 : decode cX0_addStation 54 = .ok (.putfield 68, 3) := by decide +kernel
theorem dX0_addStation_57 : decode cX0_addStation 57 = .ok (.aload_n 0, 1) := by decide +kernel
theorem dX0_addStation_58 : decode cX0_addStation 58 = .ok (.dup, 1) := by decide +kernel
theorem dX0_addStation_59 : decode cX0_addStation 59 = .ok (.getfield 49, 3) := by decide +kernel
theorem dX0_addStation_62 : decode cX0_addStation 62 = .ok (.iconst 1, 1) := by decide +kernel
theorem dX0_addStation_63 : decode cX0_addStation 63 = .ok (.iadd, 1) := by decide +kernel
theorem dX0_addStation_64 : decode cX0_addStation 64 = .ok (.putfield 49, 3) := by decide +kernel
theorem dX0_addStation_67 : decode cX0_addStation 67 = .ok (.aload_n 0, 1) := by decide +kernel
theorem dX0_addStation_68 : decode cX0_addStation 68 = .ok (.getfield 49, 3) := by decide +kernel
theorem dX0_addStation_71 : decode cX0_addStation 71 = .ok (.iconst 1, 1) := by decide +kernel
theorem dX0_addStation_72 : decode cX0_addStation 72 = .ok (.isub, 1) := by decide +kernel
theorem dX0_addStation_73 : decode cX0_addStation 73 = .ok (.ireturn, 1) := by decide +kernel
theorem dX0_addWord_0 : decode cX0_addWord 0 = .ok (.aload_n 0, 1) := by decide +kernel
theorem dX0_addWord_1 : decode cX0_addWord 1 = .ok (.iload_n 1, 1) := by decide +kernel
theorem dX0_addWord_2 : decode cX0_addWord 2 = .ok (.invokevirtual 80, 3) := by decide +kernel
theorem dX0_addWord_5 : decode cX0_addWord 5 = .ok (.astore 4, 2) := by decide +kernel
theorem dX0_addWord_7 : decode cX0_addWord 7 = .ok (.aload 4, 2) := by decide +kernel
theorem dX0_addWord_9 : decode cX0_addWord 9 = .ok (.ifnull 10, 3) := by decide +kernel
theorem dX0_addWord_12 : decode cX0_addWord 12 = .ok (.iload_n 2, 1) := by decide +kernel
theorem dX0_addWord_13 : decode cX0_addWord 13 = .ok (.invokestatic 84, 3) := by decide +kernel
theorem dX0_addWord_16 : decode cX0_addWord 16 = .ok (.ifCond .ne 5, 3) := by decide +kernel
theorem dX0_addWord_19 : decode cX0_addWord 19 = .ok (.iconst (-1), 1) := by decide +kernel
theorem dX0_addWord_20 : decode cX0_addWord 20 = .ok (.ireturn, 1) := by decide +kernel
theorem dX0_addWord_21 : decode cX0_addWord 21 = .ok (.iload_n 3, 1) := by decide +kernel
theorem dX0_addWord_22 : decode cX0_addWord 22 = .ok (.ifCond .lt 10, 3) := by decide +kernel
theorem dX0_addWord_25 : decode cX0_addWord 25 = .ok (.iload_n 3, 1) := by decide +kernel
theorem dX0_addWord_26 : decode cX0_addWord 26 = .ok (.sipush 255, 3) := by decide +kernel
theorem dX0_addWord_29 : decode cX0_addWord 29 = .ok (.if_icmp .le 6, 3) := by decide +kernel
theorem dX0_addWord_32 : decode cX0_addWord 32 = .ok (.bipush (-2), 2) := by decide +kernel
theorem dX0_addWord_34 : decode cX0_addWord 34 = .ok (.ireturn, 1) := by decide +kernel
theorem dX0_addWord_35 : decode cX0_addWord 35 = .ok (.aload 4, 2) := by decide +kernel
theorem dX0_addWord_37 : decode cX0_addWord 37 = .ok (.iload_n 2, 1) := by decide +kernel
theorem dX0_addWord_38 : decode cX0_addWord 38 = .ok (.invokevirtual 88, 3) := by decide +kernel
theorem dX0_addWord_41 : decode cX0_addWord 41 = .ok (.ifCond .ne 6, 3) := by decide +kernel
theorem dX0_addWord_44 : decode cX0_addWord 44 = .ok (.bipush (-5), 2) := by decide +kernel
theorem dX0_addWord_46 : decode cX0_addWord 46 = .ok (.ireturn, 1) := by decide +kernel
theorem dX0_addWord_47 : decode cX0_addWord 47 = .ok (.aload 4, 2) := by decide +kernel
theorem dX0_addWord_49 : decode cX0_addWord 49 = .ok (.getfield 91, 3) := by decide +kernel
theorem dX0_addWord_52 : decode cX0_addWord 52 = .ok (.getfield 95, 3) := by decide +kernel
theorem dX0_addWord_55 : decode cX0_addWord 55 = .ok (.iconst 4, 1) := by decide +kernel
theorem dX0_addWord_56 : decode cX0_addWord 56 = .ok (.if_icmp .lt 6, 3) := by decide +kernel
theorem dX0_addWord_59 : decode cX0_addWord 59 = .ok (.bipush (-4), 2) := by decide +kernel
theorem dX0_addWord_61 : decode cX0_addWord 61 = .ok (.ireturn, 1) := by decide +kernel
theorem dX0_addWord_62 : decode cX0_addWord 62 = .ok (.aload 4, 2) := by decide +kernel
theorem dX0_addWord_64 : decode cX0_addWord 64 = .ok (.getfield 91, 3) := by decide +kernel
theorem dX0_addWord_67 : decode cX0_addWord 67 = .ok (.iload_n 3, 1) := by decide +kernel
theorem dX0_addWord_68 : decode cX0_addWord 68 = .ok (.iload_n 2, 1) := by decide +kernel
theorem dX0_addWord_69 : decode cX0_addWord 69 = .ok (.invokevirtual 100, 3) := by decide +kernel
theorem dX0_addWord_72 : decode cX0_addWord 72 = .ok (.aload 4, 2) := by decide +kernel
theorem dX0_addWord_74 : decode cX0_addWord 74 = .ok (.getfield 91, 3) := by decide +kernel
theorem dX0_addWord_77 : decode cX0_addWord 77 = .ok (.getfield 95, 3) := by decide +kernel
theorem dX0_addWord_80 : decode cX0_addWord 80 = .ok (.ireturn, 1) := by decide +kernel
theorem dX0_forgetWord_0 : decode cX0_forgetWord 0 = .ok (.aload_n 0, 1) := by decide +kernel
theorem dX0_forgetWord_1 : decode cX0_forgetWord 1 = .ok (.iload_n 1, 1) := by decide +kernel
theorem dX0_forgetWord_2 : decode cX0_forgetWord 2 = .ok (.invokevirtual 80, 3) := by decide +kernel
theorem dX0_forgetWord_5 : decode cX0_forgetWord 5 = .ok (.astore_n 2, 1) := by decide +kernel
theorem dX0_forgetWord_6 : decode cX0_forgetWord 6 = .ok (.aload_n 2, 1) := by decide +kernel
theorem dX0_forgetWord_7 : decode cX0_forgetWord 7 = .ok (.ifnonnull 5, 3) := by decide +kernel
theorem dX0_forgetWord_10 : decode cX0_forgetWord 10 = .ok (.iconst (-1), 1) := by decide +kernel
theorem dX0_forgetWord_11 : decode cX0_forgetWord 11 = .ok (.ireturn, 1) := by decide +kernel
theorem dX0_forgetWord_12 : decode cX0_forgetWord 12 = .ok (.aload_n 2, 1) := by decide +kernel
theorem dX0_forgetWord_13 : decode cX0_forgetWord 13 = .ok (.getfield 91, 3) := by decide +kernel
theorem dX0_forgetWord_16 : decode cX0_forgetWord 16 = .ok (.getfield 95, 3) := by decide +kernel
theorem dX0_forgetWord_19 : decode cX0_forgetWord 19 = .ok (.ifCond .ne 6, 3) := by decide +kernel
theorem dX0_forgetWord_22 : decode cX0_forgetWord 22 = .ok (.bipush (-5), 2) := by decide +kernel
theorem dX0_forgetWord_24 : decode cX0_forgetWord 24 = .ok (.ireturn, 1) := by decide +kernel
theorem dX0_forgetWord_25 : decode cX0_forgetWord 25 = .ok (.aload_n 2, 1) := by decide +kernel
theorem dX0_forgetWord_26 : decode cX0_forgetWord 26 = .ok (.getfield 91, 3) := by decide +kernel
theorem dX0_forgetWord_29 : decode cX0_forgetWord 29 = .ok (.iconst 0, 1) := by decide +kernel
theorem dX0_forgetWord_30 : decode cX0_forgetWord 30 = .ok (.invokevirtual 104, 3) := by decide +kernel
theorem dX0_forgetWord_33 : decode cX0_forgetWord 33 = .ok (.istore_n 3, 1) := by decide +kernel
theorem dX0_forgetWord_34 : decode cX0_forgetWord 34 = .ok (.aload_n 2, 1) := by decide +kernel
theorem dX0_forgetWord_35 : decode cX0_forgetWord 35 = .ok (.getfield 91, 3) := by decide +kernel
theorem dX0_forgetWord_38 : decode cX0_forgetWord 38 = .ok (.invokevirtual 108, 3) := by decide +kernel
theorem dX0_forgetWord_41 : decode cX0_forgetWord 41 = .ok (.aload_n 2, 1) := by decide +kernel
theorem dX0_forgetWord_42 : decode cX0_forgetWord 42 = .ok (.invokevirtual 111, 3) := by decide +kernel
theorem dX0_forgetWord_45 : decode cX0_forgetWord 45 = .ok (.iload_n 3, 1) := by decide +kernel
theorem dX0_forgetWord_46 : decode cX0_forgetWord 46 = .ok (.ireturn, 1) := by decide +kernel
theorem dX0_toggleFault_0 : decode cX0_toggleFault 0 = .ok (.iload_n 1, 1) := by decide +kernel
theorem dX0_toggleFault_1 : decode cX0_toggleFault 1 = .ok (.invokestatic 84, 3) := by decide +kernel
theorem dX0_toggleFault_4 : decode cX0_toggleFault 4 = .ok (.ifCond .ne 5, 3) := by decide +kernel
theorem dX0_toggleFault_7 : decode cX0_toggleFault 7 = .ok (.iconst (-1), 1) := by decide +kernel
theorem dX0_toggleFault_8 : decode cX0_toggleFault 8 = .ok (.ireturn, 1) := by decide +kernel
theorem dX0_toggleFault_9 : decode cX0_toggleFault 9 = .ok (.aload_n 0, 1) := by decide +kernel
theorem dX0_toggleFault_10 : decode cX0_toggleFault 10 = .ok (.dup, 1) := by decide +kernel
theorem dX0_toggleFault_11 : decode cX0_toggleFault 11 = .ok (.getfield 53, 3) := by decide +kernel
theorem dX0_toggleFault_14 : decode cX0_toggleFault 14 = .ok (.iconst 1, 1) := by decide +kernel
theorem dX0_toggleFault_15 : decode cX0_toggleFault 15 = .ok (.iload_n 1, 1) := by decide +kernel
theorem dX0_toggleFault_16 : decode cX0_toggleFault 16 = .ok (.ishl, 1) := by decide +kernel
theorem dX0_toggleFault_17 : decode cX0_toggleFault 17 = .ok (.ixor, 1) := by decide +kernel
theorem dX0_toggleFault_18 : decode cX0_toggleFault 18 = .ok (.putfield 53, 3) := by decide +kernel
theorem dX0_toggleFault_21 : decode cX0_toggleFault 21 = .ok (.aload_n 0, 1) := by decide +kernel
theorem dX0_toggleFault_22 : decode cX0_toggleFault 22 = .ok (.iload_n 1, 1) := by decide +kernel
theorem dX0_toggleFault_23 : decode cX0_toggleFault 23 = .ok (.invokevirtual 114, 3) := by decide +kernel
theorem dX0_toggleFault_26 : decode cX0_toggleFault 26 = .ok (.ifCond .eq 7, 3) := by decide +kernel
theorem dX0_toggleFault_29 : decode cX0_toggleFault 29 = .ok (.iconst 1, 1) := by decide +kernel
theorem dX0_toggleFault_30 : decode cX0_toggleFault 30 = .ok (.goto 4, 3) := by decide +kernel
theorem dX0_toggleFault_33 : decode cX0_toggleFault 33 = .ok (.iconst 0, 1) := by decide +kernel
theorem dX0_toggleFault_34 : decode cX0_toggleFault 34 = .ok (.ireturn, 1) := by decide +kernel
theorem dX0_toggleDoze_0 : decode cX0_toggleDoze 0 = .ok (.aload_n 0, 1) := by decide +kernel
theorem dX0_toggleDoze_1 : decode cX0_toggleDoze 1 = .ok (.iload_n 1, 1) := by decide +kernel
theorem dX0_toggleDoze_2 : decode cX0_toggleDoze 2 = .ok (.invokevirtual 80, 3) := by decide +kernel
theorem dX0_toggleDoze_5 : decode cX0_toggleDoze 5 = .ok (.astore_n 2, 1) := by decide +kernel
theorem dX0_toggleDoze_6 : decode cX0_toggleDoze 6 = .ok (.aload_n 2, 1) := by decide +kernel
theorem dX0_toggleDoze_7 : decode cX0_toggleDoze 7 = .ok (.ifnonnull 5, 3) := by decide +kernel
theorem dX0_toggleDoze_10 : decode cX0_toggleDoze 10 = .ok (.iconst (-1), 1) := by decide +kernel
theorem dX0_toggleDoze_11 : decode cX0_toggleDoze 11 = .ok (.ireturn, 1) := by decide +kernel
theorem dX0_toggleDoze_12 : decode cX0_toggleDoze 12 = .ok (.aload_n 2, 1) := by decide +kernel
theorem dX0_toggleDoze_13 : decode cX0_toggleDoze 13 = .ok (.aload_n 2, 1) := by decide +kernel
theorem dX0_toggleDoze_14 : decode cX0_toggleDoze 14 = .ok (.getfield 117, 3) := by decide +kernel
theorem dX0_toggleDoze_17 : decode cX0_toggleDoze 17 = .ok (.ifCond .ne 7, 3) := by decide +kernel
theorem dX0_toggleDoze_20 : decode cX0_toggleDoze 20 = .ok (.iconst 1, 1) := by decide +kernel
theorem dX0_toggleDoze_21 : decode cX0_toggleDoze 21 = .ok (.goto 4, 3) := by decide +kernel
theorem dX0_toggleDoze_24 : decode cX0_toggleDoze 24 = .ok (.iconst 0, 1) := by decide +kernel
theorem dX0_toggleDoze_25 : decode cX0_toggleDoze 25 = .ok (.putfield 117, 3) := by decide +kernel
theorem dX0_toggleDoze_28 : decode cX0_toggleDoze 28 = .ok (.aload_n 2, 1) := by decide +kernel
theorem dX0_toggleDoze_29 : decode cX0_toggleDoze 29 = .ok (.getfield 117, 3) := by decide +kernel
theorem dX0_toggleDoze_32 : decode cX0_toggleDoze 32 = .ok (.ifCond .eq 15, 3) := by decide +kernel
theorem dX0_toggleDoze_35 : decode cX0_toggleDoze 35 = .ok (.aload_n 2, 1) := by decide +kernel
theorem dX0_toggleDoze_36 : decode cX0_toggleDoze 36 = .ok (.invokevirtual 121, 3) := by decide +kernel
theorem dX0_toggleDoze_39 : decode cX0_toggleDoze 39 = .ok (.ifCond .eq 8, 3) := by decide +kernel
theorem dX0_toggleDoze_42 : decode cX0_toggleDoze 42 = .ok (.aload_n 0, 1) := by decide +kernel
theorem dX0_toggleDoze_43 : decode cX0_toggleDoze 43 = .ok (.aload_n 2, 1) := by decide +kernel
theorem dX0_toggleDoze_44 : decode cX0_toggleDoze 44 = .ok (.invokevirtual 125, 3) := by decide +kernel
theorem dX0_toggleDoze_47 : decode cX0_toggleDoze 47 = .ok (.aload_n 2, 1) := by decide +kernel
theorem dX0_toggleDoze_48 : decode cX0_toggleDoze 48 = .ok (.getfield 117, 3) := by decide +kernel
theorem dX0_toggleDoze_51 : decode cX0_toggleDoze 51 = .ok (.ifCond .eq 7, 3) := by decide +kernel
theorem dX0_toggleDoze_54 : decode cX0_toggleDoze 54 = .ok (.iconst 1, 1) := by decide +kernel
theorem dX0_toggleDoze_55 : decode cX0_toggleDoze 55 = .ok (.goto 4, 3) := by decide +kernel
theorem dX0_toggleDoze_58 : decode cX0_toggleDoze 58 = .ok (.iconst 0, 1) := by decide +kernel
theorem dX0_toggleDoze_59 : decode cX0_toggleDoze 59 = .ok (.ireturn, 1) := by decide +kernel
theorem dX0_passBeats_0 : decode cX0_passBeats 0 = .ok (.iload_n 1, 1) := by decide +kernel
theorem dX0_passBeats_1 : decode cX0_passBeats 1 = .ok (.iconst 1, 1) := by decide +kernel
theorem dX0_passBeats_2 : decode cX0_passBeats 2 = .ok (.if_icmp .lt 10, 3) := by decide +kernel
theorem dX0_passBeats_5 : decode cX0_passBeats 5 = .ok (.iload_n 1, 1) := by decide +kernel
theorem dX0_passBeats_6 : decode cX0_passBeats 6 = .ok (.sipush 999, 3) := by decide +kernel
theorem dX0_passBeats_9 : decode cX0_passBeats 9 = .ok (.if_icmp .le 6, 3) := by decide +kernel
theorem dX0_passBeats_12 : decode cX0_passBeats 12 = .ok (.bipush (-2), 2) := by decide +kernel
theorem dX0_passBeats_14 : decode cX0_passBeats 14 = .ok (.ireturn, 1) := by decide +kernel
theorem dX0_passBeats_15 : decode cX0_passBeats 15 = .ok (.aload_n 0, 1) := by decide +kernel
theorem dX0_passBeats_16 : decode cX0_passBeats 16 = .ok (.getfield 56, 3) := by decide +kernel
theorem dX0_passBeats_19 : decode cX0_passBeats 19 = .ok (.iload_n 1, 1) := by decide +kernel
theorem dX0_passBeats_20 : decode cX0_passBeats 20 = .ok (.iadd, 1) := by decide +kernel
theorem dX0_passBeats_21 : decode cX0_passBeats 21 = .ok (.ldc 128, 2) := by decide +kernel
theorem dX0_passBeats_23 : decode cX0_passBeats 23 = .ok (.if_icmp .le 6, 3) := by decide +kernel
theorem dX0_passBeats_26 : decode cX0_passBeats 26 = .ok (.bipush (-5), 2) := by decide +kernel
theorem dX0_passBeats_28 : decode cX0_passBeats 28 = .ok (.ireturn, 1) := by decide +kernel
theorem dX0_passBeats_29 : decode cX0_passBeats 29 = .ok (.iconst 0, 1) := by decide +kernel
theorem dX0_passBeats_30 : decode cX0_passBeats 30 = .ok (.istore_n 2, 1) := by decide +kernel
theorem dX0_passBeats_31 : decode cX0_passBeats 31 = .ok (.iconst 0, 1) := by decide +kernel
theorem dX0_passBeats_32 : decode cX0_passBeats 32 = .ok (.istore_n 3, 1) := by decide +kernel
theorem dX0_passBeats_33 : decode cX0_passBeats 33 = .ok (.iload_n 3, 1) := by decide +kernel
theorem dX0_passBeats_34 : decode cX0_passBeats 34 = .ok (.iload_n 1, 1) := by decide +kernel
theorem dX0_passBeats_35 : decode cX0_passBeats 35 = .ok (.if_icmp .ge 16, 3) := by decide +kernel
theorem dX0_passBeats_38 : decode cX0_passBeats 38 = .ok (.iload_n 2, 1) := by decide +kernel
theorem dX0_passBeats_39 : decode cX0_passBeats 39 = .ok (.aload_n 0, 1) := by decide +kernel
theorem dX0_passBeats_40 : decode cX0_passBeats 40 = .ok (.invokevirtual 129, 3) := by decide +kernel
theorem dX0_passBeats_43 : decode cX0_passBeats 43 = .ok (.iadd, 1) := by decide +kernel
theorem dX0_passBeats_44 : decode cX0_passBeats 44 = .ok (.istore_n 2, 1) := by decide +kernel
theorem dX0_passBeats_45 : decode cX0_passBeats 45 = .ok (.iinc 3 1, 3) := by decide +kernel
theorem dX0_passBeats_48 : decode cX0_passBeats 48 = .ok (.goto (-15), 3) := by decide +kernel
theorem dX0_passBeats_51 : decode cX0_passBeats 51 = .ok (.iload_n 2, 1) := by decide +kernel
theorem dX0_passBeats_52 : decode cX0_passBeats 52 = .ok (.ireturn, 1) := by decide +kernel
theorem dX0_passBeat_0 : decode cX0_passBeat 0 = .ok (.aload_n 0, 1) := by decide +kernel
theorem dX0_passBeat_1 : decode cX0_passBeat 1 = .ok (.invokevirtual 133, 3) := by decide +kernel
theorem dX0_passBeat_4 : decode cX0_passBeat 4 = .ok (.istore_n 1, 1) := by decide +kernel
theorem dX0_passBeat_5 : decode cX0_passBeat 5 = .ok (.aload_n 0, 1) := by decide +kernel
theorem dX0_passBeat_6 : decode cX0_passBeat 6 = .ok (.iload_n 1, 1) := by decide +kernel
theorem dX0_passBeat_7 : decode cX0_passBeat 7 = .ok (.invokevirtual 136, 3) := by decide +kernel
theorem dX0_passBeat_10 : decode cX0_passBeat 10 = .ok (.bipush 63, 2) := by decide +kernel
theorem dX0_passBeat_12 : decode cX0_passBeat 12 = .ok (.aload_n 0, 1) := by decide +kernel
theorem dX0_passBeat_13 : decode cX0_passBeat 13 = .ok (.getfield 53, 3) := by decide +kernel
theorem dX0_passBeat_16 : decode cX0_passBeat 16 = .ok (.aload_n 0, 1) := by decide +kernel
theorem dX0_passBeat_17 : decode cX0_passBeat 17 = .ok (.invokevirtual 139, 3) := by decide +kernel
theorem dX0_passBeat_20 : decode cX0_passBeat 20 = .ok (.ior, 1) := by decide +kernel
theorem dX0_passBeat_21 : decode cX0_passBeat 21 = .ok (.iconst (-1), 1) := by decide +kernel
theorem dX0_passBeat_22 : decode cX0_passBeat 22 = .ok (.ixor, 1) := by decide +kernel
theorem dX0_passBeat_23 : decode cX0_passBeat 23 = .ok (.iand, 1) := by decide +kernel
theorem dX0_passBeat_24 : decode cX0_passBeat 24 = .ok (.istore_n 2, 1) := by decide +kernel
theorem dX0_passBeat_25 : decode cX0_passBeat 25 = .ok (.aload_n 0, 1) := by decide +kernel
theorem dX0_passBeat_26 : decode cX0_passBeat 26 = .ok (.iload_n 2, 1) := by decide +kernel
theorem dX0_passBeat_27 : decode cX0_passBeat 27 = .ok (.iload_n 1, 1) := by decide +kernel
theorem dX0_passBeat_28 : decode cX0_passBeat 28 = .ok (.invokevirtual 142, 3) := by decide +kernel
theorem dX0_passBeat_31 : decode cX0_passBeat 31 = .ok (.istore_n 3, 1) := by decide +kernel
theorem dX0_passBeat_32 : decode cX0_passBeat 32 = .ok (.aload_n 0, 1) := by decide +kernel
theorem dX0_passBeat_33 : decode cX0_passBeat 33 = .ok (.iload_n 2, 1) := by decide +kernel
theorem dX0_passBeat_34 : decode cX0_passBeat 34 = .ok (.invokevirtual 145, 3) := by decide +kernel
theorem dX0_passBeat_37 : decode cX0_passBeat 37 = .ok (.aload_n 0, 1) := by decide +kernel
theorem dX0_passBeat_38 : decode cX0_passBeat 38 = .ok (.iload_n 2, 1) := by decide +kernel
theorem dX0_passBeat_39 : decode cX0_passBeat 39 = .ok (.invokevirtual 148, 3) := by decide +kernel
theorem dX0_passBeat_42 : decode cX0_passBeat 42 = .ok (.aload_n 0, 1) := by decide +kernel
theorem dX0_passBeat_43 : decode cX0_passBeat 43 = .ok (.dup, 1) := by decide +kernel
theorem dX0_passBeat_44 : decode cX0_passBeat 44 = .ok (.getfield 56, 3) := by decide +kernel
theorem dX0_passBeat_47 : decode cX0_passBeat 47 = .ok (.iconst 1, 1) := by decide +kernel
theorem dX0_passBeat_48 : decode cX0_passBeat 48 = .ok (.iadd, 1) := by decide +kernel
theorem dX0_passBeat_49 : decode cX0_passBeat 49 = .ok (.putfield 56, 3) := by decide +kernel
theorem dX0_passBeat_52 : decode cX0_passBeat 52 = .ok (.iload_n 3, 1) := by decide +kernel
theorem dX0_passBeat_53 : decode cX0_passBeat 53 = .ok (.ireturn, 1) := by decide +kernel
theorem dX0_beginWords_0 : decode cX0_beginWords 0 = .ok (.iconst 0, 1) := by decide +kernel
theorem dX0_beginWords_1 : decode cX0_beginWords 1 = .ok (.istore_n 2, 1) := by decide +kernel
theorem dX0_beginWords_2 : decode cX0_beginWords 2 = .ok (.iload_n 2, 1) := by decide +kernel
theorem dX0_beginWords_3 : decode cX0_beginWords 3 = .ok (.aload_n 0, 1) := by decide +kernel
theorem dX0_beginWords_4 : decode cX0_beginWords 4 = .ok (.getfield 49, 3) := by decide +kernel
theorem dX0_beginWords_7 : decode cX0_beginWords 7 = .ok (.if_icmp .ge 66, 3) := by decide +kernel
theorem dX0_beginWords_10 : decode cX0_beginWords 10 = .ok (.aload_n 0, 1) := by decide +kernel
theorem dX0_beginWords_11 : decode cX0_beginWords 11 = .ok (.getfield 34, 3) := by decide +kernel
theorem dX0_beginWords_14 : decode cX0_beginWords 14 = .ok (.iload_n 2, 1) := by decide +kernel
theorem dX0_beginWords_15 : decode cX0_beginWords 15 = .ok (.aaload, 1) := by decide +kernel
theorem dX0_beginWords_16 : decode cX0_beginWords 16 = .ok (.astore_n 3, 1) := by decide +kernel
theorem dX0_beginWords_17 : decode cX0_beginWords 17 = .ok (.aload_n 3, 1) := by decide +kernel
theorem dX0_beginWords_18 : decode cX0_beginWords 18 = .ok (.invokevirtual 151, 3) := by decide +kernel
theorem dX0_beginWords_21 : decode cX0_beginWords 21 = .ok (.ifCond .eq 46, 3) := by decide +kernel
theorem dX0_beginWords_24 : decode cX0_beginWords 24 = .ok (.aload_n 3, 1) := by decide +kernel
theorem dX0_beginWords_25 : decode cX0_beginWords 25 = .ok (.invokevirtual 121, 3) := by decide +kernel
theorem dX0_beginWords_28 : decode cX0_beginWords 28 = .ok (.ifCond .eq 6, 3) := by decide +kernel
theorem dX0_beginWords_31 : decode cX0_beginWords 31 = .ok (.goto 36, 3) := by decide +kernel
theorem dX0_beginWords_34 : decode cX0_beginWords 34 = .ok (.aload_n 3, 1) := by decide +kernel
theorem dX0_beginWords_35 : decode cX0_beginWords 35 = .ok (.getfield 91, 3) := by decide +kernel
theorem dX0_beginWords_38 : decode cX0_beginWords 38 = .ok (.iconst 0, 1) := by decide +kernel
theorem dX0_beginWords_39 : decode cX0_beginWords 39 = .ok (.invokevirtual 154, 3) := by decide +kernel
theorem dX0_beginWords_42 : decode cX0_beginWords 42 = .ok (.istore 4, 2) := by decide +kernel
theorem dX0_beginWords_44 : decode cX0_beginWords 44 = .ok (.aload_n 0, 1) := by decide +kernel
theorem dX0_beginWords_45 : decode cX0_beginWords 45 = .ok (.iload 4, 2) := by decide +kernel
theorem dX0_beginWords_47 : decode cX0_beginWords 47 = .ok (.invokevirtual 157, 3) := by decide +kernel
theorem dX0_beginWords_50 : decode cX0_beginWords 50 = .ok (.ifCond .eq 17, 3) := by decide +kernel
theorem dX0_beginWords_53 : decode cX0_beginWords 53 = .ok (.aload_n 3, 1) := by decide +kernel
theorem dX0_beginWords_54 : decode cX0_beginWords 54 = .ok (.iload 4, 2) := by decide +kernel
theorem dX0_beginWords_56 : decode cX0_beginWords 56 = .ok (.iload_n 1, 1) := by decide +kernel
theorem dX0_beginWords_57 : decode cX0_beginWords 57 = .ok (.aload_n 0, 1) := by decide +kernel
theorem dX0_beginWords_58 : decode cX0_beginWords 58 = .ok (.iload 4, 2) := by decide +kernel
theorem dX0_beginWords_60 : decode cX0_beginWords 60 = .ok (.invokevirtual 160, 3) := by decide +kernel
theorem dX0_beginWords_63 : decode cX0_beginWords 63 = .ok (.iand, 1) := by decide +kernel
theorem dX0_beginWords_64 : decode cX0_beginWords 64 = .ok (.invokevirtual 163, 3) := by decide +kernel
theorem dX0_beginWords_67 : decode cX0_beginWords 67 = .ok (.iinc 2 1, 3) := by decide +kernel
theorem dX0_beginWords_70 : decode cX0_beginWords 70 = .ok (.goto (-68), 3) := by decide +kernel
theorem dX0_beginWords_73 : decode cX0_beginWords 73 = .ok (.return_, 1) := by decide +kernel
theorem dX0_pulledWires_0 : decode cX0_pulledWires 0 = .ok (.iconst 0, 1) := by decide +kernel
theorem dX0_pulledWires_1 : decode cX0_pulledWires 1 = .ok (.istore_n 1, 1) := by decide +kernel
theorem dX0_pulledWires_2 : decode cX0_pulledWires 2 = .ok (.iconst 0, 1) := by decide +kernel
theorem dX0_pulledWires_3 : decode cX0_pulledWires 3 = .ok (.istore_n 2, 1) := by decide +kernel
theorem dX0_pulledWires_4 : decode cX0_pulledWires 4 = .ok (.iload_n 2, 1) := by decide +kernel
theorem dX0_pulledWires_5 : decode cX0_pulledWires 5 = .ok (.aload_n 0, 1) := by decide +kernel
theorem dX0_pulledWires_6 : decode cX0_pulledWires 6 = .ok (.getfield 49, 3) := by decide +kernel
theorem dX0_pulledWires_9 : decode cX0_pulledWires 9 = .ok (.if_icmp .ge 45, 3) := by decide +kernel
theorem dX0_pulledWires_12 : decode cX0_pulledWires 12 = .ok (.aload_n 0, 1) := by decide +kernel
theorem dX0_pulledWires_13 : decode cX0_pulledWires 13 = .ok (.getfield 34, 3) := by decide +kernel
theorem dX0_pulledWires_16 : decode cX0_pulledWires 16 = .ok (.iload_n 2, 1) := by decide +kernel
theorem dX0_pulledWires_17 : decode cX0_pulledWires 17 = .ok (.aaload, 1) := by decide +kernel
theorem dX0_pulledWires_18 : decode cX0_pulledWires 18 = .ok (.invokevirtual 121, 3) := by decide +kernel
theorem dX0_pulledWires_21 : decode cX0_pulledWires 21 = .ok (.ifCond .eq 27, 3) := by decide +kernel
theorem dX0_pulledWires_24 : decode cX0_pulledWires 24 = .ok (.aload_n 0, 1) := by decide +kernel
theorem dX0_pulledWires_25 : decode cX0_pulledWires 25 = .ok (.getfield 34, 3) := by decide +kernel
theorem dX0_pulledWires_28 : decode cX0_pulledWires 28 = .ok (.iload_n 2, 1) := by decide +kernel
theorem dX0_pulledWires_29 : decode cX0_pulledWires 29 = .ok (.aaload, 1) := by decide +kernel
theorem dX0_pulledWires_30 : decode cX0_pulledWires 30 = .ok (.invokevirtual 166, 3) := by decide +kernel
theorem dX0_pulledWires_33 : decode cX0_pulledWires 33 = .ok (.ifCond .ne 15, 3) := by decide +kernel
theorem dX0_pulledWires_36 : decode cX0_pulledWires 36 = .ok (.iload_n 1, 1) := by decide +kernel
theorem dX0_pulledWires_37 : decode cX0_pulledWires 37 = .ok (.aload_n 0, 1) := by decide +kernel
theorem dX0_pulledWires_38 : decode cX0_pulledWires 38 = .ok (.getfield 34, 3) := by decide +kernel
theorem dX0_pulledWires_41 : decode cX0_pulledWires 41 = .ok (.iload_n 2, 1) := by decide +kernel
theorem dX0_pulledWires_42 : decode cX0_pulledWires 42 = .ok (.aaload, 1) := by decide +kernel
theorem dX0_pulledWires_43 : decode cX0_pulledWires 43 = .ok (.getfield 169, 3) := by decide +kernel
theorem dX0_pulledWires_46 : decode cX0_pulledWires 46 = .ok (.ior, 1) := by decide +kernel
theorem dX0_pulledWires_47 : decode cX0_pulledWires 47 = .ok (.istore_n 1, 1) := by decide +kernel
theorem dX0_pulledWires_48 : decode cX0_pulledWires 48 = .ok (.iinc 2 1, 3) := by decide +kernel
theorem dX0_pulledWires_51 : decode cX0_pulledWires 51 = .ok (.goto (-47), 3) := by decide +kernel
theorem dX0_pulledWires_54 : decode cX0_pulledWires 54 = .ok (.iload_n 1, 1) := by decide +kernel
theorem dX0_pulledWires_55 : decode cX0_pulledWires 55 = .ok (.ireturn, 1) := by decide +kernel
theorem dX0_goOnSpeaking_0 : decode cX0_goOnSpeaking 0 = .ok (.iconst 0, 1) := by decide +kernel
theorem dX0_goOnSpeaking_1 : decode cX0_goOnSpeaking 1 = .ok (.istore_n 3, 1) := by decide +kernel
theorem dX0_goOnSpeaking_2 : decode cX0_goOnSpeaking 2 = .ok (.iconst 0, 1) := by decide +kernel
theorem dX0_goOnSpeaking_3 : decode cX0_goOnSpeaking 3 = .ok (.istore 4, 2) := by decide +kernel
theorem dX0_goOnSpeaking_5 : decode cX0_goOnSpeaking 5 = .ok (.iload 4, 2) := by decide +kernel
theorem dX0_goOnSpeaking_7 : decode cX0_goOnSpeaking 7 = .ok (.aload_n 0, 1) := by decide +kernel
theorem dX0_goOnSpeaking_8 : decode cX0_goOnSpeaking 8 = .ok (.getfield 49, 3) := by decide +kernel
theorem dX0_goOnSpeaking_11 : decode cX0_goOnSpeaking 11 = .ok (.if_icmp .ge 110, 3) := by decide +kernel
theorem dX0_goOnSpeaking_14 : decode cX0_goOnSpeaking 14 = .ok (.aload_n 0, 1) := by decide +kernel
theorem dX0_goOnSpeaking_15 : decode cX0_goOnSpeaking 15 = .ok (.getfield 34, 3) := by decide +kernel
theorem dX0_goOnSpeaking_18 : decode cX0_goOnSpeaking 18 = .ok (.iload 4, 2) := by decide +kernel
theorem dX0_goOnSpeaking_20 : decode cX0_goOnSpeaking 20 = .ok (.aaload, 1) := by decide +kernel
theorem dX0_goOnSpeaking_21 : decode cX0_goOnSpeaking 21 = .ok (.astore 5, 2) := by decide +kernel
theorem dX0_goOnSpeaking_23 : decode cX0_goOnSpeaking 23 = .ok (.aload 5, 2) := by decide +kernel
theorem dX0_goOnSpeaking_25 : decode cX0_goOnSpeaking 25 = .ok (.invokevirtual 121, 3) := by decide +kernel
theorem dX0_goOnSpeaking_28 : decode cX0_goOnSpeaking 28 = .ok (.ifCond .ne 6, 3) := by decide +kernel
theorem dX0_goOnSpeaking_31 : decode cX0_goOnSpeaking 31 = .ok (.goto 84, 3) := by decide +kernel
theorem dX0_goOnSpeaking_34 : decode cX0_goOnSpeaking 34 = .ok (.aload 5, 2) := by decide +kernel
theorem dX0_goOnSpeaking_36 : decode cX0_goOnSpeaking 36 = .ok (.invokevirtual 166, 3) := by decide +kernel
theorem dX0_goOnSpeaking_39 : decode cX0_goOnSpeaking 39 = .ok (.ifCond .eq 22, 3) := by decide +kernel
theorem dX0_goOnSpeaking_42 : decode cX0_goOnSpeaking 42 = .ok (.aload 5, 2) := by decide +kernel
theorem dX0_goOnSpeaking_44 : decode cX0_goOnSpeaking 44 = .ok (.getfield 169, 3) := by decide +kernel
theorem dX0_goOnSpeaking_47 : decode cX0_goOnSpeaking 47 = .ok (.iload_n 1, 1) := by decide +kernel
theorem dX0_goOnSpeaking_48 : decode cX0_goOnSpeaking 48 = .ok (.iand, 1) := by decide +kernel
theorem dX0_goOnSpeaking_49 : decode cX0_goOnSpeaking 49 = .ok (.ifCond .ne 12, 3) := by decide +kernel
theorem dX0_goOnSpeaking_52 : decode cX0_goOnSpeaking 52 = .ok (.aload_n 0, 1) := by decide +kernel
theorem dX0_goOnSpeaking_53 : decode cX0_goOnSpeaking 53 = .ok (.aload 5, 2) := by decide +kernel
theorem dX0_goOnSpeaking_55 : decode cX0_goOnSpeaking 55 = .ok (.invokevirtual 125, 3) := by decide +kernel
theorem dX0_goOnSpeaking_58 : decode cX0_goOnSpeaking 58 = .ok (.goto 57, 3) := by decide +kernel
theorem dX0_goOnSpeaking_61 : decode cX0_goOnSpeaking 61 = .ok (.aload 5, 2) := by decide +kernel
theorem dX0_goOnSpeaking_63 : decode cX0_goOnSpeaking 63 = .ok (.getfield 172, 3) := by decide +kernel
theorem dX0_goOnSpeaking_66 : decode cX0_goOnSpeaking 66 = .ok (.bipush 10, 2) := by decide +kernel
theorem dX0_goOnSpeaking_68 : decode cX0_goOnSpeaking 68 = .ok (.if_icmp .ge 17, 3) := by decide +kernel
theorem dX0_goOnSpeaking_71 : decode cX0_goOnSpeaking 71 = .ok (.aload 5, 2) := by decide +kernel
theorem dX0_goOnSpeaking_73 : decode cX0_goOnSpeaking 73 = .ok (.dup, 1) := by decide +kernel
theorem dX0_goOnSpeaking_74 : decode cX0_goOnSpeaking 74 = .ok (.getfield 172, 3) := by decide +kernel
theorem dX0_goOnSpeaking_77 : decode cX0_goOnSpeaking 77 = .ok (.iconst 1, 1) := by decide +kernel
theorem dX0_goOnSpeaking_78 : decode cX0_goOnSpeaking 78 = .ok (.iadd, 1) := by decide +kernel
theorem dX0_goOnSpeaking_79 : decode cX0_goOnSpeaking 79 = .ok (.putfield 172, 3) := by decide +kernel
theorem dX0_goOnSpeaking_82 : decode cX0_goOnSpeaking 82 = .ok (.goto 33, 3) := by decide +kernel
theorem dX0_goOnSpeaking_85 : decode cX0_goOnSpeaking 85 = .ok (.aload 5, 2) := by decide +kernel
theorem dX0_goOnSpeaking_87 : decode cX0_goOnSpeaking 87 = .ok (.getfield 175, 3) := by decide +kernel
theorem dX0_goOnSpeaking_90 : decode cX0_goOnSpeaking 90 = .ok (.iload_n 2, 1) := by decide +kernel
theorem dX0_goOnSpeaking_91 : decode cX0_goOnSpeaking 91 = .ok (.iconst (-1), 1) := by decide +kernel
theorem dX0_goOnSpeaking_92 : decode cX0_goOnSpeaking 92 = .ok (.ixor, 1) := by decide +kernel
theorem dX0_goOnSpeaking_93 : decode cX0_goOnSpeaking 93 = .ok (.iand, 1) := by decide +kernel
theorem dX0_goOnSpeaking_94 : decode cX0_goOnSpeaking 94 = .ok (.ifCond .ne 15, 3) := by decide +kernel
theorem dX0_goOnSpeaking_97 : decode cX0_goOnSpeaking 97 = .ok (.aload_n 0, 1) := by decide +kernel
theorem dX0_goOnSpeaking_98 : decode cX0_goOnSpeaking 98 = .ok (.aload 5, 2) := by decide +kernel
theorem dX0_goOnSpeaking_100 : decode cX0_goOnSpeaking 100 = .ok (.invokevirtual 178, 3) := by decide +kernel
theorem dX0_goOnSpeaking_103 : decode cX0_goOnSpeaking 103 = .ok (.iinc 3 1, 3) := by decide +kernel
theorem dX0_goOnSpeaking_106 : decode cX0_goOnSpeaking 106 = .ok (.goto 9, 3) := by decide +kernel
theorem dX0_goOnSpeaking_109 : decode cX0_goOnSpeaking 109 = .ok (.aload_n 0, 1) := by decide +kernel
theorem dX0_goOnSpeaking_110 : decode cX0_goOnSpeaking 110 = .ok (.aload 5, 2) := by decide +kernel
theorem dX0_goOnSpeaking_112 : decode cX0_goOnSpeaking 112 = .ok (.invokevirtual 125, 3) := by decide +kernel
theorem dX0_goOnSpeaking_115 : decode cX0_goOnSpeaking 115 = .ok (.iinc 4 1, 3) := by decide +kernel
theorem dX0_goOnSpeaking_118 : decode cX0_goOnSpeaking 118 = .ok (.goto (-113), 3) := by decide +kernel
theorem dX0_goOnSpeaking_121 : decode cX0_goOnSpeaking 121 = .ok (.iload_n 3, 1) := by decide +kernel
theorem dX0_goOnSpeaking_122 : decode cX0_goOnSpeaking 122 = .ok (.ireturn, 1) := by decide +kernel
theorem dX0_beHeard_0 : decode cX0_beHeard 0 = .ok (.aload_n 1, 1) := by decide +kernel
theorem dX0_beHeard_1 : decode cX0_beHeard 1 = .ok (.getfield 91, 3) := by decide +kernel
theorem dX0_beHeard_4 : decode cX0_beHeard 4 = .ok (.iconst 0, 1) := by decide +kernel
theorem dX0_beHeard_5 : decode cX0_beHeard 5 = .ok (.invokevirtual 104, 3) := by decide +kernel
theorem dX0_beHeard_8 : decode cX0_beHeard 8 = .ok (.istore_n 2, 1) := by decide +kernel
theorem dX0_beHeard_9 : decode cX0_beHeard 9 = .ok (.aload_n 1, 1) := by decide +kernel
theorem dX0_beHeard_10 : decode cX0_beHeard 10 = .ok (.getfield 91, 3) := by decide +kernel
theorem dX0_beHeard_13 : decode cX0_beHeard 13 = .ok (.iconst 0, 1) := by decide +kernel
theorem dX0_beHeard_14 : decode cX0_beHeard 14 = .ok (.invokevirtual 154, 3) := by decide +kernel
theorem dX0_beHeard_17 : decode cX0_beHeard 17 = .ok (.istore_n 3, 1) := by decide +kernel
theorem dX0_beHeard_18 : decode cX0_beHeard 18 = .ok (.aload_n 1, 1) := by decide +kernel
theorem dX0_beHeard_19 : decode cX0_beHeard 19 = .ok (.getfield 175, 3) := by decide +kernel
theorem dX0_beHeard_22 : decode cX0_beHeard 22 = .ok (.iconst 1, 1) := by decide +kernel
theorem dX0_beHeard_23 : decode cX0_beHeard 23 = .ok (.aload_n 1, 1) := by decide +kernel
theorem dX0_beHeard_24 : decode cX0_beHeard 24 = .ok (.getfield 181, 3) := by decide +kernel
theorem dX0_beHeard_27 : decode cX0_beHeard 27 = .ok (.ishl, 1) := by decide +kernel
theorem dX0_beHeard_28 : decode cX0_beHeard 28 = .ok (.iconst (-1), 1) := by decide +kernel
theorem dX0_beHeard_29 : decode cX0_beHeard 29 = .ok (.ixor, 1) := by decide +kernel
theorem dX0_beHeard_30 : decode cX0_beHeard 30 = .ok (.iand, 1) := by decide +kernel
theorem dX0_beHeard_31 : decode cX0_beHeard 31 = .ok (.istore 4, 2) := by decide +kernel
theorem dX0_beHeard_33 : decode cX0_beHeard 33 = .ok (.iconst 0, 1) := by decide +kernel
theorem dX0_beHeard_34 : decode cX0_beHeard 34 = .ok (.istore 5, 2) := by decide +kernel
theorem dX0_beHeard_36 : decode cX0_beHeard 36 = .ok (.iload 5, 2) := by decide +kernel
theorem dX0_beHeard_38 : decode cX0_beHeard 38 = .ok (.aload_n 0, 1) := by decide +kernel
theorem dX0_beHeard_39 : decode cX0_beHeard 39 = .ok (.getfield 49, 3) := by decide +kernel
theorem dX0_beHeard_42 : decode cX0_beHeard 42 = .ok (.if_icmp .ge 61, 3) := by decide +kernel
theorem dX0_beHeard_45 : decode cX0_beHeard 45 = .ok (.iload 4, 2) := by decide +kernel
theorem dX0_beHeard_47 : decode cX0_beHeard 47 = .ok (.iload 5, 2) := by decide +kernel
theorem dX0_beHeard_49 : decode cX0_beHeard 49 = .ok (.ishr, 1) := by decide +kernel
theorem dX0_beHeard_50 : decode cX0_beHeard 50 = .ok (.iconst 1, 1) := by decide +kernel
theorem dX0_beHeard_51 : decode cX0_beHeard 51 = .ok (.iand, 1) := by decide +kernel
theorem dX0_beHeard_52 : decode cX0_beHeard 52 = .ok (.ifCond .ne 6, 3) := by decide +kernel
theorem dX0_beHeard_55 : decode cX0_beHeard 55 = .ok (.goto 42, 3) := by decide +kernel
theorem dX0_beHeard_58 : decode cX0_beHeard 58 = .ok (.aload_n 0, 1) := by decide +kernel
theorem dX0_beHeard_59 : decode cX0_beHeard 59 = .ok (.getfield 34, 3) := by decide +kernel
theorem dX0_beHeard_62 : decode cX0_beHeard 62 = .ok (.iload 5, 2) := by decide +kernel
theorem dX0_beHeard_64 : decode cX0_beHeard 64 = .ok (.aaload, 1) := by decide +kernel
theorem dX0_beHeard_65 : decode cX0_beHeard 65 = .ok (.getfield 184, 3) := by decide +kernel
theorem dX0_beHeard_68 : decode cX0_beHeard 68 = .ok (.iload_n 2, 1) := by decide +kernel
theorem dX0_beHeard_69 : decode cX0_beHeard 69 = .ok (.aload_n 1, 1) := by decide +kernel
theorem dX0_beHeard_70 : decode cX0_beHeard 70 = .ok (.getfield 181, 3) := by decide +kernel
theorem dX0_beHeard_73 : decode cX0_beHeard 73 = .ok (.iload_n 3, 1) := by decide +kernel
theorem dX0_beHeard_74 : decode cX0_beHeard 74 = .ok (.aload_n 0, 1) := by decide +kernel
theorem dX0_beHeard_75 : decode cX0_beHeard 75 = .ok (.getfield 56, 3) := by decide +kernel
theorem dX0_beHeard_78 : decode cX0_beHeard 78 = .ok (.invokevirtual 188, 3) := by decide +kernel
theorem dX0_beHeard_81 : decode cX0_beHeard 81 = .ok (.aload_n 0, 1) := by decide +kernel
theorem dX0_beHeard_82 : decode cX0_beHeard 82 = .ok (.getfield 34, 3) := by decide +kernel
theorem dX0_beHeard_85 : decode cX0_beHeard 85 = .ok (.iload 5, 2) := by decide +kernel
theorem dX0_beHeard_87 : decode cX0_beHeard 87 = .ok (.aaload, 1) := by decide +kernel
theorem dX0_beHeard_88 : decode cX0_beHeard 88 = .ok (.dup, 1) := by decide +kernel
theorem dX0_beHeard_89 : decode cX0_beHeard 89 = .ok (.getfield 193, 3) := by decide +kernel
theorem dX0_beHeard_92 : decode cX0_beHeard 92 = .ok (.iconst 1, 1) := by decide +kernel
theorem dX0_beHeard_93 : decode cX0_beHeard 93 = .ok (.iadd, 1) := by decide +kernel
theorem dX0_beHeard_94 : decode cX0_beHeard 94 = .ok (.putfield 193, 3) := by decide +kernel
theorem dX0_beHeard_97 : decode cX0_beHeard 97 = .ok (.iinc 5 1, 3) := by decide +kernel
theorem dX0_beHeard_100 : decode cX0_beHeard 100 = .ok (.goto (-64), 3) := by decide +kernel
theorem dX0_beHeard_103 : decode cX0_beHeard 103 = .ok (.aload_n 1, 1) := by decide +kernel
theorem dX0_beHeard_104 : decode cX0_beHeard 104 = .ok (.dup, 1) := by decide +kernel
theorem dX0_beHeard_105 : decode cX0_beHeard 105 = .ok (.getfield 196, 3) := by decide +kernel
theorem dX0_beHeard_108 : decode cX0_beHeard 108 = .ok (.iconst 1, 1) := by decide +kernel
theorem dX0_beHeard_109 : decode cX0_beHeard 109 = .ok (.iadd, 1) := by decide +kernel
theorem dX0_beHeard_110 : decode cX0_beHeard 110 = .ok (.putfield 196, 3) := by decide +kernel
theorem dX0_beHeard_113 : decode cX0_beHeard 113 = .ok (.iload_n 3, 1) := by decide +kernel
theorem dX0_beHeard_114 : decode cX0_beHeard 114 = .ok (.invokestatic 84, 3) := by decide +kernel
theorem dX0_beHeard_117 : decode cX0_beHeard 117 = .ok (.ifCond .eq 13, 3) := by decide +kernel
theorem dX0_beHeard_120 : decode cX0_beHeard 120 = .ok (.aload_n 0, 1) := by decide +kernel
theorem dX0_beHeard_121 : decode cX0_beHeard 121 = .ok (.getfield 26, 3) := by decide +kernel
theorem dX0_beHeard_124 : decode cX0_beHeard 124 = .ok (.iload_n 3, 1) := by decide +kernel
theorem dX0_beHeard_125 : decode cX0_beHeard 125 = .ok (.dup2, 1) := by decide +kernel
theorem dX0_beHeard_126 : decode cX0_beHeard 126 = .ok (.iaload, 1) := by decide +kernel
theorem dX0_beHeard_127 : decode cX0_beHeard 127 = .ok (.iconst 1, 1) := by decide +kernel
theorem dX0_beHeard_128 : decode cX0_beHeard 128 = .ok (.iadd, 1) := by decide +kernel
theorem dX0_beHeard_129 : decode cX0_beHeard 129 = .ok (.iastore, 1) := by decide +kernel
theorem dX0_beHeard_130 : decode cX0_beHeard 130 = .ok (.aload_n 1, 1) := by decide +kernel
theorem dX0_beHeard_131 : decode cX0_beHeard 131 = .ok (.getfield 91, 3) := by decide +kernel
theorem dX0_beHeard_134 : decode cX0_beHeard 134 = .ok (.invokevirtual 108, 3) := by decide +kernel
theorem dX0_beHeard_137 : decode cX0_beHeard 137 = .ok (.aload_n 1, 1) := by decide +kernel
theorem dX0_beHeard_138 : decode cX0_beHeard 138 = .ok (.invokevirtual 111, 3) := by decide +kernel
theorem dX0_beHeard_141 : decode cX0_beHeard 141 = .ok (.return_, 1) := by decide +kernel
theorem dX0_giveUp_0 : decode cX0_giveUp 0 = .ok (.aload_n 1, 1) := by decide +kernel
theorem dX0_giveUp_1 : decode cX0_giveUp 1 = .ok (.getfield 91, 3) := by decide +kernel
theorem dX0_giveUp_4 : decode cX0_giveUp 4 = .ok (.iconst 0, 1) := by decide +kernel
theorem dX0_giveUp_5 : decode cX0_giveUp 5 = .ok (.invokevirtual 154, 3) := by decide +kernel
theorem dX0_giveUp_8 : decode cX0_giveUp 8 = .ok (.istore_n 2, 1) := by decide +kernel
theorem dX0_giveUp_9 : decode cX0_giveUp 9 = .ok (.aload_n 1, 1) := by decide +kernel
theorem dX0_giveUp_10 : decode cX0_giveUp 10 = .ok (.invokevirtual 111, 3) := by decide +kernel
theorem dX0_giveUp_13 : decode cX0_giveUp 13 = .ok (.aload_n 1, 1) := by decide +kernel
theorem dX0_giveUp_14 : decode cX0_giveUp 14 = .ok (.dup, 1) := by decide +kernel
theorem dX0_giveUp_15 : decode cX0_giveUp 15 = .ok (.getfield 199, 3) := by decide +kernel
theorem dX0_giveUp_18 : decode cX0_giveUp 18 = .ok (.iconst 1, 1) := by decide +kernel
theorem dX0_giveUp_19 : decode cX0_giveUp 19 = .ok (.iadd, 1) := by decide +kernel
theorem dX0_giveUp_20 : decode cX0_giveUp 20 = .ok (.putfield 199, 3) := by decide +kernel
theorem dX0_giveUp_23 : decode cX0_giveUp 23 = .ok (.aload_n 1, 1) := by decide +kernel
theorem dX0_giveUp_24 : decode cX0_giveUp 24 = .ok (.getfield 91, 3) := by decide +kernel
theorem dX0_giveUp_27 : decode cX0_giveUp 27 = .ok (.invokevirtual 202, 3) := by decide +kernel
theorem dX0_giveUp_30 : decode cX0_giveUp 30 = .ok (.aload_n 0, 1) := by decide +kernel
theorem dX0_giveUp_31 : decode cX0_giveUp 31 = .ok (.getfield 18, 3) := by decide +kernel
theorem dX0_giveUp_34 : decode cX0_giveUp 34 = .ok (.iconst 4, 1) := by decide +kernel
theorem dX0_giveUp_35 : decode cX0_giveUp 35 = .ok (.iaload, 1) := by decide +kernel
theorem dX0_giveUp_36 : decode cX0_giveUp 36 = .ok (.if_icmp .ge 4, 3) := by decide +kernel
theorem dX0_giveUp_39 : decode cX0_giveUp 39 = .ok (.return_, 1) := by decide +kernel
theorem dX0_giveUp_40 : decode cX0_giveUp 40 = .ok (.aload_n 1, 1) := by decide +kernel
theorem dX0_giveUp_41 : decode cX0_giveUp 41 = .ok (.getfield 91, 3) := by decide +kernel
theorem dX0_giveUp_44 : decode cX0_giveUp 44 = .ok (.invokevirtual 108, 3) := by decide +kernel
theorem dX0_giveUp_47 : decode cX0_giveUp 47 = .ok (.aload_n 1, 1) := by decide +kernel
theorem dX0_giveUp_48 : decode cX0_giveUp 48 = .ok (.dup, 1) := by decide +kernel
theorem dX0_giveUp_49 : decode cX0_giveUp 49 = .ok (.getfield 205, 3) := by decide +kernel
theorem dX0_giveUp_52 : decode cX0_giveUp 52 = .ok (.iconst 1, 1) := by decide +kernel
theorem dX0_giveUp_53 : decode cX0_giveUp 53 = .ok (.iadd, 1) := by decide +kernel
theorem dX0_giveUp_54 : decode cX0_giveUp 54 = .ok (.putfield 205, 3) := by decide +kernel
theorem dX0_giveUp_57 : decode cX0_giveUp 57 = .ok (.iload_n 2, 1) := by decide +kernel
theorem dX0_giveUp_58 : decode cX0_giveUp 58 = .ok (.invokestatic 84, 3) := by decide +kernel
theorem dX0_giveUp_61 : decode cX0_giveUp 61 = .ok (.ifCond .eq 13, 3) := by decide +kernel
theorem dX0_giveUp_64 : decode cX0_giveUp 64 = .ok (.aload_n 0, 1) := by decide +kernel
theorem dX0_giveUp_65 : decode cX0_giveUp 65 = .ok (.getfield 29, 3) := by decide +kernel
theorem dX0_giveUp_68 : decode cX0_giveUp 68 = .ok (.iload_n 2, 1) := by decide +kernel
theorem dX0_giveUp_69 : decode cX0_giveUp 69 = .ok (.dup2, 1) := by decide +kernel
theorem dX0_giveUp_70 : decode cX0_giveUp 70 = .ok (.iaload, 1) := by decide +kernel
theorem dX0_giveUp_71 : decode cX0_giveUp 71 = .ok (.iconst 1, 1) := by decide +kernel
theorem dX0_giveUp_72 : decode cX0_giveUp 72 = .ok (.iadd, 1) := by decide +kernel
theorem dX0_giveUp_73 : decode cX0_giveUp 73 = .ok (.iastore, 1) := by decide +kernel
theorem dX0_giveUp_74 : decode cX0_giveUp 74 = .ok (.return_, 1) := by decide +kernel
theorem dX0_changeCharges_0 : decode cX0_changeCharges 0 = .ok (.aload_n 0, 1) := by decide +kernel
theorem dX0_changeCharges_1 : decode cX0_changeCharges 1 = .ok (.getfield 18, 3) := by decide +kernel
theorem dX0_changeCharges_4 : decode cX0_changeCharges 4 = .ok (.iconst 1, 1) := by decide +kernel
theorem dX0_changeCharges_5 : decode cX0_changeCharges 5 = .ok (.iaload, 1) := by decide +kernel
theorem dX0_changeCharges_6 : decode cX0_changeCharges 6 = .ok (.istore_n 2, 1) := by decide +kernel
theorem dX0_changeCharges_7 : decode cX0_changeCharges 7 = .ok (.iconst 0, 1) := by decide +kernel
theorem dX0_changeCharges_8 : decode cX0_changeCharges 8 = .ok (.istore_n 3, 1) := by decide +kernel
theorem dX0_changeCharges_9 : decode cX0_changeCharges 9 = .ok (.iload_n 3, 1) := by decide +kernel
theorem dX0_changeCharges_10 : decode cX0_changeCharges 10 = .ok (.aload_n 0, 1) := by decide +kernel
theorem dX0_changeCharges_11 : decode cX0_changeCharges 11 = .ok (.getfield 49, 3) := by decide +kernel
theorem dX0_changeCharges_14 : decode cX0_changeCharges 14 = .ok (.if_icmp .ge 138, 3) := by decide +kernel
theorem dX0_changeCharges_17 : decode cX0_changeCharges 17 = .ok (.aload_n 0, 1) := by decide +kernel
theorem dX0_changeCharges_18 : decode cX0_changeCharges 18 = .ok (.getfield 34, 3) := by decide +kernel
theorem dX0_changeCharges_21 : decode cX0_changeCharges 21 = .ok (.iload_n 3, 1) := by decide +kernel
theorem dX0_changeCharges_22 : decode cX0_changeCharges 22 = .ok (.aaload, 1) := by decide +kernel
theorem dX0_changeCharges_23 : decode cX0_changeCharges 23 = .ok (.astore 4, 2) := by decide +kernel
theorem dX0_changeCharges_25 : decode cX0_changeCharges 25 = .ok (.aload 4, 2) := by decide +kernel
theorem dX0_changeCharges_27 : decode cX0_changeCharges 27 = .ok (.invokevirtual 151, 3) := by decide +kernel
theorem dX0_changeCharges_30 : decode cX0_changeCharges 30 = .ok (.ifCond .eq 12, 3) := by decide +kernel
theorem dX0_changeCharges_33 : decode cX0_changeCharges 33 = .ok (.aload_n 0, 1) := by decide +kernel
theorem dX0_changeCharges_34 : decode cX0_changeCharges 34 = .ok (.getfield 18, 3) := by decide +kernel
theorem dX0_changeCharges_37 : decode cX0_changeCharges 37 = .ok (.iconst 2, 1) := by decide +kernel
theorem dX0_changeCharges_38 : decode cX0_changeCharges 38 = .ok (.iaload, 1) := by decide +kernel
theorem dX0_changeCharges_39 : decode cX0_changeCharges 39 = .ok (.goto 4, 3) := by decide +kernel
theorem dX0_changeCharges_42 : decode cX0_changeCharges 42 = .ok (.iconst 0, 1) := by decide +kernel
theorem dX0_changeCharges_43 : decode cX0_changeCharges 43 = .ok (.istore 5, 2) := by decide +kernel
theorem dX0_changeCharges_45 : decode cX0_changeCharges 45 = .ok (.aload 4, 2) := by decide +kernel
theorem dX0_changeCharges_47 : decode cX0_changeCharges 47 = .ok (.getfield 68, 3) := by decide +kernel
theorem dX0_changeCharges_50 : decode cX0_changeCharges 50 = .ok (.aload_n 0, 1) := by decide +kernel
theorem dX0_changeCharges_51 : decode cX0_changeCharges 51 = .ok (.getfield 18, 3) := by decide +kernel
theorem dX0_changeCharges_54 : decode cX0_changeCharges 54 = .ok (.iconst 3, 1) := by decide +kernel
theorem dX0_changeCharges_55 : decode cX0_changeCharges 55 = .ok (.iaload, 1) := by decide +kernel
theorem dX0_changeCharges_56 : decode cX0_changeCharges 56 = .ok (.aload 4, 2) := by decide +kernel
theorem dX0_changeCharges_58 : decode cX0_changeCharges 58 = .ok (.getfield 77, 3) := by decide +kernel
theorem dX0_changeCharges_61 : decode cX0_changeCharges 61 = .ok (.iload_n 1, 1) := by decide +kernel
theorem dX0_changeCharges_62 : decode cX0_changeCharges 62 = .ok (.iand, 1) := by decide +kernel
theorem dX0_changeCharges_63 : decode cX0_changeCharges 63 = .ok (.invokestatic 208, 3) := by decide +kernel
theorem dX0_changeCharges_66 : decode cX0_changeCharges 66 = .ok (.imul, 1) := by decide +kernel
theorem dX0_changeCharges_67 : decode cX0_changeCharges 67 = .ok (.iadd, 1) := by decide +kernel
theorem dX0_changeCharges_68 : decode cX0_changeCharges 68 = .ok (.iload 5, 2) := by decide +kernel
theorem dX0_changeCharges_70 : decode cX0_changeCharges 70 = .ok (.isub, 1) := by decide +kernel
theorem dX0_changeCharges_71 : decode cX0_changeCharges 71 = .ok (.istore 6, 2) := by decide +kernel
theorem dX0_changeCharges_73 : decode cX0_changeCharges 73 = .ok (.aload 4, 2) := by decide +kernel
theorem dX0_changeCharges_75 : decode cX0_changeCharges 75 = .ok (.iconst 0, 1) := by decide +kernel
theorem dX0_changeCharges_76 : decode cX0_changeCharges 76 = .ok (.iload 6, 2) := by decide +kernel
theorem dX0_changeCharges_78 : decode cX0_changeCharges 78 = .ok (.iload_n 2, 1) := by decide +kernel
theorem dX0_changeCharges_79 : decode cX0_changeCharges 79 = .ok (.invokestatic 71, 3) := by decide +kernel
theorem dX0_changeCharges_82 : decode cX0_changeCharges 82 = .ok (.invokestatic 213, 3) := by decide +kernel
theorem dX0_changeCharges_85 : decode cX0_changeCharges 85 = .ok (.putfield 68, 3) := by decide +kernel
theorem dX0_changeCharges_88 : decode cX0_changeCharges 88 = .ok (.iload 6, 2) := by decide +kernel
theorem dX0_changeCharges_90 : decode cX0_changeCharges 90 = .ok (.ifCond .ge 23, 3) := by decide +kernel
theorem dX0_changeCharges_93 : decode cX0_changeCharges 93 = .ok (.aload 4, 2) := by decide +kernel
theorem dX0_changeCharges_95 : decode cX0_changeCharges 95 = .ok (.iconst 1, 1) := by decide +kernel
theorem dX0_changeCharges_96 : decode cX0_changeCharges 96 = .ok (.putfield 216, 3) := by decide +kernel
theorem dX0_changeCharges_99 : decode cX0_changeCharges 99 = .ok (.aload 4, 2) := by decide +kernel
theorem dX0_changeCharges_101 : decode cX0_changeCharges 101 = .ok (.invokevirtual 121, 3) := by decide +kernel
theorem dX0_changeCharges_104 : decode cX0_changeCharges 104 = .ok (.ifCond .eq 9, 3) := by decide +kernel
theorem dX0_changeCharges_107 : decode cX0_changeCharges 107 = .ok (.aload_n 0, 1) := by decide +kernel
theorem dX0_changeCharges_108 : decode cX0_changeCharges 108 = .ok (.aload 4, 2) := by decide +kernel
theorem dX0_changeCharges_110 : decode cX0_changeCharges 110 = .ok (.invokevirtual 125, 3) := by decide +kernel
theorem dX0_changeCharges_113 : decode cX0_changeCharges 113 = .ok (.aload 4, 2) := by decide +kernel
theorem dX0_changeCharges_115 : decode cX0_changeCharges 115 = .ok (.getfield 216, 3) := by decide +kernel
theorem dX0_changeCharges_118 : decode cX0_changeCharges 118 = .ok (.ifCond .eq 28, 3) := by decide +kernel
theorem dX0_changeCharges_121 : decode cX0_changeCharges 121 = .ok (.aload 4, 2) := by decide +kernel
theorem dX0_changeCharges_123 : decode cX0_changeCharges 123 = .ok (.getfield 117, 3) := by decide +kernel
theorem dX0_changeCharges_126 : decode cX0_changeCharges 126 = .ok (.ifCond .ne 20, 3) := by decide +kernel
theorem dX0_changeCharges_129 : decode cX0_changeCharges 129 = .ok (.aload 4, 2) := by decide +kernel
theorem dX0_changeCharges_131 : decode cX0_changeCharges 131 = .ok (.getfield 68, 3) := by decide +kernel
theorem dX0_changeCharges_134 : decode cX0_changeCharges 134 = .ok (.iload_n 2, 1) := by decide +kernel
theorem dX0_changeCharges_135 : decode cX0_changeCharges 135 = .ok (.iconst 2, 1) := by decide +kernel
theorem dX0_changeCharges_136 : decode cX0_changeCharges 136 = .ok (.idiv, 1) := by decide +kernel
theorem dX0_changeCharges_137 : decode cX0_changeCharges 137 = .ok (.if_icmp .lt 9, 3) := by decide +kernel
theorem dX0_changeCharges_140 : decode cX0_changeCharges 140 = .ok (.aload 4, 2) := by decide +kernel
theorem dX0_changeCharges_142 : decode cX0_changeCharges 142 = .ok (.iconst 0, 1) := by decide +kernel
theorem dX0_changeCharges_143 : decode cX0_changeCharges 143 = .ok (.putfield 216, 3) := by decide +kernel
theorem dX0_changeCharges_146 : decode cX0_changeCharges 146 = .ok (.iinc 3 1, 3) := by decide +kernel
theorem dX0_changeCharges_149 : decode cX0_changeCharges 149 = .ok (.goto (-140), 3) := by decide +kernel
theorem dX0_changeCharges_152 : decode cX0_changeCharges 152 = .ok (.return_, 1) := by decide +kernel
theorem dX0_restWires_0 : decode cX0_restWires 0 = .ok (.iconst 0, 1) := by decide +kernel
theorem dX0_restWires_1 : decode cX0_restWires 1 = .ok (.istore_n 2, 1) := by decide +kernel
theorem dX0_restWires_2 : decode cX0_restWires 2 = .ok (.iload_n 2, 1) := by decide +kernel
theorem dX0_restWires_3 : decode cX0_restWires 3 = .ok (.bipush 6, 2) := by decide +kernel
theorem dX0_restWires_5 : decode cX0_restWires 5 = .ok (.if_icmp .ge 42, 3) := by decide +kernel
theorem dX0_restWires_8 : decode cX0_restWires 8 = .ok (.aload_n 0, 1) := by decide +kernel
theorem dX0_restWires_9 : decode cX0_restWires 9 = .ok (.getfield 23, 3) := by decide +kernel
theorem dX0_restWires_12 : decode cX0_restWires 12 = .ok (.iload_n 2, 1) := by decide +kernel
theorem dX0_restWires_13 : decode cX0_restWires 13 = .ok (.iload_n 1, 1) := by decide +kernel
theorem dX0_restWires_14 : decode cX0_restWires 14 = .ok (.iload_n 2, 1) := by decide +kernel
theorem dX0_restWires_15 : decode cX0_restWires 15 = .ok (.ishr, 1) := by decide +kernel
theorem dX0_restWires_16 : decode cX0_restWires 16 = .ok (.iconst 1, 1) := by decide +kernel
theorem dX0_restWires_17 : decode cX0_restWires 17 = .ok (.iand, 1) := by decide +kernel
theorem dX0_restWires_18 : decode cX0_restWires 18 = .ok (.iconst 1, 1) := by decide +kernel
theorem dX0_restWires_19 : decode cX0_restWires 19 = .ok (.if_icmp .ne 20, 3) := by decide +kernel
theorem dX0_restWires_22 : decode cX0_restWires 22 = .ok (.aload_n 0, 1) := by decide +kernel
theorem dX0_restWires_23 : decode cX0_restWires 23 = .ok (.getfield 23, 3) := by decide +kernel
theorem dX0_restWires_26 : decode cX0_restWires 26 = .ok (.iload_n 2, 1) := by decide +kernel
theorem dX0_restWires_27 : decode cX0_restWires 27 = .ok (.iaload, 1) := by decide +kernel
theorem dX0_restWires_28 : decode cX0_restWires 28 = .ok (.iconst 1, 1) := by decide +kernel
theorem dX0_restWires_29 : decode cX0_restWires 29 = .ok (.iadd, 1) := by decide +kernel
theorem dX0_restWires_30 : decode cX0_restWires 30 = .ok (.sipush 999, 3) := by decide +kernel
theorem dX0_restWires_33 : decode cX0_restWires 33 = .ok (.invokestatic 71, 3) := by decide +kernel
theorem dX0_restWires_36 : decode cX0_restWires 36 = .ok (.goto 4, 3) := by decide +kernel
theorem dX0_restWires_39 : decode cX0_restWires 39 = .ok (.iconst 0, 1) := by decide +kernel
theorem dX0_restWires_40 : decode cX0_restWires 40 = .ok (.iastore, 1) := by decide +kernel
theorem dX0_restWires_41 : decode cX0_restWires 41 = .ok (.iinc 2 1, 3) := by decide +kernel
theorem dX0_restWires_44 : decode cX0_restWires 44 = .ok (.goto (-42), 3) := by decide +kernel
theorem dX0_restWires_47 : decode cX0_restWires 47 = .ok (.return_, 1) := by decide +kernel
theorem dX0_isRested_0 : decode cX0_isRested 0 = .ok (.iload_n 1, 1) := by decide +kernel
theorem dX0_isRested_1 : decode cX0_isRested 1 = .ok (.invokestatic 84, 3) := by decide +kernel
theorem dX0_isRested_4 : decode cX0_isRested 4 = .ok (.ifCond .eq 22, 3) := by decide +kernel
theorem dX0_isRested_7 : decode cX0_isRested 7 = .ok (.aload_n 0, 1) := by decide +kernel
theorem dX0_isRested_8 : decode cX0_isRested 8 = .ok (.getfield 23, 3) := by decide +kernel
theorem dX0_isRested_11 : decode cX0_isRested 11 = .ok (.iload_n 1, 1) := by decide +kernel
theorem dX0_isRested_12 : decode cX0_isRested 12 = .ok (.iaload, 1) := by decide +kernel
theorem dX0_isRested_13 : decode cX0_isRested 13 = .ok (.aload_n 0, 1) := by decide +kernel
theorem dX0_isRested_14 : decode cX0_isRested 14 = .ok (.getfield 18, 3) := by decide +kernel
theorem dX0_isRested_17 : decode cX0_isRested 17 = .ok (.iconst 0, 1) := by decide +kernel
theorem dX0_isRested_18 : decode cX0_isRested 18 = .ok (.iaload, 1) := by decide +kernel
theorem dX0_isRested_19 : decode cX0_isRested 19 = .ok (.if_icmp .lt 7, 3) := by decide +kernel
theorem dX0_isRested_22 : decode cX0_isRested 22 = .ok (.iconst 1, 1) := by decide +kernel
theorem dX0_isRested_23 : decode cX0_isRested 23 = .ok (.goto 4, 3) := by decide +kernel
theorem dX0_isRested_26 : decode cX0_isRested 26 = .ok (.iconst 0, 1) := by decide +kernel
theorem dX0_isRested_27 : decode cX0_isRested 27 = .ok (.ireturn, 1) := by decide +kernel
theorem dX0_hasFault_0 : decode cX0_hasFault 0 = .ok (.iload_n 1, 1) := by decide +kernel
theorem dX0_hasFault_1 : decode cX0_hasFault 1 = .ok (.invokestatic 84, 3) := by decide +kernel
theorem dX0_hasFault_4 : decode cX0_hasFault 4 = .ok (.ifCond .eq 19, 3) := by decide +kernel
theorem dX0_hasFault_7 : decode cX0_hasFault 7 = .ok (.aload_n 0, 1) := by decide +kernel
theorem dX0_hasFault_8 : decode cX0_hasFault 8 = .ok (.getfield 53, 3) := by decide +kernel
theorem dX0_hasFault_11 : decode cX0_hasFault 11 = .ok (.iload_n 1, 1) := by decide +kernel
theorem dX0_hasFault_12 : decode cX0_hasFault 12 = .ok (.ishr, 1) := by decide +kernel
theorem dX0_hasFault_13 : decode cX0_hasFault 13 = .ok (.iconst 1, 1) := by decide +kernel
theorem dX0_hasFault_14 : decode cX0_hasFault 14 = .ok (.iand, 1) := by decide +kernel
theorem dX0_hasFault_15 : decode cX0_hasFault 15 = .ok (.iconst 1, 1) := by decide +kernel
theorem dX0_hasFault_16 : decode cX0_hasFault 16 = .ok (.if_icmp .ne 7, 3) := by decide +kernel
theorem dX0_hasFault_19 : decode cX0_hasFault 19 = .ok (.iconst 1, 1) := by decide +kernel
theorem dX0_hasFault_20 : decode cX0_hasFault 20 = .ok (.goto 4, 3) := by decide +kernel
theorem dX0_hasFault_23 : decode cX0_hasFault 23 = .ok (.iconst 0, 1) := by decide +kernel
theorem dX0_hasFault_24 : decode cX0_hasFault 24 = .ok (.ireturn, 1) := by decide +kernel
theorem dX0_stationsAt_0 : decode cX0_stationsAt 0 = .ok (.iconst 0, 1) := by decide +kernel
theorem dX0_stationsAt_1 : decode cX0_stationsAt 1 = .ok (.istore_n 2, 1) := by decide +kernel
theorem dX0_stationsAt_2 : decode cX0_stationsAt 2 = .ok (.iconst 0, 1) := by decide +kernel
theorem dX0_stationsAt_3 : decode cX0_stationsAt 3 = .ok (.istore_n 3, 1) := by decide +kernel
theorem dX0_stationsAt_4 : decode cX0_stationsAt 4 = .ok (.iload_n 3, 1) := by decide +kernel
theorem dX0_stationsAt_5 : decode cX0_stationsAt 5 = .ok (.aload_n 0, 1) := by decide +kernel
theorem dX0_stationsAt_6 : decode cX0_stationsAt 6 = .ok (.getfield 49, 3) := by decide +kernel
theorem dX0_stationsAt_9 : decode cX0_stationsAt 9 = .ok (.if_icmp .ge 28, 3) := by decide +kernel
theorem dX0_stationsAt_12 : decode cX0_stationsAt 12 = .ok (.aload_n 0, 1) := by decide +kernel
theorem dX0_stationsAt_13 : decode cX0_stationsAt 13 = .ok (.getfield 34, 3) := by decide +kernel
theorem dX0_stationsAt_16 : decode cX0_stationsAt 16 = .ok (.iload_n 3, 1) := by decide +kernel
theorem dX0_stationsAt_17 : decode cX0_stationsAt 17 = .ok (.aaload, 1) := by decide +kernel
theorem dX0_stationsAt_18 : decode cX0_stationsAt 18 = .ok (.iload_n 1, 1) := by decide +kernel
theorem dX0_stationsAt_19 : decode cX0_stationsAt 19 = .ok (.invokevirtual 88, 3) := by decide +kernel
theorem dX0_stationsAt_22 : decode cX0_stationsAt 22 = .ok (.ifCond .eq 9, 3) := by decide +kernel
theorem dX0_stationsAt_25 : decode cX0_stationsAt 25 = .ok (.iload_n 2, 1) := by decide +kernel
theorem dX0_stationsAt_26 : decode cX0_stationsAt 26 = .ok (.iconst 1, 1) := by decide +kernel
theorem dX0_stationsAt_27 : decode cX0_stationsAt 27 = .ok (.iload_n 3, 1) := by decide +kernel
theorem dX0_stationsAt_28 : decode cX0_stationsAt 28 = .ok (.ishl, 1) := by decide +kernel
theorem dX0_stationsAt_29 : decode cX0_stationsAt 29 = .ok (.ior, 1) := by decide +kernel
theorem dX0_stationsAt_30 : decode cX0_stationsAt 30 = .ok (.istore_n 2, 1) := by decide +kernel
theorem dX0_stationsAt_31 : decode cX0_stationsAt 31 = .ok (.iinc 3 1, 3) := by decide +kernel
theorem dX0_stationsAt_34 : decode cX0_stationsAt 34 = .ok (.goto (-30), 3) := by decide +kernel
theorem dX0_stationsAt_37 : decode cX0_stationsAt 37 = .ok (.iload_n 2, 1) := by decide +kernel
theorem dX0_stationsAt_38 : decode cX0_stationsAt 38 = .ok (.ireturn, 1) := by decide +kernel
theorem dX0_speakersOn_0 : decode cX0_speakersOn 0 = .ok (.iconst 0, 1) := by decide +kernel
theorem dX0_speakersOn_1 : decode cX0_speakersOn 1 = .ok (.istore_n 2, 1) := by decide +kernel
theorem dX0_speakersOn_2 : decode cX0_speakersOn 2 = .ok (.iconst 0, 1) := by decide +kernel
theorem dX0_speakersOn_3 : decode cX0_speakersOn 3 = .ok (.istore_n 3, 1) := by decide +kernel
theorem dX0_speakersOn_4 : decode cX0_speakersOn 4 = .ok (.iload_n 3, 1) := by decide +kernel
theorem dX0_speakersOn_5 : decode cX0_speakersOn 5 = .ok (.aload_n 0, 1) := by decide +kernel
theorem dX0_speakersOn_6 : decode cX0_speakersOn 6 = .ok (.getfield 49, 3) := by decide +kernel
theorem dX0_speakersOn_9 : decode cX0_speakersOn 9 = .ok (.if_icmp .ge 29, 3) := by decide +kernel
theorem dX0_speakersOn_12 : decode cX0_speakersOn 12 = .ok (.aload_n 0, 1) := by decide +kernel
theorem dX0_speakersOn_13 : decode cX0_speakersOn 13 = .ok (.getfield 34, 3) := by decide +kernel
theorem dX0_speakersOn_16 : decode cX0_speakersOn 16 = .ok (.iload_n 3, 1) := by decide +kernel
theorem dX0_speakersOn_17 : decode cX0_speakersOn 17 = .ok (.aaload, 1) := by decide +kernel
theorem dX0_speakersOn_18 : decode cX0_speakersOn 18 = .ok (.getfield 169, 3) := by decide +kernel
theorem dX0_speakersOn_21 : decode cX0_speakersOn 21 = .ok (.iload_n 1, 1) := by decide +kernel
theorem dX0_speakersOn_22 : decode cX0_speakersOn 22 = .ok (.iand, 1) := by decide +kernel
theorem dX0_speakersOn_23 : decode cX0_speakersOn 23 = .ok (.ifCond .eq 9, 3) := by decide +kernel
theorem dX0_speakersOn_26 : decode cX0_speakersOn 26 = .ok (.iload_n 2, 1) := by decide +kernel
theorem dX0_speakersOn_27 : decode cX0_speakersOn 27 = .ok (.iconst 1, 1) := by decide +kernel
theorem dX0_speakersOn_28 : decode cX0_speakersOn 28 = .ok (.iload_n 3, 1) := by decide +kernel
theorem dX0_speakersOn_29 : decode cX0_speakersOn 29 = .ok (.ishl, 1) := by decide +kernel
theorem dX0_speakersOn_30 : decode cX0_speakersOn 30 = .ok (.ior, 1) := by decide +kernel
theorem dX0_speakersOn_31 : decode cX0_speakersOn 31 = .ok (.istore_n 2, 1) := by decide +kernel
theorem dX0_speakersOn_32 : decode cX0_speakersOn 32 = .ok (.iinc 3 1, 3) := by decide +kernel
theorem dX0_speakersOn_35 : decode cX0_speakersOn 35 = .ok (.goto (-31), 3) := by decide +kernel
theorem dX0_speakersOn_38 : decode cX0_speakersOn 38 = .ok (.iload_n 2, 1) := by decide +kernel
theorem dX0_speakersOn_39 : decode cX0_speakersOn 39 = .ok (.ireturn, 1) := by decide +kernel
theorem dX0_awakeStations_0 : decode cX0_awakeStations 0 = .ok (.iconst 0, 1) := by decide +kernel
theorem dX0_awakeStations_1 : decode cX0_awakeStations 1 = .ok (.istore_n 1, 1) := by decide +kernel
theorem dX0_awakeStations_2 : decode cX0_awakeStations 2 = .ok (.iconst 0, 1) := by decide +kernel
theorem dX0_awakeStations_3 : decode cX0_awakeStations 3 = .ok (.istore_n 2, 1) := by decide +kernel
theorem dX0_awakeStations_4 : decode cX0_awakeStations 4 = .ok (.iload_n 2, 1) := by decide +kernel
theorem dX0_awakeStations_5 : decode cX0_awakeStations 5 = .ok (.aload_n 0, 1) := by decide +kernel
theorem dX0_awakeStations_6 : decode cX0_awakeStations 6 = .ok (.getfield 49, 3) := by decide +kernel
theorem dX0_awakeStations_9 : decode cX0_awakeStations 9 = .ok (.if_icmp .ge 27, 3) := by decide +kernel
theorem dX0_awakeStations_12 : decode cX0_awakeStations 12 = .ok (.aload_n 0, 1) := by decide +kernel
theorem dX0_awakeStations_13 : decode cX0_awakeStations 13 = .ok (.getfield 34, 3) := by decide +kernel
theorem dX0_awakeStations_16 : decode cX0_awakeStations 16 = .ok (.iload_n 2, 1) := by decide +kernel
theorem dX0_awakeStations_17 : decode cX0_awakeStations 17 = .ok (.aaload, 1) := by decide +kernel
theorem dX0_awakeStations_18 : decode cX0_awakeStations 18 = .ok (.invokevirtual 151, 3) := by decide +kernel
theorem dX0_awakeStations_21 : decode cX0_awakeStations 21 = .ok (.ifCond .eq 9, 3) := by decide +kernel
theorem dX0_awakeStations_24 : decode cX0_awakeStations 24 = .ok (.iload_n 1, 1) := by decide +kernel
theorem dX0_awakeStations_25 : decode cX0_awakeStations 25 = .ok (.iconst 1, 1) := by decide +kernel
theorem dX0_awakeStations_26 : decode cX0_awakeStations 26 = .ok (.iload_n 2, 1) := by decide +kernel
theorem dX0_awakeStations_27 : decode cX0_awakeStations 27 = .ok (.ishl, 1) := by decide +kernel
theorem dX0_awakeStations_28 : decode cX0_awakeStations 28 = .ok (.ior, 1) := by decide +kernel
theorem dX0_awakeStations_29 : decode cX0_awakeStations 29 = .ok (.istore_n 1, 1) := by decide +kernel
theorem dX0_awakeStations_30 : decode cX0_awakeStations 30 = .ok (.iinc 2 1, 3) := by decide +kernel
theorem dX0_awakeStations_33 : decode cX0_awakeStations 33 = .ok (.goto (-29), 3) := by decide +kernel
theorem dX0_awakeStations_36 : decode cX0_awakeStations 36 = .ok (.iload_n 1, 1) := by decide +kernel
theorem dX0_awakeStations_37 : decode cX0_awakeStations 37 = .ok (.ireturn, 1) := by decide +kernel
theorem dX0_hasWords_0 : decode cX0_hasWords 0 = .ok (.iconst 0, 1) := by decide +kernel
theorem dX0_hasWords_1 : decode cX0_hasWords 1 = .ok (.istore_n 1, 1) := by decide +kernel
theorem dX0_hasWords_2 : decode cX0_hasWords 2 = .ok (.iload_n 1, 1) := by decide +kernel
theorem dX0_hasWords_3 : decode cX0_hasWords 3 = .ok (.aload_n 0, 1) := by decide +kernel
theorem dX0_hasWords_4 : decode cX0_hasWords 4 = .ok (.getfield 49, 3) := by decide +kernel
theorem dX0_hasWords_7 : decode cX0_hasWords 7 = .ok (.if_icmp .ge 26, 3) := by decide +kernel
theorem dX0_hasWords_10 : decode cX0_hasWords 10 = .ok (.aload_n 0, 1) := by decide +kernel
theorem dX0_hasWords_11 : decode cX0_hasWords 11 = .ok (.getfield 34, 3) := by decide +kernel
theorem dX0_hasWords_14 : decode cX0_hasWords 14 = .ok (.iload_n 1, 1) := by decide +kernel
theorem dX0_hasWords_15 : decode cX0_hasWords 15 = .ok (.aaload, 1) := by decide +kernel
theorem dX0_hasWords_16 : decode cX0_hasWords 16 = .ok (.getfield 91, 3) := by decide +kernel
theorem dX0_hasWords_19 : decode cX0_hasWords 19 = .ok (.getfield 95, 3) := by decide +kernel
theorem dX0_hasWords_22 : decode cX0_hasWords 22 = .ok (.ifCond .le 5, 3) := by decide +kernel
theorem dX0_hasWords_25 : decode cX0_hasWords 25 = .ok (.iconst 1, 1) := by decide +kernel
theorem dX0_hasWords_26 : decode cX0_hasWords 26 = .ok (.ireturn, 1) := by decide +kernel
theorem dX0_hasWords_27 : decode cX0_hasWords 27 = .ok (.iinc 1 1, 3) := by decide +kernel
theorem dX0_hasWords_30 : decode cX0_hasWords 30 = .ok (.goto (-28), 3) := by decide +kernel
theorem dX0_hasWords_33 : decode cX0_hasWords 33 = .ok (.iconst 0, 1) := by decide +kernel
theorem dX0_hasWords_34 : decode cX0_hasWords 34 = .ok (.ireturn, 1) := by decide +kernel
theorem dX0_waitingFor_0 : decode cX0_waitingFor 0 = .ok (.iconst 0, 1) := by decide +kernel
theorem dX0_waitingFor_1 : decode cX0_waitingFor 1 = .ok (.istore_n 2, 1) := by decide +kernel
theorem dX0_waitingFor_2 : decode cX0_waitingFor 2 = .ok (.iconst 0, 1) := by decide +kernel
theorem dX0_waitingFor_3 : decode cX0_waitingFor 3 = .ok (.istore_n 3, 1) := by decide +kernel
theorem dX0_waitingFor_4 : decode cX0_waitingFor 4 = .ok (.iload_n 3, 1) := by decide +kernel
theorem dX0_waitingFor_5 : decode cX0_waitingFor 5 = .ok (.aload_n 0, 1) := by decide +kernel
theorem dX0_waitingFor_6 : decode cX0_waitingFor 6 = .ok (.getfield 49, 3) := by decide +kernel
theorem dX0_waitingFor_9 : decode cX0_waitingFor 9 = .ok (.if_icmp .ge 25, 3) := by decide +kernel
theorem dX0_waitingFor_12 : decode cX0_waitingFor 12 = .ok (.iload_n 2, 1) := by decide +kernel
theorem dX0_waitingFor_13 : decode cX0_waitingFor 13 = .ok (.aload_n 0, 1) := by decide +kernel
theorem dX0_waitingFor_14 : decode cX0_waitingFor 14 = .ok (.getfield 34, 3) := by decide +kernel
theorem dX0_waitingFor_17 : decode cX0_waitingFor 17 = .ok (.iload_n 3, 1) := by decide +kernel
theorem dX0_waitingFor_18 : decode cX0_waitingFor 18 = .ok (.aaload, 1) := by decide +kernel
theorem dX0_waitingFor_19 : decode cX0_waitingFor 19 = .ok (.getfield 91, 3) := by decide +kernel
theorem dX0_waitingFor_22 : decode cX0_waitingFor 22 = .ok (.iload_n 1, 1) := by decide +kernel
theorem dX0_waitingFor_23 : decode cX0_waitingFor 23 = .ok (.invokevirtual 219, 3) := by decide +kernel
theorem dX0_waitingFor_26 : decode cX0_waitingFor 26 = .ok (.iadd, 1) := by decide +kernel
theorem dX0_waitingFor_27 : decode cX0_waitingFor 27 = .ok (.istore_n 2, 1) := by decide +kernel
theorem dX0_waitingFor_28 : decode cX0_waitingFor 28 = .ok (.iinc 3 1, 3) := by decide +kernel
theorem dX0_waitingFor_31 : decode cX0_waitingFor 31 = .ok (.goto (-27), 3) := by decide +kernel
theorem dX0_waitingFor_34 : decode cX0_waitingFor 34 = .ok (.iload_n 2, 1) := by decide +kernel
theorem dX0_waitingFor_35 : decode cX0_waitingFor 35 = .ok (.ireturn, 1) := by decide +kernel
theorem dX0_sumOf_0 : decode cX0_sumOf 0 = .ok (.iconst 0, 1) := by decide +kernel
theorem dX0_sumOf_1 : decode cX0_sumOf 1 = .ok (.istore_n 2, 1) := by decide +kernel
theorem dX0_sumOf_2 : decode cX0_sumOf 2 = .ok (.iconst 0, 1) := by decide +kernel
theorem dX0_sumOf_3 : decode cX0_sumOf 3 = .ok (.istore_n 3, 1) := by decide +kernel
theorem dX0_sumOf_4 : decode cX0_sumOf 4 = .ok (.iload_n 3, 1) := by decide +kernel
theorem dX0_sumOf_5 : decode cX0_sumOf 5 = .ok (.aload_n 0, 1) := by decide +kernel
theorem dX0_sumOf_6 : decode cX0_sumOf 6 = .ok (.getfield 49, 3) := by decide +kernel
theorem dX0_sumOf_9 : decode cX0_sumOf 9 = .ok (.if_icmp .ge 22, 3) := by decide +kernel
theorem dX0_sumOf_12 : decode cX0_sumOf 12 = .ok (.iload_n 2, 1) := by decide +kernel
theorem dX0_sumOf_13 : decode cX0_sumOf 13 = .ok (.aload_n 0, 1) := by decide +kernel
theorem dX0_sumOf_14 : decode cX0_sumOf 14 = .ok (.getfield 34, 3) := by decide +kernel
theorem dX0_sumOf_17 : decode cX0_sumOf 17 = .ok (.iload_n 3, 1) := by decide +kernel
theorem dX0_sumOf_18 : decode cX0_sumOf 18 = .ok (.aaload, 1) := by decide +kernel
theorem dX0_sumOf_19 : decode cX0_sumOf 19 = .ok (.iload_n 1, 1) := by decide +kernel
theorem dX0_sumOf_20 : decode cX0_sumOf 20 = .ok (.invokevirtual 222, 3) := by decide +kernel
theorem dX0_sumOf_23 : decode cX0_sumOf 23 = .ok (.iadd, 1) := by decide +kernel
theorem dX0_sumOf_24 : decode cX0_sumOf 24 = .ok (.istore_n 2, 1) := by decide +kernel
theorem dX0_sumOf_25 : decode cX0_sumOf 25 = .ok (.iinc 3 1, 3) := by decide +kernel
theorem dX0_sumOf_28 : decode cX0_sumOf 28 = .ok (.goto (-24), 3) := by decide +kernel
theorem dX0_sumOf_31 : decode cX0_sumOf 31 = .ok (.iload_n 2, 1) := by decide +kernel
theorem dX0_sumOf_32 : decode cX0_sumOf 32 = .ok (.ireturn, 1) := by decide +kernel
theorem dX1_init_0 : decode cX1_init 0 = .ok (.aload_n 0, 1) := by decide +kernel
theorem dX1_init_1 : decode cX1_init 1 = .ok (.invokespecial 3, 3) := by decide +kernel
theorem dX1_init_4 : decode cX1_init 4 = .ok (.aload_n 0, 1) := by decide +kernel
theorem dX1_init_5 : decode cX1_init 5 = .ok (.bipush 7, 2) := by decide +kernel
theorem dX1_init_7 : decode cX1_init 7 = .ok (.anewarray 9, 3) := by decide +kernel
theorem dX1_init_10 : decode cX1_init 10 = .ok (.putfield 11, 3) := by decide +kernel
theorem dX1_init_13 : decode cX1_init 13 = .ok (.iconst 0, 1) := by decide +kernel
theorem dX1_init_14 : decode cX1_init 14 = .ok (.istore_n 1, 1) := by decide +kernel
theorem dX1_init_15 : decode cX1_init 15 = .ok (.iload_n 1, 1) := by decide +kernel
theorem dX1_init_16 : decode cX1_init 16 = .ok (.bipush 6, 2) := by decide +kernel
theorem dX1_init_18 : decode cX1_init 18 = .ok (.if_icmp .gt 22, 3) := by decide +kernel
theorem dX1_init_21 : decode cX1_init 21 = .ok (.aload_n 0, 1) := by decide +kernel
theorem dX1_init_22 : decode cX1_init 22 = .ok (.getfield 11, 3) := by decide +kernel
theorem dX1_init_25 : decode cX1_init 25 = .ok (.iload_n 1, 1) := by decide +kernel
theorem dX1_init_26 : decode cX1_init 26 = .ok (.new 9, 3) := by decide +kernel
theorem dX1_init_29 : decode cX1_init 29 = .ok (.dup, 1) := by decide +kernel
theorem dX1_init_30 : decode cX1_init 30 = .ok (.invokespecial 17, 3) := by decide +kernel
theorem dX1_init_33 : decode cX1_init 33 = .ok (.aastore, 1) := by decide +kernel
theorem dX1_init_34 : decode cX1_init 34 = .ok (.iinc 1 1, 3) := by decide +kernel
theorem dX1_init_37 : decode cX1_init 37 = .ok (.goto (-22), 3) := by decide +kernel
theorem dX1_init_40 : decode cX1_init 40 = .ok (.return_, 1) := by decide +kernel
theorem dX1_prepare_0 : decode cX1_prepare 0 = .ok (.aload_n 0, 1) := by decide +kernel
theorem dX1_prepare_1 : decode cX1_prepare 1 = .ok (.getfield 11, 3) := by decide +kernel
theorem dX1_prepare_4 : decode cX1_prepare 4 = .ok (.aload_n 0, 1) := by decide +kernel
theorem dX1_prepare_5 : decode cX1_prepare 5 = .ok (.getfield 18, 3) := by decide +kernel
theorem dX1_prepare_8 : decode cX1_prepare 8 = .ok (.aaload, 1) := by decide +kernel
theorem dX1_prepare_9 : decode cX1_prepare 9 = .ok (.aload_n 1, 1) := by decide +kernel
theorem dX1_prepare_10 : decode cX1_prepare 10 = .ok (.invokevirtual 22, 3) := by decide +kernel
theorem dX1_prepare_13 : decode cX1_prepare 13 = .ok (.return_, 1) := by decide +kernel
theorem dX1_keep_0 : decode cX1_keep 0 = .ok (.iload_n 1, 1) := by decide +kernel
theorem dX1_keep_1 : decode cX1_keep 1 = .ok (.ifCond .ge 5, 3) := by decide +kernel
theorem dX1_keep_4 : decode cX1_keep 4 = .ok (.iload_n 1, 1) := by decide +kernel
theorem dX1_keep_5 : decode cX1_keep 5 = .ok (.ireturn, 1) := by decide +kernel
theorem dX1_keep_6 : decode cX1_keep 6 = .ok (.aload_n 0, 1) := by decide +kernel
theorem dX1_keep_7 : decode cX1_keep 7 = .ok (.aload_n 0, 1) := by decide +kernel
theorem dX1_keep_8 : decode cX1_keep 8 = .ok (.getfield 18, 3) := by decide +kernel
theorem dX1_keep_11 : decode cX1_keep 11 = .ok (.bipush 6, 2) := by decide +kernel
theorem dX1_keep_13 : decode cX1_keep 13 = .ok (.if_icmp .ge 12, 3) := by decide +kernel
theorem dX1_keep_16 : decode cX1_keep 16 = .ok (.aload_n 0, 1) := by decide +kernel
theorem dX1_keep_17 : decode cX1_keep 17 = .ok (.getfield 18, 3) := by decide +kernel
theorem dX1_keep_20 : decode cX1_keep 20 = .ok (.iconst 1, 1) := by decide +kernel
theorem dX1_keep_21 : decode cX1_keep 21 = .ok (.iadd, 1) := by decide +kernel
theorem dX1_keep_22 : decode cX1_keep 22 = .ok (.goto 4, 3) := by decide +kernel
theorem dX1_keep_25 : decode cX1_keep 25 = .ok (.iconst 0, 1) := by decide +kernel
theorem dX1_keep_26 : decode cX1_keep 26 = .ok (.putfield 18, 3) := by decide +kernel
theorem dX1_keep_29 : decode cX1_keep 29 = .ok (.aload_n 0, 1) := by decide +kernel
theorem dX1_keep_30 : decode cX1_keep 30 = .ok (.aload_n 0, 1) := by decide +kernel
theorem dX1_keep_31 : decode cX1_keep 31 = .ok (.getfield 26, 3) := by decide +kernel
theorem dX1_keep_34 : decode cX1_keep 34 = .ok (.iconst 1, 1) := by decide +kernel
theorem dX1_keep_35 : decode cX1_keep 35 = .ok (.iadd, 1) := by decide +kernel
theorem dX1_keep_36 : decode cX1_keep 36 = .ok (.bipush 6, 2) := by decide +kernel
theorem dX1_keep_38 : decode cX1_keep 38 = .ok (.invokestatic 29, 3) := by decide +kernel
theorem dX1_keep_41 : decode cX1_keep 41 = .ok (.putfield 26, 3) := by decide +kernel
theorem dX1_keep_44 : decode cX1_keep 44 = .ok (.iload_n 1, 1) := by decide +kernel
theorem dX1_keep_45 : decode cX1_keep 45 = .ok (.ireturn, 1) := by decide +kernel
theorem dX2_init_0 : decode cX2_init 0 = .ok (.aload_n 0, 1) := by decide +kernel
theorem dX2_init_1 : decode cX2_init 1 = .ok (.invokespecial 3, 3) := by decide +kernel
theorem dX2_init_4 : decode cX2_init 4 = .ok (.aload_n 0, 1) := by decide +kernel
theorem dX2_init_5 : decode cX2_init 5 = .ok (.bipush 16, 2) := by decide +kernel
theorem dX2_init_7 : decode cX2_init 7 = .ok (.newarray .int, 2) := by decide +kernel
theorem dX2_init_9 : decode cX2_init 9 = .ok (.putfield 9, 3) := by decide +kernel
theorem dX2_init_12 : decode cX2_init 12 = .ok (.return_, 1) := by decide +kernel
theorem dX2_copyFrom_0 : decode cX2_copyFrom 0 = .ok (.aload_n 1, 1) := by decide +kernel
theorem dX2_copyFrom_1 : decode cX2_copyFrom 1 = .ok (.getfield 9, 3) := by decide +kernel
theorem dX2_copyFrom_4 : decode cX2_copyFrom 4 = .ok (.aload_n 0, 1) := by decide +kernel
theorem dX2_copyFrom_5 : decode cX2_copyFrom 5 = .ok (.getfield 9, 3) := by decide +kernel
theorem dX2_copyFrom_8 : decode cX2_copyFrom 8 = .ok (.invokestatic 15, 3) := by decide +kernel
theorem dX2_copyFrom_11 : decode cX2_copyFrom 11 = .ok (.aload_n 0, 1) := by decide +kernel
theorem dX2_copyFrom_12 : decode cX2_copyFrom 12 = .ok (.aload_n 1, 1) := by decide +kernel
theorem dX2_copyFrom_13 : decode cX2_copyFrom 13 = .ok (.getfield 19, 3) := by decide +kernel
theorem dX2_copyFrom_16 : decode cX2_copyFrom 16 = .ok (.putfield 19, 3) := by decide +kernel
theorem dX2_copyFrom_19 : decode cX2_copyFrom 19 = .ok (.return_, 1) := by decide +kernel
theorem dX2_has_0 : decode cX2_has 0 = .ok (.iload_n 1, 1) := by decide +kernel
theorem dX2_has_1 : decode cX2_has 1 = .ok (.ifCond .lt 20, 3) := by decide +kernel
theorem dX2_has_4 : decode cX2_has 4 = .ok (.iload_n 1, 1) := by decide +kernel
theorem dX2_has_5 : decode cX2_has 5 = .ok (.aload_n 0, 1) := by decide +kernel
theorem dX2_has_6 : decode cX2_has 6 = .ok (.getfield 19, 3) := by decide +kernel
theorem dX2_has_9 : decode cX2_has 9 = .ok (.if_icmp .ge 12, 3) := by decide +kernel
theorem dX2_has_12 : decode cX2_has 12 = .ok (.iload_n 1, 1) := by decide +kernel
theorem dX2_has_13 : decode cX2_has 13 = .ok (.iconst 4, 1) := by decide +kernel
theorem dX2_has_14 : decode cX2_has 14 = .ok (.if_icmp .ge 7, 3) := by decide +kernel
theorem dX2_has_17 : decode cX2_has 17 = .ok (.iconst 1, 1) := by decide +kernel
theorem dX2_has_18 : decode cX2_has 18 = .ok (.goto 4, 3) := by decide +kernel
theorem dX2_has_21 : decode cX2_has 21 = .ok (.iconst 0, 1) := by decide +kernel
theorem dX2_has_22 : decode cX2_has 22 = .ok (.ireturn, 1) := by decide +kernel
theorem dX2_fact_0 : decode cX2_fact 0 = .ok (.aload_n 0, 1) := by decide +kernel
theorem dX2_fact_1 : decode cX2_fact 1 = .ok (.iload_n 1, 1) := by decide +kernel
theorem dX2_fact_2 : decode cX2_fact 2 = .ok (.invokevirtual 23, 3) := by decide +kernel
theorem dX2_fact_5 : decode cX2_fact 5 = .ok (.ifCond .ne 5, 3) := by decide +kernel
theorem dX2_fact_10 : decode cX2_fact 10 = .ok (.iload_n 2, 1) := by decide +kernel
theorem dX2_fact_11 : decode cX2_fact 11 = .ok (.ifCond .lt 8, 3) := by decide +kernel
theorem dX2_fact_14 : decode cX2_fact 14 = .ok (.iload_n 2, 1) := by decide +kernel
theorem dX2_fact_15 : decode cX2_fact 15 = .ok (.iconst 4, 1) := by decide +kernel
theorem dX2_fact_16 : decode cX2_fact 16 = .ok (.if_icmp .lt 6, 3) := by decide +kernel
theorem dX2_fact_19 : decode cX2_fact 19 = .ok (.bipush (-2), 2) := by decide +kernel
theorem dX2_fact_21 : decode cX2_fact 21 = .ok (.ireturn, 1) := by decide +kernel
theorem dX2_fact_22 : decode cX2_fact 22 = .ok (.aload_n 0, 1) := by decide +kernel
theorem dX2_fact_23 : decode cX2_fact 23 = .ok (.getfield 9, 3) := by decide +kernel
theorem dX2_fact_26 : decode cX2_fact 26 = .ok (.iload_n 1, 1) := by decide +kernel
theorem dX2_fact_27 : decode cX2_fact 27 = .ok (.iconst 4, 1) := by decide +kernel
theorem dX2_fact_28 : decode cX2_fact 28 = .ok (.imul, 1) := by decide +kernel
theorem dX2_fact_29 : decode cX2_fact 29 = .ok (.iload_n 2, 1) := by decide +kernel
theorem dX2_fact_30 : decode cX2_fact 30 = .ok (.iadd, 1) := by decide +kernel
theorem dX2_fact_31 : decode cX2_fact 31 = .ok (.iaload, 1) := by decide +kernel
theorem dX2_fact_32 : decode cX2_fact 32 = .ok (.ireturn, 1) := by decide +kernel
theorem dX2_add_0 : decode cX2_add 0 = .ok (.aload_n 0, 1) := by decide +kernel
theorem dX2_add_1 : decode cX2_add 1 = .ok (.getfield 9, 3) := by decide +kernel
theorem dX2_add_4 : decode cX2_add 4 = .ok (.iconst 0, 1) := by decide +kernel
theorem dX2_add_5 : decode cX2_add 5 = .ok (.aload_n 0, 1) := by decide +kernel
theorem dX2_add_6 : decode cX2_add 6 = .ok (.getfield 9, 3) := by decide +kernel
theorem dX2_add_9 : decode cX2_add 9 = .ok (.iconst 4, 1) := by decide +kernel
theorem dX2_add_10 : decode cX2_add 10 = .ok (.bipush 12, 2) := by decide +kernel
theorem dX2_add_12 : decode cX2_add 12 = .ok (.invokestatic 27, 3) := by decide +kernel
theorem dX2_add_15 : decode cX2_add 15 = .ok (.aload_n 0, 1) := by decide +kernel
theorem dX2_add_16 : decode cX2_add 16 = .ok (.getfield 9, 3) := by decide +kernel
theorem dX2_add_19 : decode cX2_add 19 = .ok (.iconst 0, 1) := by decide +kernel
theorem dX2_add_20 : decode cX2_add 20 = .ok (.iload_n 1, 1) := by decide +kernel
theorem dX2_add_21 : decode cX2_add 21 = .ok (.iastore, 1) := by decide +kernel
theorem dX2_add_22 : decode cX2_add 22 = .ok (.aload_n 0, 1) := by decide +kernel
theorem dX2_add_23 : decode cX2_add 23 = .ok (.getfield 9, 3) := by decide +kernel
theorem dX2_add_26 : decode cX2_add 26 = .ok (.iconst 1, 1) := by decide +kernel
theorem dX2_add_27 : decode cX2_add 27 = .ok (.iload_n 2, 1) := by decide +kernel
theorem dX2_add_28 : decode cX2_add 28 = .ok (.iastore, 1) := by decide +kernel
theorem dX2_add_29 : decode cX2_add 29 = .ok (.aload_n 0, 1) := by decide +kernel
theorem dX2_add_30 : decode cX2_add 30 = .ok (.getfield 9, 3) := by decide +kernel
theorem dX2_add_33 : decode cX2_add 33 = .ok (.iconst 2, 1) := by decide +kernel
theorem dX2_add_34 : decode cX2_add 34 = .ok (.iload_n 3, 1) := by decide +kernel
theorem dX2_add_35 : decode cX2_add 35 = .ok (.iastore, 1) := by decide +kernel
theorem dX2_add_36 : decode cX2_add 36 = .ok (.aload_n 0, 1) := by decide +kernel
theorem dX2_add_37 : decode cX2_add 37 = .ok (.getfield 9, 3) := by decide +kernel
theorem dX2_add_40 : decode cX2_add 40 = .ok (.iconst 3, 1) := by decide +kernel
theorem dX2_add_41 : decode cX2_add 41 = .ok (.iload 4, 2) := by decide +kernel
theorem dX2_add_43 : decode cX2_add 43 = .ok (.iastore, 1) := by decide +kernel
theorem dX2_add_44 : decode cX2_add 44 = .ok (.aload_n 0, 1) := by decide +kernel
theorem dX2_add_45 : decode cX2_add 45 = .ok (.aload_n 0, 1) := by decide +kernel
theorem dX2_add_46 : decode cX2_add 46 = .ok (.getfield 19, 3) := by decide +kernel
theorem dX2_add_49 : decode cX2_add 49 = .ok (.iconst 1, 1) := by decide +kernel
theorem dX2_add_50 : decode cX2_add 50 = .ok (.iadd, 1) := by decide +kernel
theorem dX2_add_51 : decode cX2_add 51 = .ok (.iconst 4, 1) := by decide +kernel
theorem dX2_add_52 : decode cX2_add 52 = .ok (.invokestatic 33, 3) := by decide +kernel
theorem dX2_add_55 : decode cX2_add 55 = .ok (.putfield 19, 3) := by decide +kernel
theorem dX2_add_58 : decode cX2_add 58 = .ok (.return_, 1) := by decide +kernel
theorem dX3_init_0 : decode cX3_init 0 = .ok (.aload_n 0, 1) := by decide +kernel
theorem dX3_init_1 : decode cX3_init 1 = .ok (.invokespecial 3, 3) := by decide +kernel
theorem dX3_init_4 : decode cX3_init 4 = .ok (.aload_n 0, 1) := by decide +kernel
theorem dX3_init_5 : decode cX3_init 5 = .ok (.bipush 80, 2) := by decide +kernel
theorem dX3_init_7 : decode cX3_init 7 = .ok (.newarray .char, 2) := by decide +kernel
theorem dX3_init_9 : decode cX3_init 9 = .ok (.putfield 9, 3) := by decide +kernel
theorem dX3_init_12 : decode cX3_init 12 = .ok (.return_, 1) := by decide +kernel
theorem dX4_init_0 : decode cX4_init 0 = .ok (.aload_n 0, 1) := by decide +kernel
theorem dX4_init_1 : decode cX4_init 1 = .ok (.invokespecial 3, 3) := by decide +kernel
theorem dX4_init_4 : decode cX4_init 4 = .ok (.aload_n 0, 1) := by decide +kernel
theorem dX4_init_5 : decode cX4_init 5 = .ok (.aload_n 1, 1) := by decide +kernel
theorem dX4_init_6 : decode cX4_init 6 = .ok (.putfield 9, 3) := by decide +kernel
theorem dX4_init_9 : decode cX4_init 9 = .ok (.return_, 1) := by decide +kernel
theorem dX5_init_0 : decode cX5_init 0 = .ok (.aload_n 0, 1) := by decide +kernel
theorem dX5_init_1 : decode cX5_init 1 = .ok (.invokespecial 3, 3) := by decide +kernel
theorem dX5_init_4 : decode cX5_init 4 = .ok (.aload_n 0, 1) := by decide +kernel
theorem dX5_init_5 : decode cX5_init 5 = .ok (.iconst 4, 1) := by decide +kernel
theorem dX5_init_6 : decode cX5_init 6 = .ok (.newarray .int, 2) := by decide +kernel
theorem dX5_init_8 : decode cX5_init 8 = .ok (.putfield 9, 3) := by decide +kernel
theorem dX5_init_11 : decode cX5_init 11 = .ok (.aload_n 0, 1) := by decide +kernel
theorem dX5_init_12 : decode cX5_init 12 = .ok (.iconst 4, 1) := by decide +kernel
theorem dX5_init_13 : decode cX5_init 13 = .ok (.newarray .int, 2) := by decide +kernel
theorem dX5_init_15 : decode cX5_init 15 = .ok (.putfield 15, 3) := by decide +kernel
theorem dX5_init_18 : decode cX5_init 18 = .ok (.aload_n 0, 1) := by decide +kernel
theorem dX5_init_19 : decode cX5_init 19 = .ok (.iconst 4, 1) := by decide +kernel
theorem dX5_init_20 : decode cX5_init 20 = .ok (.newarray .int, 2) := by decide +kernel
theorem dX5_init_22 : decode cX5_init 22 = .ok (.putfield 18, 3) := by decide +kernel
theorem dX5_init_25 : decode cX5_init 25 = .ok (.return_, 1) := by decide +kernel
theorem dX5_copyFrom_0 : decode cX5_copyFrom 0 = .ok (.aload_n 1, 1) := by decide +kernel
theorem dX5_copyFrom_1 : decode cX5_copyFrom 1 = .ok (.getfield 9, 3) := by decide +kernel
theorem dX5_copyFrom_4 : decode cX5_copyFrom 4 = .ok (.aload_n 0, 1) := by decide +kernel
theorem dX5_copyFrom_5 : decode cX5_copyFrom 5 = .ok (.getfield 9, 3) := by decide +kernel
theorem dX5_copyFrom_8 : decode cX5_copyFrom 8 = .ok (.invokestatic 21, 3) := by decide +kernel
theorem dX5_copyFrom_11 : decode cX5_copyFrom 11 = .ok (.aload_n 1, 1) := by decide +kernel
theorem dX5_copyFrom_12 : decode cX5_copyFrom 12 = .ok (.getfield 15, 3) := by decide +kernel
theorem dX5_copyFrom_15 : decode cX5_copyFrom 15 = .ok (.aload_n 0, 1) := by decide +kernel
theorem dX5_copyFrom_16 : decode cX5_copyFrom 16 = .ok (.getfield 15, 3) := by decide +kernel
theorem dX5_copyFrom_19 : decode cX5_copyFrom 19 = .ok (.invokestatic 21, 3) := by decide +kernel
theorem dX5_copyFrom_22 : decode cX5_copyFrom 22 = .ok (.aload_n 1, 1) := by decide +kernel
theorem dX5_copyFrom_23 : decode cX5_copyFrom 23 = .ok (.getfield 18, 3) := by decide +kernel
theorem dX5_copyFrom_26 : decode cX5_copyFrom 26 = .ok (.aload_n 0, 1) := by decide +kernel
theorem dX5_copyFrom_27 : decode cX5_copyFrom 27 = .ok (.getfield 18, 3) := by decide +kernel
theorem dX5_copyFrom_30 : decode cX5_copyFrom 30 = .ok (.invokestatic 21, 3) := by decide +kernel
theorem dX5_copyFrom_33 : decode cX5_copyFrom 33 = .ok (.aload_n 0, 1) := by decide +kernel
theorem dX5_copyFrom_34 : decode cX5_copyFrom 34 = .ok (.aload_n 1, 1) := by decide +kernel
theorem dX5_copyFrom_35 : decode cX5_copyFrom 35 = .ok (.getfield 25, 3) := by decide +kernel
theorem dX5_copyFrom_38 : decode cX5_copyFrom 38 = .ok (.putfield 25, 3) := by decide +kernel
theorem dX5_copyFrom_41 : decode cX5_copyFrom 41 = .ok (.return_, 1) := by decide +kernel
theorem dX5_has_0 : decode cX5_has 0 = .ok (.iload_n 1, 1) := by decide +kernel
theorem dX5_has_1 : decode cX5_has 1 = .ok (.ifCond .lt 20, 3) := by decide +kernel
theorem dX5_has_4 : decode cX5_has 4 = .ok (.iload_n 1, 1) := by decide +kernel
theorem dX5_has_5 : decode cX5_has 5 = .ok (.aload_n 0, 1) := by decide +kernel
theorem dX5_has_6 : decode cX5_has 6 = .ok (.getfield 25, 3) := by decide +kernel
theorem dX5_has_9 : decode cX5_has 9 = .ok (.if_icmp .ge 12, 3) := by decide +kernel
theorem dX5_has_12 : decode cX5_has 12 = .ok (.iload_n 1, 1) := by decide +kernel
theorem dX5_has_13 : decode cX5_has 13 = .ok (.iconst 4, 1) := by decide +kernel
theorem dX5_has_14 : decode cX5_has 14 = .ok (.if_icmp .ge 7, 3) := by decide +kernel
theorem dX5_has_17 : decode cX5_has 17 = .ok (.iconst 1, 1) := by decide +kernel
theorem dX5_has_18 : decode cX5_has 18 = .ok (.goto 4, 3) := by decide +kernel
theorem dX5_has_21 : decode cX5_has 21 = .ok (.iconst 0, 1) := by decide +kernel
theorem dX5_has_22 : decode cX5_has 22 = .ok (.ireturn, 1) := by decide +kernel
theorem dX5_numberAt_0 : decode cX5_numberAt 0 = .ok (.aload_n 0, 1) := by decide +kernel
theorem dX5_numberAt_1 : decode cX5_numberAt 1 = .ok (.iload_n 1, 1) := by decide +kernel
theorem dX5_numberAt_2 : decode cX5_numberAt 2 = .ok (.invokevirtual 29, 3) := by decide +kernel
theorem dX5_numberAt_5 : decode cX5_numberAt 5 = .ok (.ifCond .eq 12, 3) := by decide +kernel
theorem dX5_numberAt_8 : decode cX5_numberAt 8 = .ok (.aload_n 0, 1) := by decide +kernel
theorem dX5_numberAt_9 : decode cX5_numberAt 9 = .ok (.getfield 9, 3) := by decide +kernel
theorem dX5_numberAt_12 : decode cX5_numberAt 12 = .ok (.iload_n 1, 1) := by decide +kernel
theorem dX5_numberAt_13 : decode cX5_numberAt 13 = .ok (.iaload, 1) := by decide +kernel
theorem dX5_numberAt_14 : decode cX5_numberAt 14 = .ok (.goto 5, 3) := by decide +kernel
theorem dX5_numberAt_17 : decode cX5_numberAt 17 = .ok (.bipush (-6), 2) := by decide +kernel
theorem dX5_numberAt_19 : decode cX5_numberAt 19 = .ok (.ireturn, 1) := by decide +kernel
theorem dX5_wireAt_0 : decode cX5_wireAt 0 = .ok (.aload_n 0, 1) := by decide +kernel
theorem dX5_wireAt_1 : decode cX5_wireAt 1 = .ok (.iload_n 1, 1) := by decide +kernel
theorem dX5_wireAt_2 : decode cX5_wireAt 2 = .ok (.invokevirtual 29, 3) := by decide +kernel
theorem dX5_wireAt_5 : decode cX5_wireAt 5 = .ok (.ifCond .eq 12, 3) := by decide +kernel
theorem dX5_wireAt_8 : decode cX5_wireAt 8 = .ok (.aload_n 0, 1) := by decide +kernel
theorem dX5_wireAt_9 : decode cX5_wireAt 9 = .ok (.getfield 15, 3) := by decide +kernel
theorem dX5_wireAt_12 : decode cX5_wireAt 12 = .ok (.iload_n 1, 1) := by decide +kernel
theorem dX5_wireAt_13 : decode cX5_wireAt 13 = .ok (.iaload, 1) := by decide +kernel
theorem dX5_wireAt_14 : decode cX5_wireAt 14 = .ok (.goto 5, 3) := by decide +kernel
theorem dX5_wireAt_17 : decode cX5_wireAt 17 = .ok (.bipush (-6), 2) := by decide +kernel
theorem dX5_wireAt_19 : decode cX5_wireAt 19 = .ok (.ireturn, 1) := by decide +kernel
theorem dX5_triesAt_0 : decode cX5_triesAt 0 = .ok (.aload_n 0, 1) := by decide +kernel
theorem dX5_triesAt_1 : decode cX5_triesAt 1 = .ok (.iload_n 1, 1) := by decide +kernel
theorem dX5_triesAt_2 : decode cX5_triesAt 2 = .ok (.invokevirtual 29, 3) := by decide +kernel
theorem dX5_triesAt_5 : decode cX5_triesAt 5 = .ok (.ifCond .eq 12, 3) := by decide +kernel
theorem dX5_triesAt_8 : decode cX5_triesAt 8 = .ok (.aload_n 0, 1) := by decide +kernel
theorem dX5_triesAt_9 : decode cX5_triesAt 9 = .ok (.getfield 18, 3) := by decide +kernel
theorem dX5_triesAt_12 : decode cX5_triesAt 12 = .ok (.iload_n 1, 1) := by decide +kernel
theorem dX5_triesAt_13 : decode cX5_triesAt 13 = .ok (.iaload, 1) := by decide +kernel
theorem dX5_triesAt_14 : decode cX5_triesAt 14 = .ok (.goto 5, 3) := by decide +kernel
theorem dX5_triesAt_17 : decode cX5_triesAt 17 = .ok (.bipush (-6), 2) := by decide +kernel
theorem dX5_triesAt_19 : decode cX5_triesAt 19 = .ok (.ireturn, 1) := by decide +kernel
theorem dX5_countFor_0 : decode cX5_countFor 0 = .ok (.iconst 0, 1) := by decide +kernel
theorem dX5_countFor_1 : decode cX5_countFor 1 = .ok (.istore_n 2, 1) := by decide +kernel
theorem dX5_countFor_2 : decode cX5_countFor 2 = .ok (.iconst 0, 1) := by decide +kernel
theorem dX5_countFor_3 : decode cX5_countFor 3 = .ok (.istore_n 3, 1) := by decide +kernel
theorem dX5_countFor_4 : decode cX5_countFor 4 = .ok (.iload_n 3, 1) := by decide +kernel
theorem dX5_countFor_5 : decode cX5_countFor 5 = .ok (.aload_n 0, 1) := by decide +kernel
theorem dX5_countFor_6 : decode cX5_countFor 6 = .ok (.getfield 25, 3) := by decide +kernel
theorem dX5_countFor_9 : decode cX5_countFor 9 = .ok (.if_icmp .ge 21, 3) := by decide +kernel
theorem dX5_countFor_12 : decode cX5_countFor 12 = .ok (.aload_n 0, 1) := by decide +kernel
theorem dX5_countFor_13 : decode cX5_countFor 13 = .ok (.iload_n 3, 1) := by decide +kernel
theorem dX5_countFor_14 : decode cX5_countFor 14 = .ok (.invokevirtual 33, 3) := by decide +kernel
theorem dX5_countFor_17 : decode cX5_countFor 17 = .ok (.iload_n 1, 1) := by decide +kernel
theorem dX5_countFor_18 : decode cX5_countFor 18 = .ok (.if_icmp .ne 6, 3) := by decide +kernel
theorem dX5_countFor_21 : decode cX5_countFor 21 = .ok (.iinc 2 1, 3) := by decide +kernel
theorem dX5_countFor_24 : decode cX5_countFor 24 = .ok (.iinc 3 1, 3) := by decide +kernel
theorem dX5_countFor_27 : decode cX5_countFor 27 = .ok (.goto (-23), 3) := by decide +kernel
theorem dX5_countFor_30 : decode cX5_countFor 30 = .ok (.iload_n 2, 1) := by decide +kernel
theorem dX5_countFor_31 : decode cX5_countFor 31 = .ok (.ireturn, 1) := by decide +kernel
theorem dX5_add_0 : decode cX5_add 0 = .ok (.aload_n 0, 1) := by decide +kernel
theorem dX5_add_1 : decode cX5_add 1 = .ok (.getfield 25, 3) := by decide +kernel
theorem dX5_add_4 : decode cX5_add 4 = .ok (.iconst 4, 1) := by decide +kernel
theorem dX5_add_5 : decode cX5_add 5 = .ok (.if_icmp .lt 4, 3) := by decide +kernel
theorem dX5_add_9 : decode cX5_add 9 = .ok (.aload_n 0, 1) := by decide +kernel
theorem dX5_add_10 : decode cX5_add 10 = .ok (.getfield 9, 3) := by decide +kernel
theorem dX5_add_13 : decode cX5_add 13 = .ok (.aload_n 0, 1) := by decide +kernel
theorem dX5_add_14 : decode cX5_add 14 = .ok (.getfield 25, 3) := by decide +kernel
theorem dX5_add_17 : decode cX5_add 17 = .ok (.iload_n 1, 1) := by decide +kernel
theorem dX5_add_18 : decode cX5_add 18 = .ok (.iastore, 1) := by decide +kernel
theorem dX5_add_19 : decode cX5_add 19 = .ok (.aload_n 0, 1) := by decide +kernel
theorem dX5_add_20 : decode cX5_add 20 = .ok (.getfield 15, 3) := by decide +kernel
theorem dX5_add_23 : decode cX5_add 23 = .ok (.aload_n 0, 1) := by decide +kernel
theorem dX5_add_24 : decode cX5_add 24 = .ok (.getfield 25, 3) := by decide +kernel
theorem dX5_add_27 : decode cX5_add 27 = .ok (.iload_n 2, 1) := by decide +kernel
theorem dX5_add_28 : decode cX5_add 28 = .ok (.iastore, 1) := by decide +kernel
theorem dX5_add_29 : decode cX5_add 29 = .ok (.aload_n 0, 1) := by decide +kernel
theorem dX5_add_30 : decode cX5_add 30 = .ok (.getfield 18, 3) := by decide +kernel
theorem dX5_add_33 : decode cX5_add 33 = .ok (.aload_n 0, 1) := by decide +kernel
theorem dX5_add_34 : decode cX5_add 34 = .ok (.getfield 25, 3) := by decide +kernel
theorem dX5_add_37 : decode cX5_add 37 = .ok (.iconst 0, 1) := by decide +kernel
theorem dX5_add_38 : decode cX5_add 38 = .ok (.iastore, 1) := by decide +kernel
theorem dX5_add_39 : decode cX5_add 39 = .ok (.aload_n 0, 1) := by decide +kernel
theorem dX5_add_40 : decode cX5_add 40 = .ok (.dup, 1) := by decide +kernel
theorem dX5_add_41 : decode cX5_add 41 = .ok (.getfield 25, 3) := by decide +kernel
theorem dX5_add_44 : decode cX5_add 44 = .ok (.iconst 1, 1) := by decide +kernel
theorem dX5_add_45 : decode cX5_add 45 = .ok (.iadd, 1) := by decide +kernel
theorem dX5_add_46 : decode cX5_add 46 = .ok (.putfield 25, 3) := by decide +kernel
theorem dX5_add_49 : decode cX5_add 49 = .ok (.return_, 1) := by decide +kernel
theorem dX5_tryFirst_0 : decode cX5_tryFirst 0 = .ok (.aload_n 0, 1) := by decide +kernel
theorem dX5_tryFirst_1 : decode cX5_tryFirst 1 = .ok (.getfield 25, 3) := by decide +kernel
theorem dX5_tryFirst_4 : decode cX5_tryFirst 4 = .ok (.ifCond .ne 5, 3) := by decide +kernel
theorem dX5_tryFirst_9 : decode cX5_tryFirst 9 = .ok (.aload_n 0, 1) := by decide +kernel
theorem dX5_tryFirst_10 : decode cX5_tryFirst 10 = .ok (.getfield 18, 3) := by decide +kernel
theorem dX5_tryFirst_13 : decode cX5_tryFirst 13 = .ok (.iconst 0, 1) := by decide +kernel
theorem dX5_tryFirst_14 : decode cX5_tryFirst 14 = .ok (.dup2, 1) := by decide +kernel
theorem dX5_tryFirst_15 : decode cX5_tryFirst 15 = .ok (.iaload, 1) := by decide +kernel
theorem dX5_tryFirst_16 : decode cX5_tryFirst 16 = .ok (.iconst 1, 1) := by decide +kernel
theorem dX5_tryFirst_17 : decode cX5_tryFirst 17 = .ok (.iadd, 1) := by decide +kernel
theorem dX5_tryFirst_18 : decode cX5_tryFirst 18 = .ok (.iastore, 1) := by decide +kernel
theorem dX5_tryFirst_19 : decode cX5_tryFirst 19 = .ok (.aload_n 0, 1) := by decide +kernel
theorem dX5_tryFirst_20 : decode cX5_tryFirst 20 = .ok (.getfield 18, 3) := by decide +kernel
theorem dX5_tryFirst_23 : decode cX5_tryFirst 23 = .ok (.iconst 0, 1) := by decide +kernel
theorem dX5_tryFirst_24 : decode cX5_tryFirst 24 = .ok (.iaload, 1) := by decide +kernel
theorem dX5_tryFirst_25 : decode cX5_tryFirst 25 = .ok (.ireturn, 1) := by decide +kernel
theorem dX5_dropFirst_0 : decode cX5_dropFirst 0 = .ok (.aload_n 0, 1) := by decide +kernel
theorem dX5_dropFirst_1 : decode cX5_dropFirst 1 = .ok (.getfield 25, 3) := by decide +kernel
theorem dX5_dropFirst_4 : decode cX5_dropFirst 4 = .ok (.ifCond .ne 4, 3) := by decide +kernel
theorem dX5_dropFirst_8 : decode cX5_dropFirst 8 = .ok (.iconst 1, 1) := by decide +kernel
theorem dX5_dropFirst_9 : decode cX5_dropFirst 9 = .ok (.istore_n 1, 1) := by decide +kernel
theorem dX5_dropFirst_10 : decode cX5_dropFirst 10 = .ok (.iload_n 1, 1) := by decide +kernel
theorem dX5_dropFirst_11 : decode cX5_dropFirst 11 = .ok (.aload_n 0, 1) := by decide +kernel
theorem dX5_dropFirst_12 : decode cX5_dropFirst 12 = .ok (.getfield 25, 3) := by decide +kernel
theorem dX5_dropFirst_15 : decode cX5_dropFirst 15 = .ok (.if_icmp .ge 51, 3) := by decide +kernel
theorem dX5_dropFirst_18 : decode cX5_dropFirst 18 = .ok (.aload_n 0, 1) := by decide +kernel
theorem dX5_dropFirst_19 : decode cX5_dropFirst 19 = .ok (.getfield 9, 3) := by decide +kernel
theorem dX5_dropFirst_22 : decode cX5_dropFirst 22 = .ok (.iload_n 1, 1) := by decide +kernel
theorem dX5_dropFirst_23 : decode cX5_dropFirst 23 = .ok (.iconst 1, 1) := by decide +kernel
theorem dX5_dropFirst_24 : decode cX5_dropFirst 24 = .ok (.isub, 1) := by decide +kernel
theorem dX5_dropFirst_25 : decode cX5_dropFirst 25 = .ok (.aload_n 0, 1) := by decide +kernel
theorem dX5_dropFirst_26 : decode cX5_dropFirst 26 = .ok (.getfield 9, 3) := by decide +kernel
theorem dX5_dropFirst_29 : decode cX5_dropFirst 29 = .ok (.iload_n 1, 1) := by decide +kernel
theorem dX5_dropFirst_30 : decode cX5_dropFirst 30 = .ok (.iaload, 1) := by decide +kernel
theorem dX5_dropFirst_31 : decode cX5_dropFirst 31 = .ok (.iastore, 1) := by decide +kernel
theorem dX5_dropFirst_32 : decode cX5_dropFirst 32 = .ok (.aload_n 0, 1) := by decide +kernel
theorem dX5_dropFirst_33 : decode cX5_dropFirst 33 = .ok (.getfield 15, 3) := by decide +kernel
theorem dX5_dropFirst_36 : decode cX5_dropFirst 36 = .ok (.iload_n 1, 1) := by decide +kernel
theorem dX5_dropFirst_37 : decode cX5_dropFirst 37 = .ok (.iconst 1, 1) := by decide +kernel
theorem dX5_dropFirst_38 : decode cX5_dropFirst 38 = .ok (.isub, 1) := by decide +kernel
theorem dX5_dropFirst_39 : decode cX5_dropFirst 39 = .ok (.aload_n 0, 1) := by decide +kernel
theorem dX5_dropFirst_40 : decode cX5_dropFirst 40 = .ok (.getfield 15, 3) := by decide +kernel
theorem dX5_dropFirst_43 : decode cX5_dropFirst 43 = .ok (.iload_n 1, 1) := by decide +kernel
theorem dX5_dropFirst_44 : decode cX5_dropFirst 44 = .ok (.iaload, 1) := by decide +kernel
theorem dX5_dropFirst_45 : decode cX5_dropFirst 45 = .ok (.iastore, 1) := by decide +kernel
theorem dX5_dropFirst_46 : decode cX5_dropFirst 46 = .ok (.aload_n 0, 1) := by decide +kernel
theorem dX5_dropFirst_47 : decode cX5_dropFirst 47 = .ok (.getfield 18, 3) := by decide +kernel
theorem dX5_dropFirst_50 : decode cX5_dropFirst 50 = .ok (.iload_n 1, 1) := by decide +kernel
theorem dX5_dropFirst_51 : decode cX5_dropFirst 51 = .ok (.iconst 1, 1) := by decide +kernel
theorem dX5_dropFirst_52 : decode cX5_dropFirst 52 = .ok (.isub, 1) := by decide +kernel
theorem dX5_dropFirst_53 : decode cX5_dropFirst 53 = .ok (.aload_n 0, 1) := by decide +kernel
theorem dX5_dropFirst_54 : decode cX5_dropFirst 54 = .ok (.getfield 18, 3) := by decide +kernel
theorem dX5_dropFirst_57 : decode cX5_dropFirst 57 = .ok (.iload_n 1, 1) := by decide +kernel
theorem dX5_dropFirst_58 : decode cX5_dropFirst 58 = .ok (.iaload, 1) := by decide +kernel
theorem dX5_dropFirst_59 : decode cX5_dropFirst 59 = .ok (.iastore, 1) := by decide +kernel
theorem dX5_dropFirst_60 : decode cX5_dropFirst 60 = .ok (.iinc 1 1, 3) := by decide +kernel
theorem dX5_dropFirst_63 : decode cX5_dropFirst 63 = .ok (.goto (-53), 3) := by decide +kernel
theorem dX5_dropFirst_66 : decode cX5_dropFirst 66 = .ok (.aload_n 0, 1) := by decide +kernel
theorem dX5_dropFirst_67 : decode cX5_dropFirst 67 = .ok (.dup, 1) := by decide +kernel
theorem dX5_dropFirst_68 : decode cX5_dropFirst 68 = .ok (.getfield 25, 3) := by decide +kernel
theorem dX5_dropFirst_71 : decode cX5_dropFirst 71 = .ok (.iconst 1, 1) := by decide +kernel
theorem dX5_dropFirst_72 : decode cX5_dropFirst 72 = .ok (.isub, 1) := by decide +kernel
theorem dX5_dropFirst_73 : decode cX5_dropFirst 73 = .ok (.putfield 25, 3) := by decide +kernel
theorem dX5_dropFirst_76 : decode cX5_dropFirst 76 = .ok (.return_, 1) := by decide +kernel
theorem dX6_init_0 : decode cX6_init 0 = .ok (.aload_n 0, 1) := by decide +kernel
theorem dX6_init_1 : decode cX6_init 1 = .ok (.invokespecial 3, 3) := by decide +kernel
theorem dX6_init_4 : decode cX6_init 4 = .ok (.aload_n 0, 1) := by decide +kernel
theorem dX6_init_5 : decode cX6_init 5 = .ok (.new 9, 3) := by decide +kernel
theorem dX6_init_8 : decode cX6_init 8 = .ok (.dup, 1) := by decide +kernel
theorem dX6_init_9 : decode cX6_init 9 = .ok (.invokespecial 11, 3) := by decide +kernel
theorem dX6_init_12 : decode cX6_init 12 = .ok (.putfield 12, 3) := by decide +kernel
theorem dX6_init_15 : decode cX6_init 15 = .ok (.aload_n 0, 1) := by decide +kernel
theorem dX6_init_16 : decode cX6_init 16 = .ok (.new 18, 3) := by decide +kernel
theorem dX6_init_19 : decode cX6_init 19 = .ok (.dup, 1) := by decide +kernel
theorem dX6_init_20 : decode cX6_init 20 = .ok (.invokespecial 20, 3) := by decide +kernel
theorem dX6_init_23 : decode cX6_init 23 = .ok (.putfield 21, 3) := by decide +kernel
theorem dX6_init_26 : decode cX6_init 26 = .ok (.aload_n 0, 1) := by decide +kernel
theorem dX6_init_27 : decode cX6_init 27 = .ok (.iconst (-1), 1) := by decide +kernel
theorem dX6_init_28 : decode cX6_init 28 = .ok (.putfield 25, 3) := by decide +kernel
theorem dX6_init_31 : decode cX6_init 31 = .ok (.aload_n 0, 1) := by decide +kernel
theorem dX6_init_32 : decode cX6_init 32 = .ok (.iload_n 1, 1) := by decide +kernel
theorem dX6_init_33 : decode cX6_init 33 = .ok (.putfield 29, 3) := by decide +kernel
theorem dX6_init_36 : decode cX6_init 36 = .ok (.return_, 1) := by decide +kernel
theorem dX6_copyFrom_0 : decode cX6_copyFrom 0 = .ok (.aload_n 0, 1) := by decide +kernel
theorem dX6_copyFrom_1 : decode cX6_copyFrom 1 = .ok (.getfield 12, 3) := by decide +kernel
theorem dX6_copyFrom_4 : decode cX6_copyFrom 4 = .ok (.aload_n 1, 1) := by decide +kernel
theorem dX6_copyFrom_5 : decode cX6_copyFrom 5 = .ok (.getfield 12, 3) := by decide +kernel
theorem dX6_copyFrom_8 : decode cX6_copyFrom 8 = .ok (.invokevirtual 32, 3) := by decide +kernel
theorem dX6_copyFrom_11 : decode cX6_copyFrom 11 = .ok (.aload_n 0, 1) := by decide +kernel
theorem dX6_copyFrom_12 : decode cX6_copyFrom 12 = .ok (.getfield 21, 3) := by decide +kernel
theorem dX6_copyFrom_15 : decode cX6_copyFrom 15 = .ok (.aload_n 1, 1) := by decide +kernel
theorem dX6_copyFrom_16 : decode cX6_copyFrom 16 = .ok (.getfield 21, 3) := by decide +kernel
theorem dX6_copyFrom_19 : decode cX6_copyFrom 19 = .ok (.invokevirtual 36, 3) := by decide +kernel
theorem dX6_copyFrom_22 : decode cX6_copyFrom 22 = .ok (.aload_n 0, 1) := by decide +kernel
theorem dX6_copyFrom_23 : decode cX6_copyFrom 23 = .ok (.aload_n 1, 1) := by decide +kernel
theorem dX6_copyFrom_24 : decode cX6_copyFrom 24 = .ok (.getfield 39, 3) := by decide +kernel
theorem dX6_copyFrom_27 : decode cX6_copyFrom 27 = .ok (.putfield 39, 3) := by decide +kernel
theorem dX6_copyFrom_30 : decode cX6_copyFrom 30 = .ok (.aload_n 0, 1) := by decide +kernel
theorem dX6_copyFrom_31 : decode cX6_copyFrom 31 = .ok (.aload_n 1, 1) := by decide +kernel
theorem dX6_copyFrom_32 : decode cX6_copyFrom 32 = .ok (.getfield 42, 3) := by decide +kernel
theorem dX6_copyFrom_35 : decode cX6_copyFrom 35 = .ok (.putfield 42, 3) := by decide +kernel
theorem dX6_copyFrom_38 : decode cX6_copyFrom 38 = .ok (.aload_n 0, 1) := by decide +kernel
theorem dX6_copyFrom_39 : decode cX6_copyFrom 39 = .ok (.aload_n 1, 1) := by decide +kernel
theorem dX6_copyFrom_40 : decode cX6_copyFrom 40 = .ok (.getfield 45, 3) := by decide +kernel
theorem dX6_copyFrom_43 : decode cX6_copyFrom 43 = .ok (.putfield 45, 3) := by decide +kernel
theorem dX6_copyFrom_46 : decode cX6_copyFrom 46 = .ok (.aload_n 0, 1) := by decide +kernel
theorem dX6_copyFrom_47 : decode cX6_copyFrom 47 = .ok (.aload_n 1, 1) := by decide +kernel
theorem dX6_copyFrom_48 : decode cX6_copyFrom 48 = .ok (.getfield 49, 3) := by decide +kernel
theorem dX6_copyFrom_51 : decode cX6_copyFrom 51 = .ok (.putfield 49, 3) := by decide +kernel
theorem dX6_copyFrom_54 : decode cX6_copyFrom 54 = .ok (.aload_n 0, 1) := by decide +kernel
theorem dX6_copyFrom_55 : decode cX6_copyFrom 55 = .ok (.aload_n 1, 1) := by decide +kernel
theorem dX6_copyFrom_56 : decode cX6_copyFrom 56 = .ok (.getfield 25, 3) := by decide +kernel
theorem dX6_copyFrom_59 : decode cX6_copyFrom 59 = .ok (.putfield 25, 3) := by decide +kernel
theorem dX6_copyFrom_62 : decode cX6_copyFrom 62 = .ok (.aload_n 0, 1) := by decide +kernel
theorem dX6_copyFrom_63 : decode cX6_copyFrom 63 = .ok (.aload_n 1, 1) := by decide +kernel
theorem dX6_copyFrom_64 : decode cX6_copyFrom 64 = .ok (.getfield 52, 3) := by decide +kernel
theorem dX6_copyFrom_67 : decode cX6_copyFrom 67 = .ok (.putfield 52, 3) := by decide +kernel
theorem dX6_copyFrom_70 : decode cX6_copyFrom 70 = .ok (.aload_n 0, 1) := by decide +kernel
theorem dX6_copyFrom_71 : decode cX6_copyFrom 71 = .ok (.aload_n 1, 1) := by decide +kernel
theorem dX6_copyFrom_72 : decode cX6_copyFrom 72 = .ok (.getfield 55, 3) := by decide +kernel
theorem dX6_copyFrom_75 : decode cX6_copyFrom 75 = .ok (.putfield 55, 3) := by decide +kernel
theorem dX6_copyFrom_78 : decode cX6_copyFrom 78 = .ok (.aload_n 0, 1) := by decide +kernel
theorem dX6_copyFrom_79 : decode cX6_copyFrom 79 = .ok (.aload_n 1, 1) := by decide +kernel
theorem dX6_copyFrom_80 : decode cX6_copyFrom 80 = .ok (.getfield 58, 3) := by decide +kernel
theorem dX6_copyFrom_83 : decode cX6_copyFrom 83 = .ok (.putfield 58, 3) := by decide +kernel
theorem dX6_copyFrom_86 : decode cX6_copyFrom 86 = .ok (.aload_n 0, 1) := by decide +kernel
theorem dX6_copyFrom_87 : decode cX6_copyFrom 87 = .ok (.aload_n 1, 1) := by decide +kernel
theorem dX6_copyFrom_88 : decode cX6_copyFrom 88 = .ok (.getfield 61, 3) := by decide +kernel
theorem dX6_copyFrom_91 : decode cX6_copyFrom 91 = .ok (.putfield 61, 3) := by decide +kernel
theorem dX6_copyFrom_94 : decode cX6_copyFrom 94 = .ok (.aload_n 0, 1) := by decide +kernel
theorem dX6_copyFrom_95 : decode cX6_copyFrom 95 = .ok (.aload_n 1, 1) := by decide +kernel
theorem dX6_copyFrom_96 : decode cX6_copyFrom 96 = .ok (.getfield 64, 3) := by decide +kernel
theorem dX6_copyFrom_99 : decode cX6_copyFrom 99 = .ok (.putfield 64, 3) := by decide +kernel
theorem dX6_copyFrom_102 : decode cX6_copyFrom 102 = .ok (.aload_n 0, 1) := by decide +kernel
theorem dX6_copyFrom_103 : decode cX6_copyFrom 103 = .ok (.aload_n 1, 1) := by decide +kernel
theorem dX6_copyFrom_104 : decode cX6_copyFrom 104 = .ok (.getfield 67, 3) := by decide +kernel
theorem dX6_copyFrom_107 : decode cX6_copyFrom 107 = .ok (.putfield 67, 3) := by decide +kernel
theorem dX6_copyFrom_110 : decode cX6_copyFrom 110 = .ok (.aload_n 0, 1) := by decide +kernel
theorem dX6_copyFrom_111 : decode cX6_copyFrom 111 = .ok (.aload_n 1, 1) := by decide +kernel
theorem dX6_copyFrom_112 : decode cX6_copyFrom 112 = .ok (.getfield 70, 3) := by decide +kernel
theorem dX6_copyFrom_115 : decode cX6_copyFrom 115 = .ok (.putfield 70, 3) := by decide +kernel
theorem dX6_copyFrom_118 : decode cX6_copyFrom 118 = .ok (.return_, 1) := by decide +kernel
theorem dX6_isAt_0 : decode cX6_isAt 0 = .ok (.aload_n 0, 1) := by decide +kernel
theorem dX6_isAt_1 : decode cX6_isAt 1 = .ok (.getfield 39, 3) := by decide +kernel
theorem dX6_isAt_4 : decode cX6_isAt 4 = .ok (.iload_n 1, 1) := by decide +kernel
theorem dX6_isAt_5 : decode cX6_isAt 5 = .ok (.ishr, 1) := by decide +kernel
theorem dX6_isAt_6 : decode cX6_isAt 6 = .ok (.iconst 1, 1) := by decide +kernel
theorem dX6_isAt_7 : decode cX6_isAt 7 = .ok (.iand, 1) := by decide +kernel
theorem dX6_isAt_8 : decode cX6_isAt 8 = .ok (.iconst 1, 1) := by decide +kernel
theorem dX6_isAt_9 : decode cX6_isAt 9 = .ok (.if_icmp .ne 7, 3) := by decide +kernel
theorem dX6_isAt_12 : decode cX6_isAt 12 = .ok (.iconst 1, 1) := by decide +kernel
theorem dX6_isAt_13 : decode cX6_isAt 13 = .ok (.goto 4, 3) := by decide +kernel
theorem dX6_isAt_16 : decode cX6_isAt 16 = .ok (.iconst 0, 1) := by decide +kernel
theorem dX6_isAt_17 : decode cX6_isAt 17 = .ok (.ireturn, 1) := by decide +kernel
theorem dX6_isAwake_0 : decode cX6_isAwake 0 = .ok (.aload_n 0, 1) := by decide +kernel
theorem dX6_isAwake_1 : decode cX6_isAwake 1 = .ok (.getfield 45, 3) := by decide +kernel
theorem dX6_isAwake_4 : decode cX6_isAwake 4 = .ok (.ifCond .ne 14, 3) := by decide +kernel
theorem dX6_isAwake_7 : decode cX6_isAwake 7 = .ok (.aload_n 0, 1) := by decide +kernel
theorem dX6_isAwake_8 : decode cX6_isAwake 8 = .ok (.getfield 49, 3) := by decide +kernel
theorem dX6_isAwake_11 : decode cX6_isAwake 11 = .ok (.ifCond .ne 7, 3) := by decide +kernel
theorem dX6_isAwake_14 : decode cX6_isAwake 14 = .ok (.iconst 1, 1) := by decide +kernel
theorem dX6_isAwake_15 : decode cX6_isAwake 15 = .ok (.goto 4, 3) := by decide +kernel
theorem dX6_isAwake_18 : decode cX6_isAwake 18 = .ok (.iconst 0, 1) := by decide +kernel
theorem dX6_isAwake_19 : decode cX6_isAwake 19 = .ok (.ireturn, 1) := by decide +kernel
theorem dX6_isSpeaking_0 : decode cX6_isSpeaking 0 = .ok (.aload_n 0, 1) := by decide +kernel
theorem dX6_isSpeaking_1 : decode cX6_isSpeaking 1 = .ok (.getfield 25, 3) := by decide +kernel
theorem dX6_isSpeaking_4 : decode cX6_isSpeaking 4 = .ok (.iconst (-1), 1) := by decide +kernel
theorem dX6_isSpeaking_5 : decode cX6_isSpeaking 5 = .ok (.if_icmp .eq 7, 3) := by decide +kernel
theorem dX6_isSpeaking_8 : decode cX6_isSpeaking 8 = .ok (.iconst 1, 1) := by decide +kernel
theorem dX6_isSpeaking_9 : decode cX6_isSpeaking 9 = .ok (.goto 4, 3) := by decide +kernel
theorem dX6_isSpeaking_12 : decode cX6_isSpeaking 12 = .ok (.iconst 0, 1) := by decide +kernel
theorem dX6_isSpeaking_13 : decode cX6_isSpeaking 13 = .ok (.ireturn, 1) := by decide +kernel
theorem dX6_letsGo_0 : decode cX6_letsGo 0 = .ok (.aload_n 0, 1) := by decide +kernel
theorem dX6_letsGo_1 : decode cX6_letsGo 1 = .ok (.getfield 55, 3) := by decide +kernel
theorem dX6_letsGo_4 : decode cX6_letsGo 4 = .ok (.bipush 10, 2) := by decide +kernel
theorem dX6_letsGo_6 : decode cX6_letsGo 6 = .ok (.aload_n 0, 1) := by decide +kernel
theorem dX6_letsGo_7 : decode cX6_letsGo 7 = .ok (.getfield 25, 3) := by decide +kernel
theorem dX6_letsGo_10 : decode cX6_letsGo 10 = .ok (.isub, 1) := by decide +kernel
theorem dX6_letsGo_11 : decode cX6_letsGo 11 = .ok (.ishr, 1) := by decide +kernel
theorem dX6_letsGo_12 : decode cX6_letsGo 12 = .ok (.iconst 1, 1) := by decide +kernel
theorem dX6_letsGo_13 : decode cX6_letsGo 13 = .ok (.iand, 1) := by decide +kernel
theorem dX6_letsGo_14 : decode cX6_letsGo 14 = .ok (.iconst 1, 1) := by decide +kernel
theorem dX6_letsGo_15 : decode cX6_letsGo 15 = .ok (.if_icmp .ne 7, 3) := by decide +kernel
theorem dX6_letsGo_18 : decode cX6_letsGo 18 = .ok (.iconst 1, 1) := by decide +kernel
theorem dX6_letsGo_19 : decode cX6_letsGo 19 = .ok (.goto 4, 3) := by decide +kernel
theorem dX6_letsGo_22 : decode cX6_letsGo 22 = .ok (.iconst 0, 1) := by decide +kernel
theorem dX6_letsGo_23 : decode cX6_letsGo 23 = .ok (.ireturn, 1) := by decide +kernel
theorem dX6_begin_0 : decode cX6_begin 0 = .ok (.aload_n 0, 1) := by decide +kernel
theorem dX6_begin_1 : decode cX6_begin 1 = .ok (.iconst 0, 1) := by decide +kernel
theorem dX6_begin_2 : decode cX6_begin 2 = .ok (.putfield 25, 3) := by decide +kernel
theorem dX6_begin_5 : decode cX6_begin 5 = .ok (.aload_n 0, 1) := by decide +kernel
theorem dX6_begin_6 : decode cX6_begin 6 = .ok (.iconst 1, 1) := by decide +kernel
theorem dX6_begin_7 : decode cX6_begin 7 = .ok (.iload_n 1, 1) := by decide +kernel
theorem dX6_begin_8 : decode cX6_begin 8 = .ok (.ishl, 1) := by decide +kernel
theorem dX6_begin_9 : decode cX6_begin 9 = .ok (.putfield 52, 3) := by decide +kernel
theorem dX6_begin_12 : decode cX6_begin 12 = .ok (.aload_n 0, 1) := by decide +kernel
theorem dX6_begin_13 : decode cX6_begin 13 = .ok (.aload_n 0, 1) := by decide +kernel
theorem dX6_begin_14 : decode cX6_begin 14 = .ok (.getfield 29, 3) := by decide +kernel
theorem dX6_begin_17 : decode cX6_begin 17 = .ok (.bipush 8, 2) := by decide +kernel
theorem dX6_begin_19 : decode cX6_begin 19 = .ok (.ishl, 1) := by decide +kernel
theorem dX6_begin_20 : decode cX6_begin 20 = .ok (.aload_n 0, 1) := by decide +kernel
theorem dX6_begin_21 : decode cX6_begin 21 = .ok (.getfield 12, 3) := by decide +kernel
theorem dX6_begin_24 : decode cX6_begin 24 = .ok (.iconst 0, 1) := by decide +kernel
theorem dX6_begin_25 : decode cX6_begin 25 = .ok (.invokevirtual 73, 3) := by decide +kernel
theorem dX6_begin_28 : decode cX6_begin 28 = .ok (.ior, 1) := by decide +kernel
theorem dX6_begin_29 : decode cX6_begin 29 = .ok (.putfield 55, 3) := by decide +kernel
theorem dX6_begin_32 : decode cX6_begin 32 = .ok (.aload_n 0, 1) := by decide +kernel
theorem dX6_begin_33 : decode cX6_begin 33 = .ok (.iload_n 2, 1) := by decide +kernel
theorem dX6_begin_34 : decode cX6_begin 34 = .ok (.putfield 58, 3) := by decide +kernel
theorem dX6_begin_37 : decode cX6_begin 37 = .ok (.return_, 1) := by decide +kernel
theorem dX6_fallSilent_0 : decode cX6_fallSilent 0 = .ok (.aload_n 0, 1) := by decide +kernel
theorem dX6_fallSilent_1 : decode cX6_fallSilent 1 = .ok (.iconst (-1), 1) := by decide +kernel
theorem dX6_fallSilent_2 : decode cX6_fallSilent 2 = .ok (.putfield 25, 3) := by decide +kernel
theorem dX6_fallSilent_5 : decode cX6_fallSilent 5 = .ok (.aload_n 0, 1) := by decide +kernel
theorem dX6_fallSilent_6 : decode cX6_fallSilent 6 = .ok (.iconst 0, 1) := by decide +kernel
theorem dX6_fallSilent_7 : decode cX6_fallSilent 7 = .ok (.putfield 52, 3) := by decide +kernel
theorem dX6_fallSilent_10 : decode cX6_fallSilent 10 = .ok (.aload_n 0, 1) := by decide +kernel
theorem dX6_fallSilent_11 : decode cX6_fallSilent 11 = .ok (.iconst 0, 1) := by decide +kernel
theorem dX6_fallSilent_12 : decode cX6_fallSilent 12 = .ok (.putfield 55, 3) := by decide +kernel
theorem dX6_fallSilent_15 : decode cX6_fallSilent 15 = .ok (.aload_n 0, 1) := by decide +kernel
theorem dX6_fallSilent_16 : decode cX6_fallSilent 16 = .ok (.iconst 0, 1) := by decide +kernel
theorem dX6_fallSilent_17 : decode cX6_fallSilent 17 = .ok (.putfield 58, 3) := by decide +kernel
theorem dX6_fallSilent_20 : decode cX6_fallSilent 20 = .ok (.return_, 1) := by decide +kernel
theorem dX6_fact_0 : decode cX6_fact 0 = .ok (.iload_n 1, 1) := by decide +kernel
theorem dX6_fact_1 : decode cX6_fact 1 = .ok (.tableswitch 139 0 9 #[55, 60, 65, 89, 97, 114, 119, 124, 129, 134], 55) := by decide +kernel
theorem dX6_fact_56 : decode cX6_fact 56 = .ok (.aload_n 0, 1) := by decide +kernel
theorem dX6_fact_57 : decode cX6_fact 57 = .ok (.getfield 39, 3) := by decide +kernel
theorem dX6_fact_60 : decode cX6_fact 60 = .ok (.ireturn, 1) := by decide +kernel
theorem dX6_fact_61 : decode cX6_fact 61 = .ok (.aload_n 0, 1) := by decide +kernel
theorem dX6_fact_62 : decode cX6_fact 62 = .ok (.getfield 42, 3) := by decide +kernel
theorem dX6_fact_65 : decode cX6_fact 65 = .ok (.ireturn, 1) := by decide +kernel
theorem dX6_fact_66 : decode cX6_fact 66 = .ok (.aload_n 0, 1) := by decide +kernel
theorem dX6_fact_67 : decode cX6_fact 67 = .ok (.getfield 49, 3) := by decide +kernel
theorem dX6_fact_70 : decode cX6_fact 70 = .ok (.ifCond .eq 7, 3) := by decide +kernel
theorem dX6_fact_73 : decode cX6_fact 73 = .ok (.iconst 2, 1) := by decide +kernel
theorem dX6_fact_74 : decode cX6_fact 74 = .ok (.goto 15, 3) := by decide +kernel
theorem dX6_fact_77 : decode cX6_fact 77 = .ok (.aload_n 0, 1) := by decide +kernel
theorem dX6_fact_78 : decode cX6_fact 78 = .ok (.getfield 45, 3) := by decide +kernel
theorem dX6_fact_81 : decode cX6_fact 81 = .ok (.ifCond .eq 7, 3) := by decide +kernel
theorem dX6_fact_84 : decode cX6_fact 84 = .ok (.iconst 1, 1) := by decide +kernel
theorem dX6_fact_85 : decode cX6_fact 85 = .ok (.goto 4, 3) := by decide +kernel
theorem dX6_fact_88 : decode cX6_fact 88 = .ok (.iconst 0, 1) := by decide +kernel
theorem dX6_fact_89 : decode cX6_fact 89 = .ok (.ireturn, 1) := by decide +kernel
theorem dX6_fact_90 : decode cX6_fact 90 = .ok (.aload_n 0, 1) := by decide +kernel
theorem dX6_fact_91 : decode cX6_fact 91 = .ok (.getfield 12, 3) := by decide +kernel
theorem dX6_fact_94 : decode cX6_fact 94 = .ok (.getfield 77, 3) := by decide +kernel
theorem dX6_fact_97 : decode cX6_fact 97 = .ok (.ireturn, 1) := by decide +kernel
theorem dX6_fact_98 : decode cX6_fact 98 = .ok (.aload_n 0, 1) := by decide +kernel
theorem dX6_fact_99 : decode cX6_fact 99 = .ok (.invokevirtual 80, 3) := by decide +kernel
theorem dX6_fact_102 : decode cX6_fact 102 = .ok (.ifCond .eq 10, 3) := by decide +kernel
theorem dX6_fact_105 : decode cX6_fact 105 = .ok (.aload_n 0, 1) := by decide +kernel
theorem dX6_fact_106 : decode cX6_fact 106 = .ok (.getfield 25, 3) := by decide +kernel
theorem dX6_fact_109 : decode cX6_fact 109 = .ok (.goto 5, 3) := by decide +kernel
theorem dX6_fact_112 : decode cX6_fact 112 = .ok (.bipush (-6), 2) := by decide +kernel
theorem dX6_fact_114 : decode cX6_fact 114 = .ok (.ireturn, 1) := by decide +kernel
theorem dX6_fact_115 : decode cX6_fact 115 = .ok (.aload_n 0, 1) := by decide +kernel
theorem dX6_fact_116 : decode cX6_fact 116 = .ok (.getfield 58, 3) := by decide +kernel
theorem dX6_fact_119 : decode cX6_fact 119 = .ok (.ireturn, 1) := by decide +kernel
theorem dX6_fact_120 : decode cX6_fact 120 = .ok (.aload_n 0, 1) := by decide +kernel
theorem dX6_fact_121 : decode cX6_fact 121 = .ok (.getfield 61, 3) := by decide +kernel
theorem dX6_fact_124 : decode cX6_fact 124 = .ok (.ireturn, 1) := by decide +kernel
theorem dX6_fact_125 : decode cX6_fact 125 = .ok (.aload_n 0, 1) := by decide +kernel
theorem dX6_fact_126 : decode cX6_fact 126 = .ok (.getfield 64, 3) := by decide +kernel
theorem dX6_fact_129 : decode cX6_fact 129 = .ok (.ireturn, 1) := by decide +kernel
theorem dX6_fact_130 : decode cX6_fact 130 = .ok (.aload_n 0, 1) := by decide +kernel
theorem dX6_fact_131 : decode cX6_fact 131 = .ok (.getfield 67, 3) := by decide +kernel
theorem dX6_fact_134 : decode cX6_fact 134 = .ok (.ireturn, 1) := by decide +kernel
theorem dX6_fact_135 : decode cX6_fact 135 = .ok (.aload_n 0, 1) := by decide +kernel
theorem dX6_fact_136 : decode cX6_fact 136 = .ok (.getfield 70, 3) := by decide +kernel
theorem dX6_fact_139 : decode cX6_fact 139 = .ok (.ireturn, 1) := by decide +kernel
theorem dX6_fact_140 : decode cX6_fact 140 = .ok (.bipush (-2), 2) := by decide +kernel
theorem dX6_fact_142 : decode cX6_fact 142 = .ok (.ireturn, 1) := by decide +kernel
theorem dX7_init_0 : decode cX7_init 0 = .ok (.aload_n 0, 1) := by decide +kernel
theorem dX7_init_1 : decode cX7_init 1 = .ok (.invokespecial 1, 3) := by decide +kernel
theorem dX7_init_4 : decode cX7_init 4 = .ok (.aload_n 0, 1) := by decide +kernel
theorem dX7_init_5 : decode cX7_init 5 = .ok (.new 7, 3) := by decide +kernel
theorem dX7_init_8 : decode cX7_init 8 = .ok (.dup, 1) := by decide +kernel
theorem dX7_init_9 : decode cX7_init 9 = .ok (.invokespecial 9, 3) := by decide +kernel
theorem dX7_init_12 : decode cX7_init 12 = .ok (.putfield 10, 3) := by decide +kernel
theorem dX7_init_15 : decode cX7_init 15 = .ok (.aload_n 0, 1) := by decide +kernel
theorem dX7_init_16 : decode cX7_init 16 = .ok (.new 7, 3) := by decide +kernel
theorem dX7_init_19 : decode cX7_init 19 = .ok (.dup, 1) := by decide +kernel
theorem dX7_init_20 : decode cX7_init 20 = .ok (.invokespecial 9, 3) := by decide +kernel
theorem dX7_init_23 : decode cX7_init 23 = .ok (.putfield 16, 3) := by decide +kernel
theorem dX7_init_26 : decode cX7_init 26 = .ok (.aload_n 0, 1) := by decide +kernel
theorem dX7_init_27 : decode cX7_init 27 = .ok (.new 19, 3) := by decide +kernel
theorem dX7_init_30 : decode cX7_init 30 = .ok (.dup, 1) := by decide +kernel
theorem dX7_init_31 : decode cX7_init 31 = .ok (.invokespecial 21, 3) := by decide +kernel
theorem dX7_init_34 : decode cX7_init 34 = .ok (.putfield 22, 3) := by decide +kernel
theorem dX7_init_37 : decode cX7_init 37 = .ok (.aload_n 0, 1) := by decide +kernel
theorem dX7_init_38 : decode cX7_init 38 = .ok (.iconst 2, 1) := by decide +kernel
theorem dX7_init_39 : decode cX7_init 39 = .ok (.anewarray 7, 3) := by decide +kernel
theorem dX7_init_42 : decode cX7_init 42 = .ok (.putfield 26, 3) := by decide +kernel
theorem dX7_init_45 : decode cX7_init 45 = .ok (.aload_n 0, 1) := by decide +kernel
theorem dX7_init_46 : decode cX7_init 46 = .ok (.new 30, 3) := by decide +kernel
theorem dX7_init_49 : decode cX7_init 49 = .ok (.dup, 1) := by decide +kernel
theorem dX7_init_50 : decode cX7_init 50 = .ok (.invokespecial 32, 3) := by decide +kernel
theorem dX7_init_53 : decode cX7_init 53 = .ok (.putfield 33, 3) := by decide +kernel
theorem dX7_init_56 : decode cX7_init 56 = .ok (.aload_n 0, 1) := by decide +kernel
theorem dX7_init_57 : decode cX7_init 57 = .ok (.new 37, 3) := by decide +kernel
theorem dX7_init_60 : decode cX7_init 60 = .ok (.dup, 1) := by decide +kernel
theorem dX7_init_61 : decode cX7_init 61 = .ok (.aload_n 0, 1) := by decide +kernel
theorem dX7_init_62 : decode cX7_init 62 = .ok (.getfield 33, 3) := by decide +kernel
theorem dX7_init_65 : decode cX7_init 65 = .ok (.invokespecial 39, 3) := by decide +kernel
theorem dX7_init_68 : decode cX7_init 68 = .ok (.putfield 42, 3) := by decide +kernel
theorem dX7_init_71 : decode cX7_init 71 = .ok (.return_, 1) := by decide +kernel
theorem dX7_set_0 : decode cX7_set 0 = .ok (.aload_n 0, 1) := by decide +kernel
theorem dX7_set_1 : decode cX7_set 1 = .ok (.getfield 22, 3) := by decide +kernel
theorem dX7_set_4 : decode cX7_set 4 = .ok (.aload_n 0, 1) := by decide +kernel
theorem dX7_set_5 : decode cX7_set 5 = .ok (.getfield 10, 3) := by decide +kernel
theorem dX7_set_8 : decode cX7_set 8 = .ok (.invokevirtual 46, 3) := by decide +kernel
theorem dX7_set_11 : decode cX7_set 11 = .ok (.aload_n 0, 1) := by decide +kernel
theorem dX7_set_12 : decode cX7_set 12 = .ok (.getfield 22, 3) := by decide +kernel
theorem dX7_set_15 : decode cX7_set 15 = .ok (.aload_n 0, 1) := by decide +kernel
theorem dX7_set_16 : decode cX7_set 16 = .ok (.getfield 10, 3) := by decide +kernel
theorem dX7_set_19 : decode cX7_set 19 = .ok (.iload_n 1, 1) := by decide +kernel
theorem dX7_set_20 : decode cX7_set 20 = .ok (.iload_n 2, 1) := by decide +kernel
theorem dX7_set_21 : decode cX7_set 21 = .ok (.invokevirtual 50, 3) := by decide +kernel
theorem dX7_set_24 : decode cX7_set 24 = .ok (.invokevirtual 54, 3) := by decide +kernel
theorem dX7_set_27 : decode cX7_set 27 = .ok (.ireturn, 1) := by decide +kernel
theorem dX7_station_0 : decode cX7_station 0 = .ok (.aload_n 0, 1) := by decide +kernel
theorem dX7_station_1 : decode cX7_station 1 = .ok (.getfield 22, 3) := by decide +kernel
theorem dX7_station_4 : decode cX7_station 4 = .ok (.aload_n 0, 1) := by decide +kernel
theorem dX7_station_5 : decode cX7_station 5 = .ok (.getfield 10, 3) := by decide +kernel
theorem dX7_station_8 : decode cX7_station 8 = .ok (.invokevirtual 46, 3) := by decide +kernel
theorem dX7_station_11 : decode cX7_station 11 = .ok (.aload_n 0, 1) := by decide +kernel
theorem dX7_station_12 : decode cX7_station 12 = .ok (.getfield 22, 3) := by decide +kernel
theorem dX7_station_15 : decode cX7_station 15 = .ok (.aload_n 0, 1) := by decide +kernel
theorem dX7_station_16 : decode cX7_station 16 = .ok (.getfield 10, 3) := by decide +kernel
theorem dX7_station_19 : decode cX7_station 19 = .ok (.iload_n 1, 1) := by decide +kernel
theorem dX7_station_20 : decode cX7_station 20 = .ok (.invokevirtual 58, 3) := by decide +kernel
theorem dX7_station_23 : decode cX7_station 23 = .ok (.invokevirtual 54, 3) := by decide +kernel
theorem dX7_station_26 : decode cX7_station 26 = .ok (.ireturn, 1) := by decide +kernel
theorem dX7_word_0 : decode cX7_word 0 = .ok (.aload_n 0, 1) := by decide +kernel
theorem dX7_word_1 : decode cX7_word 1 = .ok (.getfield 22, 3) := by decide +kernel
theorem dX7_word_4 : decode cX7_word 4 = .ok (.aload_n 0, 1) := by decide +kernel
theorem dX7_word_5 : decode cX7_word 5 = .ok (.getfield 10, 3) := by decide +kernel
theorem dX7_word_8 : decode cX7_word 8 = .ok (.invokevirtual 46, 3) := by decide +kernel
theorem dX7_word_11 : decode cX7_word 11 = .ok (.aload_n 0, 1) := by decide +kernel
theorem dX7_word_12 : decode cX7_word 12 = .ok (.getfield 22, 3) := by decide +kernel
theorem dX7_word_15 : decode cX7_word 15 = .ok (.aload_n 0, 1) := by decide +kernel
theorem dX7_word_16 : decode cX7_word 16 = .ok (.getfield 10, 3) := by decide +kernel
theorem dX7_word_19 : decode cX7_word 19 = .ok (.iload_n 1, 1) := by decide +kernel
theorem dX7_word_20 : decode cX7_word 20 = .ok (.iload_n 2, 1) := by decide +kernel
theorem dX7_word_21 : decode cX7_word 21 = .ok (.iload_n 3, 1) := by decide +kernel
theorem dX7_word_22 : decode cX7_word 22 = .ok (.invokevirtual 61, 3) := by decide +kernel
theorem dX7_word_25 : decode cX7_word 25 = .ok (.invokevirtual 54, 3) := by decide +kernel
theorem dX7_word_28 : decode cX7_word 28 = .ok (.ireturn, 1) := by decide +kernel
theorem dX7_forget_0 : decode cX7_forget 0 = .ok (.aload_n 0, 1) := by decide +kernel
theorem dX7_forget_1 : decode cX7_forget 1 = .ok (.getfield 22, 3) := by decide +kernel
theorem dX7_forget_4 : decode cX7_forget 4 = .ok (.aload_n 0, 1) := by decide +kernel
theorem dX7_forget_5 : decode cX7_forget 5 = .ok (.getfield 10, 3) := by decide +kernel
theorem dX7_forget_8 : decode cX7_forget 8 = .ok (.invokevirtual 46, 3) := by decide +kernel
theorem dX7_forget_11 : decode cX7_forget 11 = .ok (.aload_n 0, 1) := by decide +kernel
theorem dX7_forget_12 : decode cX7_forget 12 = .ok (.getfield 22, 3) := by decide +kernel
theorem dX7_forget_15 : decode cX7_forget 15 = .ok (.aload_n 0, 1) := by decide +kernel
theorem dX7_forget_16 : decode cX7_forget 16 = .ok (.getfield 10, 3) := by decide +kernel
theorem dX7_forget_19 : decode cX7_forget 19 = .ok (.iload_n 1, 1) := by decide +kernel
theorem dX7_forget_20 : decode cX7_forget 20 = .ok (.invokevirtual 65, 3) := by decide +kernel
theorem dX7_forget_23 : decode cX7_forget 23 = .ok (.invokevirtual 54, 3) := by decide +kernel
theorem dX7_forget_26 : decode cX7_forget 26 = .ok (.ireturn, 1) := by decide +kernel
theorem dX7_stick_0 : decode cX7_stick 0 = .ok (.aload_n 0, 1) := by decide +kernel
theorem dX7_stick_1 : decode cX7_stick 1 = .ok (.getfield 22, 3) := by decide +kernel
theorem dX7_stick_4 : decode cX7_stick 4 = .ok (.aload_n 0, 1) := by decide +kernel
theorem dX7_stick_5 : decode cX7_stick 5 = .ok (.getfield 10, 3) := by decide +kernel
theorem dX7_stick_8 : decode cX7_stick 8 = .ok (.invokevirtual 46, 3) := by decide +kernel
theorem dX7_stick_11 : decode cX7_stick 11 = .ok (.aload_n 0, 1) := by decide +kernel
theorem dX7_stick_12 : decode cX7_stick 12 = .ok (.getfield 22, 3) := by decide +kernel
theorem dX7_stick_15 : decode cX7_stick 15 = .ok (.aload_n 0, 1) := by decide +kernel
theorem dX7_stick_16 : decode cX7_stick 16 = .ok (.getfield 10, 3) := by decide +kernel
theorem dX7_stick_19 : decode cX7_stick 19 = .ok (.iload_n 1, 1) := by decide +kernel
theorem dX7_stick_20 : decode cX7_stick 20 = .ok (.invokevirtual 68, 3) := by decide +kernel
theorem dX7_stick_23 : decode cX7_stick 23 = .ok (.invokevirtual 54, 3) := by decide +kernel
theorem dX7_stick_26 : decode cX7_stick 26 = .ok (.ireturn, 1) := by decide +kernel
theorem dX7_doze_0 : decode cX7_doze 0 = .ok (.aload_n 0, 1) := by decide +kernel
theorem dX7_doze_1 : decode cX7_doze 1 = .ok (.getfield 22, 3) := by decide +kernel
theorem dX7_doze_4 : decode cX7_doze 4 = .ok (.aload_n 0, 1) := by decide +kernel
theorem dX7_doze_5 : decode cX7_doze 5 = .ok (.getfield 10, 3) := by decide +kernel
theorem dX7_doze_8 : decode cX7_doze 8 = .ok (.invokevirtual 46, 3) := by decide +kernel
theorem dX7_doze_11 : decode cX7_doze 11 = .ok (.aload_n 0, 1) := by decide +kernel
theorem dX7_doze_12 : decode cX7_doze 12 = .ok (.getfield 22, 3) := by decide +kernel
theorem dX7_doze_15 : decode cX7_doze 15 = .ok (.aload_n 0, 1) := by decide +kernel
theorem dX7_doze_16 : decode cX7_doze 16 = .ok (.getfield 10, 3) := by decide +kernel
theorem dX7_doze_19 : decode cX7_doze 19 = .ok (.iload_n 1, 1) := by decide +kernel
theorem dX7_doze_20 : decode cX7_doze 20 = .ok (.invokevirtual 71, 3) := by decide +kernel
theorem dX7_doze_23 : decode cX7_doze 23 = .ok (.invokevirtual 54, 3) := by decide +kernel
theorem dX7_doze_26 : decode cX7_doze 26 = .ok (.ireturn, 1) := by decide +kernel
theorem dX7_pass_0 : decode cX7_pass 0 = .ok (.aload_n 0, 1) := by decide +kernel
theorem dX7_pass_1 : decode cX7_pass 1 = .ok (.getfield 22, 3) := by decide +kernel
theorem dX7_pass_4 : decode cX7_pass 4 = .ok (.aload_n 0, 1) := by decide +kernel
theorem dX7_pass_5 : decode cX7_pass 5 = .ok (.getfield 10, 3) := by decide +kernel
theorem dX7_pass_8 : decode cX7_pass 8 = .ok (.invokevirtual 46, 3) := by decide +kernel
theorem dX7_pass_11 : decode cX7_pass 11 = .ok (.aload_n 0, 1) := by decide +kernel
theorem dX7_pass_12 : decode cX7_pass 12 = .ok (.getfield 22, 3) := by decide +kernel
theorem dX7_pass_15 : decode cX7_pass 15 = .ok (.aload_n 0, 1) := by decide +kernel
theorem dX7_pass_16 : decode cX7_pass 16 = .ok (.getfield 10, 3) := by decide +kernel
theorem dX7_pass_19 : decode cX7_pass 19 = .ok (.iload_n 1, 1) := by decide +kernel
theorem dX7_pass_20 : decode cX7_pass 20 = .ok (.invokevirtual 74, 3) := by decide +kernel
theorem dX7_pass_23 : decode cX7_pass 23 = .ok (.invokevirtual 54, 3) := by decide +kernel
theorem dX7_pass_26 : decode cX7_pass 26 = .ok (.ireturn, 1) := by decide +kernel
theorem dX7_ofWire_0 : decode cX7_ofWire 0 = .ok (.iload_n 1, 1) := by decide +kernel
theorem dX7_ofWire_1 : decode cX7_ofWire 1 = .ok (.invokestatic 77, 3) := by decide +kernel
theorem dX7_ofWire_4 : decode cX7_ofWire 4 = .ok (.ifCond .ne 5, 3) := by decide +kernel
theorem dX7_ofWire_7 : decode cX7_ofWire 7 = .ok (.iconst (-1), 1) := by decide +kernel
theorem dX7_ofWire_8 : decode cX7_ofWire 8 = .ok (.ireturn, 1) := by decide +kernel
theorem dX7_ofWire_9 : decode cX7_ofWire 9 = .ok (.iload_n 2, 1) := by decide +kernel
theorem dX7_ofWire_10 : decode cX7_ofWire 10 = .ok (.tableswitch 118 0 6 #[42, 52, 69, 78, 89, 98, 108], 42) := by decide +kernel
theorem dX7_ofWire_52 : decode cX7_ofWire 52 = .ok (.aload_n 0, 1) := by decide +kernel
theorem dX7_ofWire_53 : decode cX7_ofWire 53 = .ok (.getfield 10, 3) := by decide +kernel
theorem dX7_ofWire_56 : decode cX7_ofWire 56 = .ok (.getfield 81, 3) := by decide +kernel
theorem dX7_ofWire_59 : decode cX7_ofWire 59 = .ok (.iload_n 1, 1) := by decide +kernel
theorem dX7_ofWire_60 : decode cX7_ofWire 60 = .ok (.iaload, 1) := by decide +kernel
theorem dX7_ofWire_61 : decode cX7_ofWire 61 = .ok (.ireturn, 1) := by decide +kernel
theorem dX7_ofWire_62 : decode cX7_ofWire 62 = .ok (.aload_n 0, 1) := by decide +kernel
theorem dX7_ofWire_63 : decode cX7_ofWire 63 = .ok (.getfield 10, 3) := by decide +kernel
theorem dX7_ofWire_66 : decode cX7_ofWire 66 = .ok (.iload_n 1, 1) := by decide +kernel
theorem dX7_ofWire_67 : decode cX7_ofWire 67 = .ok (.invokevirtual 85, 3) := by decide +kernel
theorem dX7_ofWire_70 : decode cX7_ofWire 70 = .ok (.ifCond .eq 7, 3) := by decide +kernel
theorem dX7_ofWire_73 : decode cX7_ofWire 73 = .ok (.iconst 1, 1) := by decide +kernel
theorem dX7_ofWire_74 : decode cX7_ofWire 74 = .ok (.goto 4, 3) := by decide +kernel
theorem dX7_ofWire_77 : decode cX7_ofWire 77 = .ok (.iconst 0, 1) := by decide +kernel
theorem dX7_ofWire_78 : decode cX7_ofWire 78 = .ok (.ireturn, 1) := by decide +kernel
theorem dX7_ofWire_79 : decode cX7_ofWire 79 = .ok (.aload_n 0, 1) := by decide +kernel
theorem dX7_ofWire_80 : decode cX7_ofWire 80 = .ok (.getfield 10, 3) := by decide +kernel
theorem dX7_ofWire_83 : decode cX7_ofWire 83 = .ok (.iload_n 1, 1) := by decide +kernel
theorem dX7_ofWire_84 : decode cX7_ofWire 84 = .ok (.invokevirtual 88, 3) := by decide +kernel
theorem dX7_ofWire_87 : decode cX7_ofWire 87 = .ok (.ireturn, 1) := by decide +kernel
theorem dX7_ofWire_88 : decode cX7_ofWire 88 = .ok (.aload_n 0, 1) := by decide +kernel
theorem dX7_ofWire_89 : decode cX7_ofWire 89 = .ok (.getfield 10, 3) := by decide +kernel
theorem dX7_ofWire_92 : decode cX7_ofWire 92 = .ok (.iconst 1, 1) := by decide +kernel
theorem dX7_ofWire_93 : decode cX7_ofWire 93 = .ok (.iload_n 1, 1) := by decide +kernel
theorem dX7_ofWire_94 : decode cX7_ofWire 94 = .ok (.ishl, 1) := by decide +kernel
theorem dX7_ofWire_95 : decode cX7_ofWire 95 = .ok (.invokevirtual 91, 3) := by decide +kernel
theorem dX7_ofWire_98 : decode cX7_ofWire 98 = .ok (.ireturn, 1) := by decide +kernel
theorem dX7_ofWire_99 : decode cX7_ofWire 99 = .ok (.aload_n 0, 1) := by decide +kernel
theorem dX7_ofWire_100 : decode cX7_ofWire 100 = .ok (.getfield 10, 3) := by decide +kernel
theorem dX7_ofWire_103 : decode cX7_ofWire 103 = .ok (.iload_n 1, 1) := by decide +kernel
theorem dX7_ofWire_104 : decode cX7_ofWire 104 = .ok (.invokevirtual 94, 3) := by decide +kernel
theorem dX7_ofWire_107 : decode cX7_ofWire 107 = .ok (.ireturn, 1) := by decide +kernel
theorem dX7_ofWire_108 : decode cX7_ofWire 108 = .ok (.aload_n 0, 1) := by decide +kernel
theorem dX7_ofWire_109 : decode cX7_ofWire 109 = .ok (.getfield 10, 3) := by decide +kernel
theorem dX7_ofWire_112 : decode cX7_ofWire 112 = .ok (.getfield 97, 3) := by decide +kernel
theorem dX7_ofWire_115 : decode cX7_ofWire 115 = .ok (.iload_n 1, 1) := by decide +kernel
theorem dX7_ofWire_116 : decode cX7_ofWire 116 = .ok (.iaload, 1) := by decide +kernel
theorem dX7_ofWire_117 : decode cX7_ofWire 117 = .ok (.ireturn, 1) := by decide +kernel
theorem dX7_ofWire_118 : decode cX7_ofWire 118 = .ok (.aload_n 0, 1) := by decide +kernel
theorem dX7_ofWire_119 : decode cX7_ofWire 119 = .ok (.getfield 10, 3) := by decide +kernel
theorem dX7_ofWire_122 : decode cX7_ofWire 122 = .ok (.getfield 100, 3) := by decide +kernel
theorem dX7_ofWire_125 : decode cX7_ofWire 125 = .ok (.iload_n 1, 1) := by decide +kernel
theorem dX7_ofWire_126 : decode cX7_ofWire 126 = .ok (.iaload, 1) := by decide +kernel
theorem dX7_ofWire_127 : decode cX7_ofWire 127 = .ok (.ireturn, 1) := by decide +kernel
theorem dX7_ofWire_128 : decode cX7_ofWire 128 = .ok (.bipush (-2), 2) := by decide +kernel
theorem dX7_ofWire_130 : decode cX7_ofWire 130 = .ok (.ireturn, 1) := by decide +kernel
theorem dX7_of_0 : decode cX7_of 0 = .ok (.aload_n 0, 1) := by decide +kernel
theorem dX7_of_1 : decode cX7_of 1 = .ok (.getfield 10, 3) := by decide +kernel
theorem dX7_of_4 : decode cX7_of 4 = .ok (.iload_n 1, 1) := by decide +kernel
theorem dX7_of_5 : decode cX7_of 5 = .ok (.invokevirtual 103, 3) := by decide +kernel
theorem dX7_of_8 : decode cX7_of 8 = .ok (.astore_n 3, 1) := by decide +kernel
theorem dX7_of_9 : decode cX7_of 9 = .ok (.aload_n 3, 1) := by decide +kernel
theorem dX7_of_10 : decode cX7_of 10 = .ok (.ifnonnull 7, 3) := by decide +kernel
theorem dX7_of_13 : decode cX7_of 13 = .ok (.iconst (-1), 1) := by decide +kernel
theorem dX7_of_14 : decode cX7_of 14 = .ok (.goto 8, 3) := by decide +kernel
theorem dX7_of_17 : decode cX7_of 17 = .ok (.aload_n 3, 1) := by decide +kernel
theorem dX7_of_18 : decode cX7_of 18 = .ok (.iload_n 2, 1) := by decide +kernel
theorem dX7_of_19 : decode cX7_of 19 = .ok (.invokevirtual 107, 3) := by decide +kernel
theorem dX7_of_22 : decode cX7_of 22 = .ok (.ireturn, 1) := by decide +kernel
theorem dX7_row_0 : decode cX7_row 0 = .ok (.aload_n 0, 1) := by decide +kernel
theorem dX7_row_1 : decode cX7_row 1 = .ok (.getfield 10, 3) := by decide +kernel
theorem dX7_row_4 : decode cX7_row 4 = .ok (.iload_n 1, 1) := by decide +kernel
theorem dX7_row_5 : decode cX7_row 5 = .ok (.invokevirtual 103, 3) := by decide +kernel
theorem dX7_row_8 : decode cX7_row 8 = .ok (.astore 4, 2) := by decide +kernel
theorem dX7_row_10 : decode cX7_row 10 = .ok (.aload 4, 2) := by decide +kernel
theorem dX7_row_12 : decode cX7_row 12 = .ok (.ifnull 15, 3) := by decide +kernel
theorem dX7_row_15 : decode cX7_row 15 = .ok (.aload 4, 2) := by decide +kernel
theorem dX7_row_17 : decode cX7_row 17 = .ok (.getfield 112, 3) := by decide +kernel
theorem dX7_row_20 : decode cX7_row 20 = .ok (.iload_n 2, 1) := by decide +kernel
theorem dX7_row_21 : decode cX7_row 21 = .ok (.invokevirtual 116, 3) := by decide +kernel
theorem dX7_row_24 : decode cX7_row 24 = .ok (.ifCond .ne 5, 3) := by decide +kernel
theorem dX7_row_27 : decode cX7_row 27 = .ok (.iconst (-1), 1) := by decide +kernel
theorem dX7_row_28 : decode cX7_row 28 = .ok (.ireturn, 1) := by decide +kernel
theorem dX7_row_29 : decode cX7_row 29 = .ok (.iload_n 3, 1) := by decide +kernel
theorem dX7_row_30 : decode cX7_row 30 = .ok (.tableswitch 56 0 2 #[26, 36, 46], 26) := by decide +kernel
theorem dX7_row_56 : decode cX7_row 56 = .ok (.aload 4, 2) := by decide +kernel
theorem dX7_row_58 : decode cX7_row 58 = .ok (.getfield 112, 3) := by decide +kernel
theorem dX7_row_61 : decode cX7_row 61 = .ok (.iload_n 2, 1) := by decide +kernel
theorem dX7_row_62 : decode cX7_row 62 = .ok (.invokevirtual 121, 3) := by decide +kernel
theorem dX7_row_65 : decode cX7_row 65 = .ok (.ireturn, 1) := by decide +kernel
theorem dX7_row_66 : decode cX7_row 66 = .ok (.aload 4, 2) := by decide +kernel
theorem dX7_row_68 : decode cX7_row 68 = .ok (.getfield 112, 3) := by decide +kernel
theorem dX7_row_71 : decode cX7_row 71 = .ok (.iload_n 2, 1) := by decide +kernel
theorem dX7_row_72 : decode cX7_row 72 = .ok (.invokevirtual 124, 3) := by decide +kernel
theorem dX7_row_75 : decode cX7_row 75 = .ok (.ireturn, 1) := by decide +kernel
theorem dX7_row_76 : decode cX7_row 76 = .ok (.aload 4, 2) := by decide +kernel
theorem dX7_row_78 : decode cX7_row 78 = .ok (.getfield 112, 3) := by decide +kernel
theorem dX7_row_81 : decode cX7_row 81 = .ok (.iload_n 2, 1) := by decide +kernel
theorem dX7_row_82 : decode cX7_row 82 = .ok (.invokevirtual 127, 3) := by decide +kernel
theorem dX7_row_85 : decode cX7_row 85 = .ok (.ireturn, 1) := by decide +kernel
theorem dX7_row_86 : decode cX7_row 86 = .ok (.bipush (-2), 2) := by decide +kernel
theorem dX7_row_88 : decode cX7_row 88 = .ok (.ireturn, 1) := by decide +kernel
theorem dX7_heard_0 : decode cX7_heard 0 = .ok (.aload_n 0, 1) := by decide +kernel
theorem dX7_heard_1 : decode cX7_heard 1 = .ok (.getfield 10, 3) := by decide +kernel
theorem dX7_heard_4 : decode cX7_heard 4 = .ok (.iload_n 1, 1) := by decide +kernel
theorem dX7_heard_5 : decode cX7_heard 5 = .ok (.invokevirtual 103, 3) := by decide +kernel
theorem dX7_heard_8 : decode cX7_heard 8 = .ok (.astore 4, 2) := by decide +kernel
theorem dX7_heard_10 : decode cX7_heard 10 = .ok (.aload 4, 2) := by decide +kernel
theorem dX7_heard_12 : decode cX7_heard 12 = .ok (.ifnull 15, 3) := by decide +kernel
theorem dX7_heard_15 : decode cX7_heard 15 = .ok (.aload 4, 2) := by decide +kernel
theorem dX7_heard_17 : decode cX7_heard 17 = .ok (.getfield 130, 3) := by decide +kernel
theorem dX7_heard_20 : decode cX7_heard 20 = .ok (.iload_n 2, 1) := by decide +kernel
theorem dX7_heard_21 : decode cX7_heard 21 = .ok (.invokevirtual 134, 3) := by decide +kernel
theorem dX7_heard_24 : decode cX7_heard 24 = .ok (.ifCond .ne 5, 3) := by decide +kernel
theorem dX7_heard_27 : decode cX7_heard 27 = .ok (.iconst (-1), 1) := by decide +kernel
theorem dX7_heard_28 : decode cX7_heard 28 = .ok (.ireturn, 1) := by decide +kernel
theorem dX7_heard_29 : decode cX7_heard 29 = .ok (.aload 4, 2) := by decide +kernel
theorem dX7_heard_31 : decode cX7_heard 31 = .ok (.getfield 130, 3) := by decide +kernel
theorem dX7_heard_34 : decode cX7_heard 34 = .ok (.iload_n 2, 1) := by decide +kernel
theorem dX7_heard_35 : decode cX7_heard 35 = .ok (.iload_n 3, 1) := by decide +kernel
theorem dX7_heard_36 : decode cX7_heard 36 = .ok (.invokevirtual 137, 3) := by decide +kernel
theorem dX7_heard_39 : decode cX7_heard 39 = .ok (.ireturn, 1) := by decide +kernel
theorem dX7_count_0 : decode cX7_count 0 = .ok (.iload_n 1, 1) := by decide +kernel
theorem dX7_count_1 : decode cX7_count 1 = .ok (.tableswitch 202 0 16 #[83, 91, 99, 109, 117, 126, 136, 146, 156, 164, 173, 173, 173, 173, 173, 186, 194], 83) := by decide +kernel
theorem dX7_count_84 : decode cX7_count 84 = .ok (.aload_n 0, 1) := by decide +kernel
theorem dX7_count_85 : decode cX7_count 85 = .ok (.getfield 10, 3) := by decide +kernel
theorem dX7_count_88 : decode cX7_count 88 = .ok (.getfield 139, 3) := by decide +kernel
theorem dX7_count_91 : decode cX7_count 91 = .ok (.ireturn, 1) := by decide +kernel
theorem dX7_count_92 : decode cX7_count 92 = .ok (.aload_n 0, 1) := by decide +kernel
theorem dX7_count_93 : decode cX7_count 93 = .ok (.getfield 10, 3) := by decide +kernel
theorem dX7_count_96 : decode cX7_count 96 = .ok (.getfield 143, 3) := by decide +kernel
theorem dX7_count_99 : decode cX7_count 99 = .ok (.ireturn, 1) := by decide +kernel
theorem dX7_count_100 : decode cX7_count 100 = .ok (.aload_n 0, 1) := by decide +kernel
theorem dX7_count_101 : decode cX7_count 101 = .ok (.getfield 10, 3) := by decide +kernel
theorem dX7_count_104 : decode cX7_count 104 = .ok (.bipush 63, 2) := by decide +kernel
theorem dX7_count_106 : decode cX7_count 106 = .ok (.invokevirtual 91, 3) := by decide +kernel
theorem dX7_count_109 : decode cX7_count 109 = .ok (.ireturn, 1) := by decide +kernel
theorem dX7_count_110 : decode cX7_count 110 = .ok (.aload_n 0, 1) := by decide +kernel
theorem dX7_count_111 : decode cX7_count 111 = .ok (.getfield 10, 3) := by decide +kernel
theorem dX7_count_114 : decode cX7_count 114 = .ok (.invokevirtual 146, 3) := by decide +kernel
theorem dX7_count_117 : decode cX7_count 117 = .ok (.ireturn, 1) := by decide +kernel
theorem dX7_count_118 : decode cX7_count 118 = .ok (.aload_n 0, 1) := by decide +kernel
theorem dX7_count_119 : decode cX7_count 119 = .ok (.getfield 10, 3) := by decide +kernel
theorem dX7_count_122 : decode cX7_count 122 = .ok (.iconst 3, 1) := by decide +kernel
theorem dX7_count_123 : decode cX7_count 123 = .ok (.invokevirtual 150, 3) := by decide +kernel
theorem dX7_count_126 : decode cX7_count 126 = .ok (.ireturn, 1) := by decide +kernel
theorem dX7_count_127 : decode cX7_count 127 = .ok (.aload_n 0, 1) := by decide +kernel
theorem dX7_count_128 : decode cX7_count 128 = .ok (.getfield 10, 3) := by decide +kernel
theorem dX7_count_131 : decode cX7_count 131 = .ok (.bipush 6, 2) := by decide +kernel
theorem dX7_count_133 : decode cX7_count 133 = .ok (.invokevirtual 150, 3) := by decide +kernel
theorem dX7_count_136 : decode cX7_count 136 = .ok (.ireturn, 1) := by decide +kernel
theorem dX7_count_137 : decode cX7_count 137 = .ok (.aload_n 0, 1) := by decide +kernel
theorem dX7_count_138 : decode cX7_count 138 = .ok (.getfield 10, 3) := by decide +kernel
theorem dX7_count_141 : decode cX7_count 141 = .ok (.bipush 7, 2) := by decide +kernel
theorem dX7_count_143 : decode cX7_count 143 = .ok (.invokevirtual 150, 3) := by decide +kernel
theorem dX7_count_146 : decode cX7_count 146 = .ok (.ireturn, 1) := by decide +kernel
theorem dX7_count_147 : decode cX7_count 147 = .ok (.aload_n 0, 1) := by decide +kernel
theorem dX7_count_148 : decode cX7_count 148 = .ok (.getfield 10, 3) := by decide +kernel
theorem dX7_count_151 : decode cX7_count 151 = .ok (.bipush 9, 2) := by decide +kernel
theorem dX7_count_153 : decode cX7_count 153 = .ok (.invokevirtual 150, 3) := by decide +kernel
theorem dX7_count_156 : decode cX7_count 156 = .ok (.ireturn, 1) := by decide +kernel
theorem dX7_count_157 : decode cX7_count 157 = .ok (.aload_n 0, 1) := by decide +kernel
theorem dX7_count_158 : decode cX7_count 158 = .ok (.getfield 10, 3) := by decide +kernel
theorem dX7_count_161 : decode cX7_count 161 = .ok (.getfield 153, 3) := by decide +kernel
theorem dX7_count_164 : decode cX7_count 164 = .ok (.ireturn, 1) := by decide +kernel
theorem dX7_count_165 : decode cX7_count 165 = .ok (.aload_n 0, 1) := by decide +kernel
theorem dX7_count_166 : decode cX7_count 166 = .ok (.getfield 10, 3) := by decide +kernel
theorem dX7_count_169 : decode cX7_count 169 = .ok (.iconst 1, 1) := by decide +kernel
theorem dX7_count_170 : decode cX7_count 170 = .ok (.invokevirtual 150, 3) := by decide +kernel
theorem dX7_count_173 : decode cX7_count 173 = .ok (.ireturn, 1) := by decide +kernel
theorem dX7_count_174 : decode cX7_count 174 = .ok (.aload_n 0, 1) := by decide +kernel
theorem dX7_count_175 : decode cX7_count 175 = .ok (.getfield 10, 3) := by decide +kernel
theorem dX7_count_178 : decode cX7_count 178 = .ok (.getfield 156, 3) := by decide +kernel
theorem dX7_count_181 : decode cX7_count 181 = .ok (.iload_n 1, 1) := by decide +kernel
theorem dX7_count_182 : decode cX7_count 182 = .ok (.bipush 10, 2) := by decide +kernel
theorem dX7_count_184 : decode cX7_count 184 = .ok (.isub, 1) := by decide +kernel
theorem dX7_count_185 : decode cX7_count 185 = .ok (.iaload, 1) := by decide +kernel
theorem dX7_count_186 : decode cX7_count 186 = .ok (.ireturn, 1) := by decide +kernel
theorem dX7_count_187 : decode cX7_count 187 = .ok (.aload_n 0, 1) := by decide +kernel
theorem dX7_count_188 : decode cX7_count 188 = .ok (.getfield 33, 3) := by decide +kernel
theorem dX7_count_191 : decode cX7_count 191 = .ok (.getfield 159, 3) := by decide +kernel
theorem dX7_count_194 : decode cX7_count 194 = .ok (.ireturn, 1) := by decide +kernel
theorem dX7_count_195 : decode cX7_count 195 = .ok (.aload_n 0, 1) := by decide +kernel
theorem dX7_count_196 : decode cX7_count 196 = .ok (.getfield 22, 3) := by decide +kernel
theorem dX7_count_199 : decode cX7_count 199 = .ok (.getfield 162, 3) := by decide +kernel
theorem dX7_count_202 : decode cX7_count 202 = .ok (.ireturn, 1) := by decide +kernel
theorem dX7_count_203 : decode cX7_count 203 = .ok (.bipush (-2), 2) := by decide +kernel
theorem dX7_count_205 : decode cX7_count 205 = .ok (.ireturn, 1) := by decide +kernel
theorem dX7_why_0 : decode cX7_why 0 = .ok (.aload_n 0, 1) := by decide +kernel
theorem dX7_why_1 : decode cX7_why 1 = .ok (.getfield 10, 3) := by decide +kernel
theorem dX7_why_4 : decode cX7_why 4 = .ok (.iload_n 1, 1) := by decide +kernel
theorem dX7_why_5 : decode cX7_why 5 = .ok (.invokevirtual 103, 3) := by decide +kernel
theorem dX7_why_8 : decode cX7_why 8 = .ok (.astore_n 2, 1) := by decide +kernel
theorem dX7_why_9 : decode cX7_why 9 = .ok (.aload_n 2, 1) := by decide +kernel
theorem dX7_why_10 : decode cX7_why 10 = .ok (.ifnonnull 5, 3) := by decide +kernel
theorem dX7_why_13 : decode cX7_why 13 = .ok (.iconst (-1), 1) := by decide +kernel
theorem dX7_why_14 : decode cX7_why 14 = .ok (.ireturn, 1) := by decide +kernel
theorem dX7_why_15 : decode cX7_why 15 = .ok (.aload_n 2, 1) := by decide +kernel
theorem dX7_why_16 : decode cX7_why 16 = .ok (.invokevirtual 163, 3) := by decide +kernel
theorem dX7_why_19 : decode cX7_why 19 = .ok (.ifCond .eq 5, 3) := by decide +kernel
theorem dX7_why_22 : decode cX7_why 22 = .ok (.iconst 1, 1) := by decide +kernel
theorem dX7_why_23 : decode cX7_why 23 = .ok (.ireturn, 1) := by decide +kernel
theorem dX7_why_24 : decode cX7_why 24 = .ok (.aload_n 2, 1) := by decide +kernel
theorem dX7_why_25 : decode cX7_why 25 = .ok (.getfield 167, 3) := by decide +kernel
theorem dX7_why_28 : decode cX7_why 28 = .ok (.ifCond .eq 5, 3) := by decide +kernel
theorem dX7_why_31 : decode cX7_why 31 = .ok (.iconst 2, 1) := by decide +kernel
theorem dX7_why_32 : decode cX7_why 32 = .ok (.ireturn, 1) := by decide +kernel
theorem dX7_why_33 : decode cX7_why 33 = .ok (.aload_n 2, 1) := by decide +kernel
theorem dX7_why_34 : decode cX7_why 34 = .ok (.getfield 171, 3) := by decide +kernel
theorem dX7_why_37 : decode cX7_why 37 = .ok (.ifCond .eq 5, 3) := by decide +kernel
theorem dX7_why_40 : decode cX7_why 40 = .ok (.iconst 3, 1) := by decide +kernel
theorem dX7_why_41 : decode cX7_why 41 = .ok (.ireturn, 1) := by decide +kernel
theorem dX7_why_42 : decode cX7_why 42 = .ok (.aload_n 2, 1) := by decide +kernel
theorem dX7_why_43 : decode cX7_why 43 = .ok (.getfield 112, 3) := by decide +kernel
theorem dX7_why_46 : decode cX7_why 46 = .ok (.getfield 174, 3) := by decide +kernel
theorem dX7_why_49 : decode cX7_why 49 = .ok (.ifCond .ne 5, 3) := by decide +kernel
theorem dX7_why_52 : decode cX7_why 52 = .ok (.iconst 4, 1) := by decide +kernel
theorem dX7_why_53 : decode cX7_why 53 = .ok (.ireturn, 1) := by decide +kernel
theorem dX7_why_54 : decode cX7_why 54 = .ok (.aload_n 2, 1) := by decide +kernel
theorem dX7_why_55 : decode cX7_why 55 = .ok (.getfield 112, 3) := by decide +kernel
theorem dX7_why_58 : decode cX7_why 58 = .ok (.iconst 0, 1) := by decide +kernel
theorem dX7_why_59 : decode cX7_why 59 = .ok (.invokevirtual 124, 3) := by decide +kernel
theorem dX7_why_62 : decode cX7_why 62 = .ok (.istore_n 3, 1) := by decide +kernel
theorem dX7_why_63 : decode cX7_why 63 = .ok (.aload_n 0, 1) := by decide +kernel
theorem dX7_why_64 : decode cX7_why 64 = .ok (.getfield 10, 3) := by decide +kernel
theorem dX7_why_67 : decode cX7_why 67 = .ok (.iload_n 3, 1) := by decide +kernel
theorem dX7_why_68 : decode cX7_why 68 = .ok (.invokevirtual 175, 3) := by decide +kernel
theorem dX7_why_71 : decode cX7_why 71 = .ok (.ifCond .eq 5, 3) := by decide +kernel
theorem dX7_why_74 : decode cX7_why 74 = .ok (.iconst 0, 1) := by decide +kernel
theorem dX7_why_75 : decode cX7_why 75 = .ok (.ireturn, 1) := by decide +kernel
theorem dX7_why_76 : decode cX7_why 76 = .ok (.aload_n 0, 1) := by decide +kernel
theorem dX7_why_77 : decode cX7_why 77 = .ok (.getfield 10, 3) := by decide +kernel
theorem dX7_why_80 : decode cX7_why 80 = .ok (.iload_n 3, 1) := by decide +kernel
theorem dX7_why_81 : decode cX7_why 81 = .ok (.invokevirtual 85, 3) := by decide +kernel
theorem dX7_why_84 : decode cX7_why 84 = .ok (.ifCond .eq 7, 3) := by decide +kernel
theorem dX7_why_87 : decode cX7_why 87 = .ok (.iconst 5, 1) := by decide +kernel
theorem dX7_why_88 : decode cX7_why 88 = .ok (.goto 5, 3) := by decide +kernel
theorem dX7_why_91 : decode cX7_why 91 = .ok (.bipush 6, 2) := by decide +kernel
theorem dX7_why_93 : decode cX7_why 93 = .ok (.ireturn, 1) := by decide +kernel
theorem dX7_endsIn_0 : decode cX7_endsIn 0 = .ok (.aload_n 0, 1) := by decide +kernel
theorem dX7_endsIn_1 : decode cX7_endsIn 1 = .ok (.getfield 10, 3) := by decide +kernel
theorem dX7_endsIn_4 : decode cX7_endsIn 4 = .ok (.iload_n 1, 1) := by decide +kernel
theorem dX7_endsIn_5 : decode cX7_endsIn 5 = .ok (.invokevirtual 103, 3) := by decide +kernel
theorem dX7_endsIn_8 : decode cX7_endsIn 8 = .ok (.astore_n 3, 1) := by decide +kernel
theorem dX7_endsIn_9 : decode cX7_endsIn 9 = .ok (.aload_n 3, 1) := by decide +kernel
theorem dX7_endsIn_10 : decode cX7_endsIn 10 = .ok (.ifnonnull 5, 3) := by decide +kernel
theorem dX7_endsIn_13 : decode cX7_endsIn 13 = .ok (.iconst (-1), 1) := by decide +kernel
theorem dX7_endsIn_14 : decode cX7_endsIn 14 = .ok (.ireturn, 1) := by decide +kernel
theorem dX7_endsIn_15 : decode cX7_endsIn 15 = .ok (.iload_n 2, 1) := by decide +kernel
theorem dX7_endsIn_16 : decode cX7_endsIn 16 = .ok (.ifCond .lt 8, 3) := by decide +kernel
theorem dX7_endsIn_19 : decode cX7_endsIn 19 = .ok (.iload_n 2, 1) := by decide +kernel
theorem dX7_endsIn_20 : decode cX7_endsIn 20 = .ok (.iconst 1, 1) := by decide +kernel
theorem dX7_endsIn_21 : decode cX7_endsIn 21 = .ok (.if_icmp .le 6, 3) := by decide +kernel
theorem dX7_endsIn_24 : decode cX7_endsIn 24 = .ok (.bipush (-2), 2) := by decide +kernel
theorem dX7_endsIn_26 : decode cX7_endsIn 26 = .ok (.ireturn, 1) := by decide +kernel
theorem dX7_endsIn_27 : decode cX7_endsIn 27 = .ok (.aload_n 3, 1) := by decide +kernel
theorem dX7_endsIn_28 : decode cX7_endsIn 28 = .ok (.getfield 112, 3) := by decide +kernel
theorem dX7_endsIn_31 : decode cX7_endsIn 31 = .ok (.getfield 174, 3) := by decide +kernel
theorem dX7_endsIn_34 : decode cX7_endsIn 34 = .ok (.ifCond .ne 6, 3) := by decide +kernel
theorem dX7_endsIn_37 : decode cX7_endsIn 37 = .ok (.bipush (-5), 2) := by decide +kernel
theorem dX7_endsIn_39 : decode cX7_endsIn 39 = .ok (.ireturn, 1) := by decide +kernel
theorem dX7_endsIn_40 : decode cX7_endsIn 40 = .ok (.aload_n 0, 1) := by decide +kernel
theorem dX7_endsIn_41 : decode cX7_endsIn 41 = .ok (.getfield 16, 3) := by decide +kernel
theorem dX7_endsIn_44 : decode cX7_endsIn 44 = .ok (.aload_n 0, 1) := by decide +kernel
theorem dX7_endsIn_45 : decode cX7_endsIn 45 = .ok (.getfield 10, 3) := by decide +kernel
theorem dX7_endsIn_48 : decode cX7_endsIn 48 = .ok (.invokevirtual 178, 3) := by decide +kernel
theorem dX7_endsIn_51 : decode cX7_endsIn 51 = .ok (.aload_n 0, 1) := by decide +kernel
theorem dX7_endsIn_52 : decode cX7_endsIn 52 = .ok (.getfield 16, 3) := by decide +kernel
theorem dX7_endsIn_55 : decode cX7_endsIn 55 = .ok (.iload_n 1, 1) := by decide +kernel
theorem dX7_endsIn_56 : decode cX7_endsIn 56 = .ok (.invokevirtual 103, 3) := by decide +kernel
theorem dX7_endsIn_59 : decode cX7_endsIn 59 = .ok (.astore 4, 2) := by decide +kernel
theorem dX7_endsIn_61 : decode cX7_endsIn 61 = .ok (.aload 4, 2) := by decide +kernel
theorem dX7_endsIn_63 : decode cX7_endsIn 63 = .ok (.ifnonnull 5, 3) := by decide +kernel
theorem dX7_endsIn_68 : decode cX7_endsIn 68 = .ok (.iconst 1, 1) := by decide +kernel
theorem dX7_endsIn_69 : decode cX7_endsIn 69 = .ok (.istore 5, 2) := by decide +kernel
theorem dX7_endsIn_71 : decode cX7_endsIn 71 = .ok (.iload 5, 2) := by decide +kernel
theorem dX7_endsIn_73 : decode cX7_endsIn 73 = .ok (.sipush 600, 3) := by decide +kernel
theorem dX7_endsIn_76 : decode cX7_endsIn 76 = .ok (.if_icmp .gt 63, 3) := by decide +kernel
theorem dX7_endsIn_79 : decode cX7_endsIn 79 = .ok (.aload_n 0, 1) := by decide +kernel
theorem dX7_endsIn_80 : decode cX7_endsIn 80 = .ok (.getfield 16, 3) := by decide +kernel
theorem dX7_endsIn_83 : decode cX7_endsIn 83 = .ok (.invokevirtual 181, 3) := by decide +kernel
theorem dX7_endsIn_86 : decode cX7_endsIn 86 = .ok (.pop, 1) := by decide +kernel
theorem dX7_endsIn_87 : decode cX7_endsIn 87 = .ok (.aload 4, 2) := by decide +kernel
theorem dX7_endsIn_89 : decode cX7_endsIn 89 = .ok (.getfield 184, 3) := by decide +kernel
theorem dX7_endsIn_92 : decode cX7_endsIn 92 = .ok (.aload_n 3, 1) := by decide +kernel
theorem dX7_endsIn_93 : decode cX7_endsIn 93 = .ok (.getfield 184, 3) := by decide +kernel
theorem dX7_endsIn_96 : decode cX7_endsIn 96 = .ok (.if_icmp .eq 14, 3) := by decide +kernel
theorem dX7_endsIn_99 : decode cX7_endsIn 99 = .ok (.iload_n 2, 1) := by decide +kernel
theorem dX7_endsIn_100 : decode cX7_endsIn 100 = .ok (.ifCond .ne 8, 3) := by decide +kernel
theorem dX7_endsIn_103 : decode cX7_endsIn 103 = .ok (.iload 5, 2) := by decide +kernel
theorem dX7_endsIn_105 : decode cX7_endsIn 105 = .ok (.goto 4, 3) := by decide +kernel
theorem dX7_endsIn_108 : decode cX7_endsIn 108 = .ok (.iconst 1, 1) := by decide +kernel
theorem dX7_endsIn_109 : decode cX7_endsIn 109 = .ok (.ireturn, 1) := by decide +kernel
theorem dX7_endsIn_110 : decode cX7_endsIn 110 = .ok (.aload 4, 2) := by decide +kernel
theorem dX7_endsIn_112 : decode cX7_endsIn 112 = .ok (.getfield 187, 3) := by decide +kernel
theorem dX7_endsIn_115 : decode cX7_endsIn 115 = .ok (.aload_n 3, 1) := by decide +kernel
theorem dX7_endsIn_116 : decode cX7_endsIn 116 = .ok (.getfield 187, 3) := by decide +kernel
theorem dX7_endsIn_119 : decode cX7_endsIn 119 = .ok (.if_icmp .eq 14, 3) := by decide +kernel
theorem dX7_endsIn_122 : decode cX7_endsIn 122 = .ok (.iload_n 2, 1) := by decide +kernel
theorem dX7_endsIn_123 : decode cX7_endsIn 123 = .ok (.ifCond .ne 8, 3) := by decide +kernel
theorem dX7_endsIn_126 : decode cX7_endsIn 126 = .ok (.iload 5, 2) := by decide +kernel
theorem dX7_endsIn_128 : decode cX7_endsIn 128 = .ok (.goto 4, 3) := by decide +kernel
theorem dX7_endsIn_131 : decode cX7_endsIn 131 = .ok (.iconst 2, 1) := by decide +kernel
theorem dX7_endsIn_132 : decode cX7_endsIn 132 = .ok (.ireturn, 1) := by decide +kernel
theorem dX7_endsIn_133 : decode cX7_endsIn 133 = .ok (.iinc 5 1, 3) := by decide +kernel
theorem dX7_endsIn_136 : decode cX7_endsIn 136 = .ok (.goto (-65), 3) := by decide +kernel
theorem dX7_endsIn_139 : decode cX7_endsIn 139 = .ok (.bipush (-6), 2) := by decide +kernel
theorem dX7_endsIn_141 : decode cX7_endsIn 141 = .ok (.ireturn, 1) := by decide +kernel
theorem dX7_quietIn_0 : decode cX7_quietIn 0 = .ok (.aload_n 0, 1) := by decide +kernel
theorem dX7_quietIn_1 : decode cX7_quietIn 1 = .ok (.getfield 16, 3) := by decide +kernel
theorem dX7_quietIn_4 : decode cX7_quietIn 4 = .ok (.aload_n 0, 1) := by decide +kernel
theorem dX7_quietIn_5 : decode cX7_quietIn 5 = .ok (.getfield 10, 3) := by decide +kernel
theorem dX7_quietIn_8 : decode cX7_quietIn 8 = .ok (.invokevirtual 178, 3) := by decide +kernel
theorem dX7_quietIn_11 : decode cX7_quietIn 11 = .ok (.iconst 0, 1) := by decide +kernel
theorem dX7_quietIn_12 : decode cX7_quietIn 12 = .ok (.istore_n 1, 1) := by decide +kernel
theorem dX7_quietIn_13 : decode cX7_quietIn 13 = .ok (.iload_n 1, 1) := by decide +kernel
theorem dX7_quietIn_14 : decode cX7_quietIn 14 = .ok (.sipush 900, 3) := by decide +kernel
theorem dX7_quietIn_17 : decode cX7_quietIn 17 = .ok (.if_icmp .gt 29, 3) := by decide +kernel
theorem dX7_quietIn_20 : decode cX7_quietIn 20 = .ok (.aload_n 0, 1) := by decide +kernel
theorem dX7_quietIn_21 : decode cX7_quietIn 21 = .ok (.getfield 16, 3) := by decide +kernel
theorem dX7_quietIn_24 : decode cX7_quietIn 24 = .ok (.invokevirtual 190, 3) := by decide +kernel
theorem dX7_quietIn_27 : decode cX7_quietIn 27 = .ok (.ifCond .ne 5, 3) := by decide +kernel
theorem dX7_quietIn_30 : decode cX7_quietIn 30 = .ok (.iload_n 1, 1) := by decide +kernel
theorem dX7_quietIn_31 : decode cX7_quietIn 31 = .ok (.ireturn, 1) := by decide +kernel
theorem dX7_quietIn_32 : decode cX7_quietIn 32 = .ok (.aload_n 0, 1) := by decide +kernel
theorem dX7_quietIn_33 : decode cX7_quietIn 33 = .ok (.getfield 16, 3) := by decide +kernel
theorem dX7_quietIn_36 : decode cX7_quietIn 36 = .ok (.invokevirtual 181, 3) := by decide +kernel
theorem dX7_quietIn_39 : decode cX7_quietIn 39 = .ok (.pop, 1) := by decide +kernel
theorem dX7_quietIn_40 : decode cX7_quietIn 40 = .ok (.iinc 1 1, 3) := by decide +kernel
theorem dX7_quietIn_43 : decode cX7_quietIn 43 = .ok (.goto (-30), 3) := by decide +kernel
theorem dX7_quietIn_46 : decode cX7_quietIn 46 = .ok (.bipush (-6), 2) := by decide +kernel
theorem dX7_quietIn_48 : decode cX7_quietIn 48 = .ok (.ireturn, 1) := by decide +kernel
theorem dX7_bestRest_0 : decode cX7_bestRest 0 = .ok (.iload_n 1, 1) := by decide +kernel
theorem dX7_bestRest_1 : decode cX7_bestRest 1 = .ok (.iconst 1, 1) := by decide +kernel
theorem dX7_bestRest_2 : decode cX7_bestRest 2 = .ok (.if_icmp .lt 19, 3) := by decide +kernel
theorem dX7_bestRest_5 : decode cX7_bestRest 5 = .ok (.iload_n 1, 1) := by decide +kernel
theorem dX7_bestRest_6 : decode cX7_bestRest 6 = .ok (.sipush 200, 3) := by decide +kernel
theorem dX7_bestRest_9 : decode cX7_bestRest 9 = .ok (.if_icmp .gt 12, 3) := by decide +kernel
theorem dX7_bestRest_12 : decode cX7_bestRest 12 = .ok (.iload_n 2, 1) := by decide +kernel
theorem dX7_bestRest_13 : decode cX7_bestRest 13 = .ok (.ifCond .lt 8, 3) := by decide +kernel
theorem dX7_bestRest_16 : decode cX7_bestRest 16 = .ok (.iload_n 2, 1) := by decide +kernel
theorem dX7_bestRest_17 : decode cX7_bestRest 17 = .ok (.iconst 1, 1) := by decide +kernel
theorem dX7_bestRest_18 : decode cX7_bestRest 18 = .ok (.if_icmp .le 6, 3) := by decide +kernel
theorem dX7_bestRest_21 : decode cX7_bestRest 21 = .ok (.bipush (-2), 2) := by decide +kernel
theorem dX7_bestRest_23 : decode cX7_bestRest 23 = .ok (.ireturn, 1) := by decide +kernel
theorem dX7_bestRest_24 : decode cX7_bestRest 24 = .ok (.getstatic 193, 3) := by decide +kernel
theorem dX7_bestRest_27 : decode cX7_bestRest 27 = .ok (.iconst 0, 1) := by decide +kernel
theorem dX7_bestRest_28 : decode cX7_bestRest 28 = .ok (.iaload, 1) := by decide +kernel
theorem dX7_bestRest_29 : decode cX7_bestRest 29 = .ok (.istore_n 3, 1) := by decide +kernel
theorem dX7_bestRest_30 : decode cX7_bestRest 30 = .ok (.iconst 0, 1) := by decide +kernel
theorem dX7_bestRest_31 : decode cX7_bestRest 31 = .ok (.istore 4, 2) := by decide +kernel
theorem dX7_bestRest_33 : decode cX7_bestRest 33 = .ok (.getstatic 193, 3) := by decide +kernel
theorem dX7_bestRest_36 : decode cX7_bestRest 36 = .ok (.iconst 0, 1) := by decide +kernel
theorem dX7_bestRest_37 : decode cX7_bestRest 37 = .ok (.iaload, 1) := by decide +kernel
theorem dX7_bestRest_38 : decode cX7_bestRest 38 = .ok (.istore 5, 2) := by decide +kernel
theorem dX7_bestRest_40 : decode cX7_bestRest 40 = .ok (.iload 5, 2) := by decide +kernel
theorem dX7_bestRest_42 : decode cX7_bestRest 42 = .ok (.getstatic 196, 3) := by decide +kernel
theorem dX7_bestRest_45 : decode cX7_bestRest 45 = .ok (.iconst 0, 1) := by decide +kernel
theorem dX7_bestRest_46 : decode cX7_bestRest 46 = .ok (.iaload, 1) := by decide +kernel
theorem dX7_bestRest_47 : decode cX7_bestRest 47 = .ok (.if_icmp .gt 32, 3) := by decide +kernel
theorem dX7_bestRest_50 : decode cX7_bestRest 50 = .ok (.aload_n 0, 1) := by decide +kernel
theorem dX7_bestRest_51 : decode cX7_bestRest 51 = .ok (.iload 5, 2) := by decide +kernel
theorem dX7_bestRest_53 : decode cX7_bestRest 53 = .ok (.iload_n 1, 1) := by decide +kernel
theorem dX7_bestRest_54 : decode cX7_bestRest 54 = .ok (.invokevirtual 199, 3) := by decide +kernel
theorem dX7_bestRest_57 : decode cX7_bestRest 57 = .ok (.istore 6, 2) := by decide +kernel
theorem dX7_bestRest_59 : decode cX7_bestRest 59 = .ok (.iload 6, 2) := by decide +kernel
theorem dX7_bestRest_61 : decode cX7_bestRest 61 = .ok (.iload 4, 2) := by decide +kernel
theorem dX7_bestRest_63 : decode cX7_bestRest 63 = .ok (.if_icmp .lt 10, 3) := by decide +kernel
theorem dX7_bestRest_66 : decode cX7_bestRest 66 = .ok (.iload 5, 2) := by decide +kernel
theorem dX7_bestRest_68 : decode cX7_bestRest 68 = .ok (.istore_n 3, 1) := by decide +kernel
theorem dX7_bestRest_69 : decode cX7_bestRest 69 = .ok (.iload 6, 2) := by decide +kernel
theorem dX7_bestRest_71 : decode cX7_bestRest 71 = .ok (.istore 4, 2) := by decide +kernel
theorem dX7_bestRest_73 : decode cX7_bestRest 73 = .ok (.iinc 5 1, 3) := by decide +kernel
theorem dX7_bestRest_76 : decode cX7_bestRest 76 = .ok (.goto (-36), 3) := by decide +kernel
theorem dX7_bestRest_79 : decode cX7_bestRest 79 = .ok (.iload_n 2, 1) := by decide +kernel
theorem dX7_bestRest_80 : decode cX7_bestRest 80 = .ok (.ifCond .ne 7, 3) := by decide +kernel
theorem dX7_bestRest_83 : decode cX7_bestRest 83 = .ok (.iload_n 3, 1) := by decide +kernel
theorem dX7_bestRest_84 : decode cX7_bestRest 84 = .ok (.goto 5, 3) := by decide +kernel
theorem dX7_bestRest_87 : decode cX7_bestRest 87 = .ok (.iload 4, 2) := by decide +kernel
theorem dX7_bestRest_89 : decode cX7_bestRest 89 = .ok (.ireturn, 1) := by decide +kernel
theorem dX7_heardWithRest_0 : decode cX7_heardWithRest 0 = .ok (.aload_n 0, 1) := by decide +kernel
theorem dX7_heardWithRest_1 : decode cX7_heardWithRest 1 = .ok (.getfield 16, 3) := by decide +kernel
theorem dX7_heardWithRest_4 : decode cX7_heardWithRest 4 = .ok (.aload_n 0, 1) := by decide +kernel
theorem dX7_heardWithRest_5 : decode cX7_heardWithRest 5 = .ok (.getfield 10, 3) := by decide +kernel
theorem dX7_heardWithRest_8 : decode cX7_heardWithRest 8 = .ok (.invokevirtual 178, 3) := by decide +kernel
theorem dX7_heardWithRest_11 : decode cX7_heardWithRest 11 = .ok (.aload_n 0, 1) := by decide +kernel
theorem dX7_heardWithRest_12 : decode cX7_heardWithRest 12 = .ok (.getfield 16, 3) := by decide +kernel
theorem dX7_heardWithRest_15 : decode cX7_heardWithRest 15 = .ok (.iconst 0, 1) := by decide +kernel
theorem dX7_heardWithRest_16 : decode cX7_heardWithRest 16 = .ok (.iload_n 1, 1) := by decide +kernel
theorem dX7_heardWithRest_17 : decode cX7_heardWithRest 17 = .ok (.invokevirtual 50, 3) := by decide +kernel
theorem dX7_heardWithRest_20 : decode cX7_heardWithRest 20 = .ok (.pop, 1) := by decide +kernel
theorem dX7_heardWithRest_21 : decode cX7_heardWithRest 21 = .ok (.iconst 0, 1) := by decide +kernel
theorem dX7_heardWithRest_22 : decode cX7_heardWithRest 22 = .ok (.istore_n 3, 1) := by decide +kernel
theorem dX7_heardWithRest_23 : decode cX7_heardWithRest 23 = .ok (.iconst 0, 1) := by decide +kernel
theorem dX7_heardWithRest_24 : decode cX7_heardWithRest 24 = .ok (.istore 4, 2) := by decide +kernel
theorem dX7_heardWithRest_26 : decode cX7_heardWithRest 26 = .ok (.iload 4, 2) := by decide +kernel
theorem dX7_heardWithRest_28 : decode cX7_heardWithRest 28 = .ok (.iload_n 2, 1) := by decide +kernel
theorem dX7_heardWithRest_29 : decode cX7_heardWithRest 29 = .ok (.if_icmp .ge 29, 3) := by decide +kernel
theorem dX7_heardWithRest_32 : decode cX7_heardWithRest 32 = .ok (.aload_n 0, 1) := by decide +kernel
theorem dX7_heardWithRest_33 : decode cX7_heardWithRest 33 = .ok (.getfield 16, 3) := by decide +kernel
theorem dX7_heardWithRest_36 : decode cX7_heardWithRest 36 = .ok (.invokevirtual 190, 3) := by decide +kernel
theorem dX7_heardWithRest_39 : decode cX7_heardWithRest 39 = .ok (.ifCond .eq 19, 3) := by decide +kernel
theorem dX7_heardWithRest_42 : decode cX7_heardWithRest 42 = .ok (.iload_n 3, 1) := by decide +kernel
theorem dX7_heardWithRest_43 : decode cX7_heardWithRest 43 = .ok (.aload_n 0, 1) := by decide +kernel
theorem dX7_heardWithRest_44 : decode cX7_heardWithRest 44 = .ok (.getfield 16, 3) := by decide +kernel
theorem dX7_heardWithRest_47 : decode cX7_heardWithRest 47 = .ok (.invokevirtual 181, 3) := by decide +kernel
theorem dX7_heardWithRest_50 : decode cX7_heardWithRest 50 = .ok (.iadd, 1) := by decide +kernel
theorem dX7_heardWithRest_51 : decode cX7_heardWithRest 51 = .ok (.istore_n 3, 1) := by decide +kernel
theorem dX7_heardWithRest_52 : decode cX7_heardWithRest 52 = .ok (.iinc 4 1, 3) := by decide +kernel
theorem dX7_heardWithRest_55 : decode cX7_heardWithRest 55 = .ok (.goto (-29), 3) := by decide +kernel
theorem dX7_heardWithRest_58 : decode cX7_heardWithRest 58 = .ok (.iload_n 3, 1) := by decide +kernel
theorem dX7_heardWithRest_59 : decode cX7_heardWithRest 59 = .ok (.ireturn, 1) := by decide +kernel
theorem dX7_busiest_0 : decode cX7_busiest 0 = .ok (.bipush (-6), 2) := by decide +kernel
theorem dX7_busiest_2 : decode cX7_busiest 2 = .ok (.istore_n 1, 1) := by decide +kernel
theorem dX7_busiest_3 : decode cX7_busiest 3 = .ok (.iconst 0, 1) := by decide +kernel
theorem dX7_busiest_4 : decode cX7_busiest 4 = .ok (.istore_n 2, 1) := by decide +kernel
theorem dX7_busiest_5 : decode cX7_busiest 5 = .ok (.iconst 0, 1) := by decide +kernel
theorem dX7_busiest_6 : decode cX7_busiest 6 = .ok (.istore_n 3, 1) := by decide +kernel
theorem dX7_busiest_7 : decode cX7_busiest 7 = .ok (.iload_n 3, 1) := by decide +kernel
theorem dX7_busiest_8 : decode cX7_busiest 8 = .ok (.bipush 6, 2) := by decide +kernel
theorem dX7_busiest_10 : decode cX7_busiest 10 = .ok (.if_icmp .ge 30, 3) := by decide +kernel
theorem dX7_busiest_13 : decode cX7_busiest 13 = .ok (.aload_n 0, 1) := by decide +kernel
theorem dX7_busiest_14 : decode cX7_busiest 14 = .ok (.getfield 10, 3) := by decide +kernel
theorem dX7_busiest_17 : decode cX7_busiest 17 = .ok (.iload_n 3, 1) := by decide +kernel
theorem dX7_busiest_18 : decode cX7_busiest 18 = .ok (.invokevirtual 94, 3) := by decide +kernel
theorem dX7_busiest_21 : decode cX7_busiest 21 = .ok (.istore 4, 2) := by decide +kernel
theorem dX7_busiest_23 : decode cX7_busiest 23 = .ok (.iload 4, 2) := by decide +kernel
theorem dX7_busiest_25 : decode cX7_busiest 25 = .ok (.iload_n 2, 1) := by decide +kernel
theorem dX7_busiest_26 : decode cX7_busiest 26 = .ok (.if_icmp .le 8, 3) := by decide +kernel
theorem dX7_busiest_29 : decode cX7_busiest 29 = .ok (.iload_n 3, 1) := by decide +kernel
theorem dX7_busiest_30 : decode cX7_busiest 30 = .ok (.istore_n 1, 1) := by decide +kernel
theorem dX7_busiest_31 : decode cX7_busiest 31 = .ok (.iload 4, 2) := by decide +kernel
theorem dX7_busiest_33 : decode cX7_busiest 33 = .ok (.istore_n 2, 1) := by decide +kernel
theorem dX7_busiest_34 : decode cX7_busiest 34 = .ok (.iinc 3 1, 3) := by decide +kernel
theorem dX7_busiest_37 : decode cX7_busiest 37 = .ok (.goto (-30), 3) := by decide +kernel
theorem dX7_busiest_40 : decode cX7_busiest 40 = .ok (.iload_n 1, 1) := by decide +kernel
theorem dX7_busiest_41 : decode cX7_busiest 41 = .ok (.ireturn, 1) := by decide +kernel
theorem dX7_sleepsIn_0 : decode cX7_sleepsIn 0 = .ok (.aload_n 0, 1) := by decide +kernel
theorem dX7_sleepsIn_1 : decode cX7_sleepsIn 1 = .ok (.getfield 16, 3) := by decide +kernel
theorem dX7_sleepsIn_4 : decode cX7_sleepsIn 4 = .ok (.aload_n 0, 1) := by decide +kernel
theorem dX7_sleepsIn_5 : decode cX7_sleepsIn 5 = .ok (.getfield 10, 3) := by decide +kernel
theorem dX7_sleepsIn_8 : decode cX7_sleepsIn 8 = .ok (.invokevirtual 178, 3) := by decide +kernel
theorem dX7_sleepsIn_11 : decode cX7_sleepsIn 11 = .ok (.aload_n 0, 1) := by decide +kernel
theorem dX7_sleepsIn_12 : decode cX7_sleepsIn 12 = .ok (.getfield 16, 3) := by decide +kernel
theorem dX7_sleepsIn_15 : decode cX7_sleepsIn 15 = .ok (.iload_n 1, 1) := by decide +kernel
theorem dX7_sleepsIn_16 : decode cX7_sleepsIn 16 = .ok (.invokevirtual 103, 3) := by decide +kernel
theorem dX7_sleepsIn_19 : decode cX7_sleepsIn 19 = .ok (.astore_n 2, 1) := by decide +kernel
theorem dX7_sleepsIn_20 : decode cX7_sleepsIn 20 = .ok (.aload_n 2, 1) := by decide +kernel
theorem dX7_sleepsIn_21 : decode cX7_sleepsIn 21 = .ok (.ifnonnull 5, 3) := by decide +kernel
theorem dX7_sleepsIn_24 : decode cX7_sleepsIn 24 = .ok (.iconst (-1), 1) := by decide +kernel
theorem dX7_sleepsIn_25 : decode cX7_sleepsIn 25 = .ok (.ireturn, 1) := by decide +kernel
theorem dX7_sleepsIn_26 : decode cX7_sleepsIn 26 = .ok (.iconst 0, 1) := by decide +kernel
theorem dX7_sleepsIn_27 : decode cX7_sleepsIn 27 = .ok (.istore_n 3, 1) := by decide +kernel
theorem dX7_sleepsIn_28 : decode cX7_sleepsIn 28 = .ok (.iload_n 3, 1) := by decide +kernel
theorem dX7_sleepsIn_29 : decode cX7_sleepsIn 29 = .ok (.sipush 600, 3) := by decide +kernel
theorem dX7_sleepsIn_32 : decode cX7_sleepsIn 32 = .ok (.if_icmp .gt 26, 3) := by decide +kernel
theorem dX7_sleepsIn_35 : decode cX7_sleepsIn 35 = .ok (.aload_n 2, 1) := by decide +kernel
theorem dX7_sleepsIn_36 : decode cX7_sleepsIn 36 = .ok (.getfield 171, 3) := by decide +kernel
theorem dX7_sleepsIn_39 : decode cX7_sleepsIn 39 = .ok (.ifCond .eq 5, 3) := by decide +kernel
theorem dX7_sleepsIn_42 : decode cX7_sleepsIn 42 = .ok (.iload_n 3, 1) := by decide +kernel
theorem dX7_sleepsIn_43 : decode cX7_sleepsIn 43 = .ok (.ireturn, 1) := by decide +kernel
theorem dX7_sleepsIn_44 : decode cX7_sleepsIn 44 = .ok (.aload_n 0, 1) := by decide +kernel
theorem dX7_sleepsIn_45 : decode cX7_sleepsIn 45 = .ok (.getfield 16, 3) := by decide +kernel
theorem dX7_sleepsIn_48 : decode cX7_sleepsIn 48 = .ok (.invokevirtual 181, 3) := by decide +kernel
theorem dX7_sleepsIn_51 : decode cX7_sleepsIn 51 = .ok (.pop, 1) := by decide +kernel
theorem dX7_sleepsIn_52 : decode cX7_sleepsIn 52 = .ok (.iinc 3 1, 3) := by decide +kernel
theorem dX7_sleepsIn_55 : decode cX7_sleepsIn 55 = .ok (.goto (-27), 3) := by decide +kernel
theorem dX7_sleepsIn_58 : decode cX7_sleepsIn 58 = .ok (.bipush (-6), 2) := by decide +kernel
theorem dX7_sleepsIn_60 : decode cX7_sleepsIn 60 = .ok (.ireturn, 1) := by decide +kernel
theorem dX7_isWire_0 : decode cX7_isWire 0 = .ok (.iload_n 0, 1) := by decide +kernel
theorem dX7_isWire_1 : decode cX7_isWire 1 = .ok (.ifCond .lt 13, 3) := by decide +kernel
theorem dX7_isWire_4 : decode cX7_isWire 4 = .ok (.iload_n 0, 1) := by decide +kernel
theorem dX7_isWire_5 : decode cX7_isWire 5 = .ok (.bipush 6, 2) := by decide +kernel
theorem dX7_isWire_7 : decode cX7_isWire 7 = .ok (.if_icmp .ge 7, 3) := by decide +kernel
theorem dX7_isWire_10 : decode cX7_isWire 10 = .ok (.iconst 1, 1) := by decide +kernel
theorem dX7_isWire_11 : decode cX7_isWire 11 = .ok (.goto 4, 3) := by decide +kernel
theorem dX7_isWire_14 : decode cX7_isWire 14 = .ok (.iconst 0, 1) := by decide +kernel
theorem dX7_isWire_15 : decode cX7_isWire 15 = .ok (.ireturn, 1) := by decide +kernel
theorem dX7_copyNumbers_0 : decode cX7_copyNumbers 0 = .ok (.aload_n 0, 1) := by decide +kernel
theorem dX7_copyNumbers_1 : decode cX7_copyNumbers 1 = .ok (.iconst 0, 1) := by decide +kernel
theorem dX7_copyNumbers_2 : decode cX7_copyNumbers 2 = .ok (.aload_n 1, 1) := by decide +kernel
theorem dX7_copyNumbers_3 : decode cX7_copyNumbers 3 = .ok (.iconst 0, 1) := by decide +kernel
theorem dX7_copyNumbers_4 : decode cX7_copyNumbers 4 = .ok (.aload_n 0, 1) := by decide +kernel
theorem dX7_copyNumbers_5 : decode cX7_copyNumbers 5 = .ok (.arraylength, 1) := by decide +kernel
theorem dX7_copyNumbers_6 : decode cX7_copyNumbers 6 = .ok (.aload_n 1, 1) := by decide +kernel
theorem dX7_copyNumbers_7 : decode cX7_copyNumbers 7 = .ok (.arraylength, 1) := by decide +kernel
theorem dX7_copyNumbers_8 : decode cX7_copyNumbers 8 = .ok (.invokestatic 243, 3) := by decide +kernel
theorem dX7_copyNumbers_11 : decode cX7_copyNumbers 11 = .ok (.invokestatic 248, 3) := by decide +kernel
theorem dX7_copyNumbers_14 : decode cX7_copyNumbers 14 = .ok (.return_, 1) := by decide +kernel
theorem dJ6_bitCount_0f7a4_0 : decode cJ6_bitCount_0f7a4 0 = .ok (.iload_n 0, 1) := by decide +kernel
theorem dJ6_bitCount_0f7a4_1 : decode cJ6_bitCount_0f7a4 1 = .ok (.iload_n 0, 1) := by decide +kernel
theorem dJ6_bitCount_0f7a4_2 : decode cJ6_bitCount_0f7a4 2 = .ok (.iconst 1, 1) := by decide +kernel
theorem dJ6_bitCount_0f7a4_3 : decode cJ6_bitCount_0f7a4 3 = .ok (.iushr, 1) := by decide +kernel
theorem dJ6_bitCount_0f7a4_4 : decode cJ6_bitCount_0f7a4 4 = .ok (.ldc_w 265, 3) := by decide +kernel
theorem dJ6_bitCount_0f7a4_7 : decode cJ6_bitCount_0f7a4 7 = .ok (.iand, 1) := by decide +kernel
theorem dJ6_bitCount_0f7a4_8 : decode cJ6_bitCount_0f7a4 8 = .ok (.isub, 1) := by decide +kernel
theorem dJ6_bitCount_0f7a4_9 : decode cJ6_bitCount_0f7a4 9 = .ok (.istore_n 0, 1) := by decide +kernel
theorem dJ6_bitCount_0f7a4_10 : decode cJ6_bitCount_0f7a4 10 = .ok (.iload_n 0, 1) := by decide +kernel
theorem dJ6_bitCount_0f7a4_11 : decode cJ6_bitCount_0f7a4 11 = .ok (.ldc_w 266, 3) := by decide +kernel
theorem dJ6_bitCount_0f7a4_14 : decode cJ6_bitCount_0f7a4 14 = .ok (.iand, 1) := by decide +kernel
theorem dJ6_bitCount_0f7a4_15 : decode cJ6_bitCount_0f7a4 15 = .ok (.iload_n 0, 1) := by decide +kernel
theorem dJ6_bitCount_0f7a4_16 : decode cJ6_bitCount_0f7a4 16 = .ok (.iconst 2, 1) := by decide +kernel
theorem dJ6_bitCount_0f7a4_17 : decode cJ6_bitCount_0f7a4 17 = .ok (.iushr, 1) := by decide +kernel
theorem dJ6_bitCount_0f7a4_18 : decode cJ6_bitCount_0f7a4 18 = .ok (.ldc_w 266, 3) := by decide +kernel
theorem dJ6_bitCount_0f7a4_21 : decode cJ6_bitCount_0f7a4 21 = .ok (.iand, 1) := by decide +kernel
theorem dJ6_bitCount_0f7a4_22 : decode cJ6_bitCount_0f7a4 22 = .ok (.iadd, 1) := by decide +kernel
theorem dJ6_bitCount_0f7a4_23 : decode cJ6_bitCount_0f7a4 23 = .ok (.istore_n 0, 1) := by decide +kernel
theorem dJ6_bitCount_0f7a4_24 : decode cJ6_bitCount_0f7a4 24 = .ok (.iload_n 0, 1) := by decide +kernel
theorem dJ6_bitCount_0f7a4_25 : decode cJ6_bitCount_0f7a4 25 = .ok (.iload_n 0, 1) := by decide +kernel
theorem dJ6_bitCount_0f7a4_26 : decode cJ6_bitCount_0f7a4 26 = .ok (.iconst 4, 1) := by decide +kernel
theorem dJ6_bitCount_0f7a4_27 : decode cJ6_bitCount_0f7a4 27 = .ok (.iushr, 1) := by decide +kernel
theorem dJ6_bitCount_0f7a4_28 : decode cJ6_bitCount_0f7a4 28 = .ok (.iadd, 1) := by decide +kernel
theorem dJ6_bitCount_0f7a4_29 : decode cJ6_bitCount_0f7a4 29 = .ok (.ldc_w 267, 3) := by decide +kernel
theorem dJ6_bitCount_0f7a4_32 : decode cJ6_bitCount_0f7a4 32 = .ok (.iand, 1) := by decide +kernel
theorem dJ6_bitCount_0f7a4_33 : decode cJ6_bitCount_0f7a4 33 = .ok (.istore_n 0, 1) := by decide +kernel
theorem dJ6_bitCount_0f7a4_34 : decode cJ6_bitCount_0f7a4 34 = .ok (.iload_n 0, 1) := by decide +kernel
theorem dJ6_bitCount_0f7a4_35 : decode cJ6_bitCount_0f7a4 35 = .ok (.iload_n 0, 1) := by decide +kernel
theorem dJ6_bitCount_0f7a4_36 : decode cJ6_bitCount_0f7a4 36 = .ok (.bipush 8, 2) := by decide +kernel
theorem dJ6_bitCount_0f7a4_38 : decode cJ6_bitCount_0f7a4 38 = .ok (.iushr, 1) := by decide +kernel
theorem dJ6_bitCount_0f7a4_39 : decode cJ6_bitCount_0f7a4 39 = .ok (.iadd, 1) := by decide +kernel
theorem dJ6_bitCount_0f7a4_40 : decode cJ6_bitCount_0f7a4 40 = .ok (.istore_n 0, 1) := by decide +kernel
theorem dJ6_bitCount_0f7a4_41 : decode cJ6_bitCount_0f7a4 41 = .ok (.iload_n 0, 1) := by decide +kernel
theorem dJ6_bitCount_0f7a4_42 : decode cJ6_bitCount_0f7a4 42 = .ok (.iload_n 0, 1) := by decide +kernel
theorem dJ6_bitCount_0f7a4_43 : decode cJ6_bitCount_0f7a4 43 = .ok (.bipush 16, 2) := by decide +kernel
theorem dJ6_bitCount_0f7a4_45 : decode cJ6_bitCount_0f7a4 45 = .ok (.iushr, 1) := by decide +kernel
theorem dJ6_bitCount_0f7a4_46 : decode cJ6_bitCount_0f7a4 46 = .ok (.iadd, 1) := by decide +kernel
theorem dJ6_bitCount_0f7a4_47 : decode cJ6_bitCount_0f7a4 47 = .ok (.istore_n 0, 1) := by decide +kernel
theorem dJ6_bitCount_0f7a4_48 : decode cJ6_bitCount_0f7a4 48 = .ok (.iload_n 0, 1) := by decide +kernel
theorem dJ6_bitCount_0f7a4_49 : decode cJ6_bitCount_0f7a4 49 = .ok (.bipush 63, 2) := by decide +kernel
theorem dJ6_bitCount_0f7a4_51 : decode cJ6_bitCount_0f7a4 51 = .ok (.iand, 1) := by decide +kernel
theorem dJ6_bitCount_0f7a4_52 : decode cJ6_bitCount_0f7a4 52 = .ok (.ireturn, 1) := by decide +kernel
