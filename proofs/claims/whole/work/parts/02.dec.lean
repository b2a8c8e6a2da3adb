theorem dX0_init_0 : decode cX0_init 0 = .ok (.aload_n 0, 1) := by decide +kernel
theorem dX0_init_1 : decode cX0_init 1 = .ok (.invokespecial 3, 3) := by decide +kernel
theorem dX0_init_4 : decode cX0_init 4 = .ok (.aload_n 0, 1) := by decide +kernel
theorem dX0_init_5 : decode cX0_init 5 = .ok (.getstatic 9, 3) := by decide +kernel
theorem dX0_init_8 : decode cX0_init 8 = .ok (.invokevirtual 13, 3) := by decide +kernel
theorem dX0_init_11 : decode cX0_init 11 = .ok (.checkcast 14, 3) := by decide +kernel
theorem dX0_init_14 : decode cX0_init 14 = .ok (.putfield 18, 3) := by decide +kernel
theorem dX0_init_17 : decode cX0_init 17 = .ok (.aload_n 0, 1) := by decide +kernel
theorem dX0_init_18 : decode cX0_init 18 = .ok (.bipush 6, 2) := by decide +kernel
theorem dX0_init_20 : decode cX0_init 20 = .ok (.newarray .int, 2) := by decide +kernel
theorem dX0_init_22 : decode cX0_init 22 = .ok (.putfield 23, 3) := by decide +kernel
theorem dX0_init_25 : decode cX0_init 25 = .ok (.aload_n 0, 1) := by decide +kernel
theorem dX0_init_26 : decode cX0_init 26 = .ok (.bipush 6, 2) := by decide +kernel
theorem dX0_init_28 : decode cX0_init 28 = .ok (.newarray .int, 2) := by decide +kernel
theorem dX0_init_30 : decode cX0_init 30 = .ok (.putfield 26, 3) := by decide +kernel
theorem dX0_init_33 : decode cX0_init 33 = .ok (.aload_n 0, 1) := by decide +kernel
theorem dX0_init_34 : decode cX0_init 34 = .ok (.bipush 6, 2) := by decide +kernel
theorem dX0_init_36 : decode cX0_init 36 = .ok (.newarray .int, 2) := by decide +kernel
theorem dX0_init_38 : decode cX0_init 38 = .ok (.putfield 29, 3) := by decide +kernel
theorem dX0_init_41 : decode cX0_init 41 = .ok (.aload_n 0, 1) := by decide +kernel
theorem dX0_init_42 : decode cX0_init 42 = .ok (.bipush 8, 2) := by decide +kernel
theorem dX0_init_44 : decode cX0_init 44 = .ok (.anewarray 32, 3) := by decide +kernel
theorem dX0_init_47 : decode cX0_init 47 = .ok (.putfield 34, 3) := by decide +kernel
theorem dX0_init_50 : decode cX0_init 50 = .ok (.iconst 0, 1) := by decide +kernel
theorem dX0_init_51 : decode cX0_init 51 = .ok (.istore_n 1, 1) := by decide +kernel
theorem dX0_init_52 : decode cX0_init 52 = .ok (.iload_n 1, 1) := by decide +kernel
theorem dX0_init_53 : decode cX0_init 53 = .ok (.bipush 8, 2) := by decide +kernel
theorem dX0_init_55 : decode cX0_init 55 = .ok (.if_icmp .ge 23, 3) := by decide +kernel
theorem dX0_init_58 : decode cX0_init 58 = .ok (.aload_n 0, 1) := by decide +kernel
theorem dX0_init_59 : decode cX0_init 59 = .ok (.getfield 34, 3) := by decide +kernel
theorem dX0_init_62 : decode cX0_init 62 = .ok (.iload_n 1, 1) := by decide +kernel
theorem dX0_init_63 : decode cX0_init 63 = .ok (.new 32, 3) := by decide +kernel
theorem dX0_init_66 : decode cX0_init 66 = .ok (.dup, 1) := by decide +kernel
theorem dX0_init_67 : decode cX0_init 67 = .ok (.iload_n 1, 1) := by decide +kernel
theorem dX0_init_68 : decode cX0_init 68 = .ok (.invokespecial 38, 3) := by decide +kernel
theorem dX0_init_71 : decode cX0_init 71 = .ok (.aastore, 1) := by decide +kernel
theorem dX0_init_72 : decode cX0_init 72 = .ok (.iinc 1 1, 3) := by decide +kernel
theorem dX0_init_75 : decode cX0_init 75 = .ok (.goto (-23), 3) := by decide +kernel
theorem dX0_init_78 : decode cX0_init 78 = .ok (.return_, 1) := by decide +kernel
theorem dX0_copyFrom_0 : decode cX0_copyFrom 0 = .ok (.aload_n 1, 1) := by decide +kernel
theorem dX0_copyFrom_1 : decode cX0_copyFrom 1 = .ok (.getfield 18, 3) := by decide +kernel
theorem dX0_copyFrom_4 : decode cX0_copyFrom 4 = .ok (.aload_n 0, 1) := by decide +kernel
theorem dX0_copyFrom_5 : decode cX0_copyFrom 5 = .ok (.getfield 18, 3) := by decide +kernel
theorem dX0_copyFrom_8 : decode cX0_copyFrom 8 = .ok (.invokestatic 41, 3) := by decide +kernel
theorem dX0_copyFrom_11 : decode cX0_copyFrom 11 = .ok (.aload_n 1, 1) := by decide +kernel
theorem dX0_copyFrom_12 : decode cX0_copyFrom 12 = .ok (.getfield 23, 3) := by decide +kernel
theorem dX0_copyFrom_15 : decode cX0_copyFrom 15 = .ok (.aload_n 0, 1) := by decide +kernel
theorem dX0_copyFrom_16 : decode cX0_copyFrom 16 = .ok (.getfield 23, 3) := by decide +kernel
theorem dX0_copyFrom_19 : decode cX0_copyFrom 19 = .ok (.invokestatic 41, 3) := by decide +kernel
theorem dX0_copyFrom_22 : decode cX0_copyFrom 22 = .ok (.aload_n 1, 1) := by decide +kernel
theorem dX0_copyFrom_23 : decode cX0_copyFrom 23 = .ok (.getfield 26, 3) := by decide +kernel
theorem dX0_copyFrom_26 : decode cX0_copyFrom 26 = .ok (.aload_n 0, 1) := by decide +kernel
theorem dX0_copyFrom_27 : decode cX0_copyFrom 27 = .ok (.getfield 26, 3) := by decide +kernel
theorem dX0_copyFrom_30 : decode cX0_copyFrom 30 = .ok (.invokestatic 41, 3) := by decide +kernel
theorem dX0_copyFrom_33 : decode cX0_copyFrom 33 = .ok (.aload_n 1, 1) := by decide +kernel
theorem dX0_copyFrom_34 : decode cX0_copyFrom 34 = .ok (.getfield 29, 3) := by decide +kernel
theorem dX0_copyFrom_37 : decode cX0_copyFrom 37 = .ok (.aload_n 0, 1) := by decide +kernel
theorem dX0_copyFrom_38 : decode cX0_copyFrom 38 = .ok (.getfield 29, 3) := by decide +kernel
theorem dX0_copyFrom_41 : decode cX0_copyFrom 41 = .ok (.invokestatic 41, 3) := by decide +kernel
theorem dX0_copyFrom_44 : decode cX0_copyFrom 44 = .ok (.iconst 0, 1) := by decide +kernel
theorem dX0_copyFrom_45 : decode cX0_copyFrom 45 = .ok (.istore_n 2, 1) := by decide +kernel
theorem dX0_copyFrom_46 : decode cX0_copyFrom 46 = .ok (.iload_n 2, 1) := by decide +kernel
theorem dX0_copyFrom_47 : decode cX0_copyFrom 47 = .ok (.bipush 8, 2) := by decide +kernel
theorem dX0_copyFrom_49 : decode cX0_copyFrom 49 = .ok (.if_icmp .ge 24, 3) := by decide +kernel
theorem dX0_copyFrom_52 : decode cX0_copyFrom 52 = .ok (.aload_n 0, 1) := by decide +kernel
theorem dX0_copyFrom_53 : decode cX0_copyFrom 53 = .ok (.getfield 34, 3) := by decide +kernel
theorem dX0_copyFrom_56 : decode cX0_copyFrom 56 = .ok (.iload_n 2, 1) := by decide +kernel
theorem dX0_copyFrom_57 : decode cX0_copyFrom 57 = .ok (.aaload, 1) := by decide +kernel
theorem dX0_copyFrom_58 : decode cX0_copyFrom 58 = .ok (.aload_n 1, 1) := by decide +kernel
theorem dX0_copyFrom_59 : decode cX0_copyFrom 59 = .ok (.getfield 34, 3) := by decide +kernel
theorem dX0_copyFrom_62 : decode cX0_copyFrom 62 = .ok (.iload_n 2, 1) := by decide +kernel
theorem dX0_copyFrom_63 : decode cX0_copyFrom 63 = .ok (.aaload, 1) := by decide +kernel
theorem dX0_copyFrom_64 : decode cX0_copyFrom 64 = .ok (.invokevirtual 45, 3) := by decide +kernel
theorem dX0_copyFrom_67 : decode cX0_copyFrom 67 = .ok (.iinc 2 1, 3) := by decide +kernel
theorem dX0_copyFrom_70 : decode cX0_copyFrom 70 = .ok (.goto (-24), 3) := by decide +kernel
theorem dX0_copyFrom_73 : decode cX0_copyFrom 73 = .ok (.aload_n 0, 1) := by decide +kernel
theorem dX0_copyFrom_74 : decode cX0_copyFrom 74 = .ok (.aload_n 1, 1) := by decide +kernel
theorem dX0_copyFrom_75 : decode cX0_copyFrom 75 = .ok (.getfield 49, 3) := by decide +kernel
theorem dX0_copyFrom_78 : decode cX0_copyFrom 78 = .ok (.putfield 49, 3) := by decide +kernel
theorem dX0_copyFrom_81 : decode cX0_copyFrom 81 = .ok (.aload_n 0, 1) := by decide +kernel
theorem dX0_copyFrom_82 : decode cX0_copyFrom 82 = .ok (.aload_n 1, 1) := by decide +kernel
theorem dX0_copyFrom_83 : decode cX0_copyFrom 83 = .ok (.getfield 53, 3) := by decide +kernel
theorem dX0_copyFrom_86 : decode cX0_copyFrom 86 = .ok (.putfield 53, 3) := by decide +kernel
theorem dX0_copyFrom_89 : decode cX0_copyFrom 89 = .ok (.aload_n 0, 1) := by decide +kernel
theorem dX0_copyFrom_90 : decode cX0_copyFrom 90 = .ok (.aload_n 1, 1) := by decide +kernel
theorem dX0_copyFrom_91 : decode cX0_copyFrom 91 = .ok (.getfield 56, 3) := by decide +kernel
theorem dX0_copyFrom_94 : decode cX0_copyFrom 94 = .ok (.putfield 56, 3) := by decide +kernel
theorem dX0_copyFrom_97 : decode cX0_copyFrom 97 = .ok (.return_, 1) := by decide +kernel
theorem dX0_find_0 : decode cX0_find 0 = .ok (.iload_n 1, 1) := by decide +kernel
theorem dX0_find_1 : decode cX0_find 1 = .ok (.ifCond .lt 26, 3) := by decide +kernel
theorem dX0_find_4 : decode cX0_find 4 = .ok (.iload_n 1, 1) := by decide +kernel
theorem dX0_find_5 : decode cX0_find 5 = .ok (.aload_n 0, 1) := by decide +kernel
theorem dX0_find_6 : decode cX0_find 6 = .ok (.getfield 49, 3) := by decide +kernel
theorem dX0_find_9 : decode cX0_find 9 = .ok (.if_icmp .ge 18, 3) := by decide +kernel
theorem dX0_find_12 : decode cX0_find 12 = .ok (.iload_n 1, 1) := by decide +kernel
theorem dX0_find_13 : decode cX0_find 13 = .ok (.bipush 8, 2) := by decide +kernel
theorem dX0_find_15 : decode cX0_find 15 = .ok (.if_icmp .ge 12, 3) := by decide +kernel
theorem dX0_find_18 : decode cX0_find 18 = .ok (.aload_n 0, 1) := by decide +kernel
theorem dX0_find_19 : decode cX0_find 19 = .ok (.getfield 34, 3) := by decide +kernel
theorem dX0_find_22 : decode cX0_find 22 = .ok (.iload_n 1, 1) := by decide +kernel
theorem dX0_find_23 : decode cX0_find 23 = .ok (.aaload, 1) := by decide +kernel
theorem dX0_find_24 : decode cX0_find 24 = .ok (.goto 4, 3) := by decide +kernel
theorem dX0_find_27 : decode cX0_find 27 = .ok (.aconst_null, 1) := by decide +kernel
theorem dX0_find_28 : decode cX0_find 28 = .ok (.areturn, 1) := by decide +kernel
theorem dX0_changeSetting_0 : decode cX0_changeSetting 0 = .ok (.iload_n 1, 1) := by decide +kernel
theorem dX0_changeSetting_1 : decode cX0_changeSetting 1 = .ok (.ifCond .lt 8, 3) := by decide +kernel
theorem dX0_changeSetting_4 : decode cX0_changeSetting 4 = .ok (.iload_n 1, 1) := by decide +kernel
theorem dX0_changeSetting_5 : decode cX0_changeSetting 5 = .ok (.iconst 5, 1) := by decide +kernel
theorem dX0_changeSetting_6 : decode cX0_changeSetting 6 = .ok (.if_icmp .lt 6, 3) := by decide +kernel
theorem dX0_changeSetting_9 : decode cX0_changeSetting 9 = .ok (.bipush (-2), 2) := by decide +kernel
theorem dX0_changeSetting_11 : decode cX0_changeSetting 11 = .ok (.ireturn, 1) := by decide +kernel
theorem dX0_changeSetting_12 : decode cX0_changeSetting 12 = .ok (.iload_n 2, 1) := by decide +kernel
theorem dX0_changeSetting_13 : decode cX0_changeSetting 13 = .ok (.getstatic 59, 3) := by decide +kernel
theorem dX0_changeSetting_16 : decode cX0_changeSetting 16 = .ok (.iload_n 1, 1) := by decide +kernel
theorem dX0_changeSetting_17 : decode cX0_changeSetting 17 = .ok (.iaload, 1) := by decide +kernel
theorem dX0_changeSetting_18 : decode cX0_changeSetting 18 = .ok (.if_icmp .lt 12, 3) := by decide +kernel
theorem dX0_changeSetting_21 : decode cX0_changeSetting 21 = .ok (.iload_n 2, 1) := by decide +kernel
theorem dX0_changeSetting_22 : decode cX0_changeSetting 22 = .ok (.getstatic 62, 3) := by decide +kernel
theorem dX0_changeSetting_25 : decode cX0_changeSetting 25 = .ok (.iload_n 1, 1) := by decide +kernel
theorem dX0_changeSetting_26 : decode cX0_changeSetting 26 = .ok (.iaload, 1) := by decide +kernel
theorem dX0_changeSetting_27 : decode cX0_changeSetting 27 = .ok (.if_icmp .le 6, 3) := by decide +kernel
theorem dX0_changeSetting_30 : decode cX0_changeSetting 30 = .ok (.bipush (-2), 2) := by decide +kernel
theorem dX0_changeSetting_32 : decode cX0_changeSetting 32 = .ok (.ireturn, 1) := by decide +kernel
theorem dX0_changeSetting_33 : decode cX0_changeSetting 33 = .ok (.aload_n 0, 1) := by decide +kernel
theorem dX0_changeSetting_34 : decode cX0_changeSetting 34 = .ok (.getfield 18, 3) := by decide +kernel
theorem dX0_changeSetting_37 : decode cX0_changeSetting 37 = .ok (.iload_n 1, 1) := by decide +kernel
theorem dX0_changeSetting_38 : decode cX0_changeSetting 38 = .ok (.iaload, 1) := by decide +kernel
theorem dX0_changeSetting_39 : decode cX0_changeSetting 39 = .ok (.istore_n 3, 1) := by decide +kernel
theorem dX0_changeSetting_40 : decode cX0_changeSetting 40 = .ok (.aload_n 0, 1) := by decide +kernel
theorem dX0_changeSetting_41 : decode cX0_changeSetting 41 = .ok (.getfield 18, 3) := by decide +kernel
theorem dX0_changeSetting_44 : decode cX0_changeSetting 44 = .ok (.iload_n 1, 1) := by decide +kernel
theorem dX0_changeSetting_45 : decode cX0_changeSetting 45 = .ok (.iload_n 2, 1) := by decide +kernel
theorem dX0_changeSetting_46 : decode cX0_changeSetting 46 = .ok (.iastore, 1) := by decide +kernel
theorem dX0_changeSetting_47 : decode cX0_changeSetting 47 = .ok (.iload_n 1, 1) := by decide +kernel
theorem dX0_changeSetting_48 : decode cX0_changeSetting 48 = .ok (.iconst 1, 1) := by decide +kernel
theorem dX0_changeSetting_49 : decode cX0_changeSetting 49 = .ok (.if_icmp .ne 8, 3) := by decide +kernel
theorem dX0_changeSetting_52 : decode cX0_changeSetting 52 = .ok (.aload_n 0, 1) := by decide +kernel
theorem dX0_changeSetting_53 : decode cX0_changeSetting 53 = .ok (.iload_n 2, 1) := by decide +kernel
theorem dX0_changeSetting_54 : decode cX0_changeSetting 54 = .ok (.invokevirtual 65, 3) := by decide +kernel
theorem dX0_changeSetting_57 : decode cX0_changeSetting 57 = .ok (.iload_n 3, 1) := by decide +kernel
theorem dX0_changeSetting_58 : decode cX0_changeSetting 58 = .ok (.ireturn, 1) := by decide +kernel
theorem dX0_loseChargeAbove_0 : decode cX0_loseChargeAbove 0 = .ok (.iconst 0, 1) := by decide +kernel
theorem dX0_loseChargeAbove_1 : decode cX0_loseChargeAbove 1 = .ok (.istore_n 2, 1) := by decide +kernel
theorem dX0_loseChargeAbove_2 : decode cX0_loseChargeAbove 2 = .ok (.iload_n 2, 1) := by decide +kernel
theorem dX0_loseChargeAbove_3 : decode cX0_loseChargeAbove 3 = .ok (.aload_n 0, 1) := by decide +kernel
theorem dX0_loseChargeAbove_4 : decode cX0_loseChargeAbove 4 = .ok (.getfield 49, 3) := by decide +kernel
theorem dX0_loseChargeAbove_7 : decode cX0_loseChargeAbove 7 = .ok (.if_icmp .ge 31, 3) := by decide +kernel
theorem dX0_loseChargeAbove_10 : decode cX0_loseChargeAbove 10 = .ok (.aload_n 0, 1) := by decide +kernel
theorem dX0_loseChargeAbove_11 : decode cX0_loseChargeAbove 11 = .ok (.getfield 34, 3) := by decide +kernel
theorem dX0_loseChargeAbove_14 : decode cX0_loseChargeAbove 14 = .ok (.iload_n 2, 1) := by decide +kernel
theorem dX0_loseChargeAbove_15 : decode cX0_loseChargeAbove 15 = .ok (.aaload, 1) := by decide +kernel
theorem dX0_loseChargeAbove_16 : decode cX0_loseChargeAbove 16 = .ok (.aload_n 0, 1) := by decide +kernel
theorem dX0_loseChargeAbove_17 : decode cX0_loseChargeAbove 17 = .ok (.getfield 34, 3) := by decide +kernel
theorem dX0_loseChargeAbove_20 : decode cX0_loseChargeAbove 20 = .ok (.iload_n 2, 1) := by decide +kernel
theorem dX0_loseChargeAbove_21 : decode cX0_loseChargeAbove 21 = .ok (.aaload, 1) := by decide +kernel
theorem dX0_loseChargeAbove_22 : decode cX0_loseChargeAbove 22 = .ok (.getfield 68, 3) := by decide +kernel
theorem dX0_loseChargeAbove_25 : decode cX0_loseChargeAbove 25 = .ok (.iload_n 1, 1) := by decide +kernel
theorem dX0_loseChargeAbove_26 : decode cX0_loseChargeAbove 26 = .ok (.invokestatic 71, 3) := by decide +kernel
theorem dX0_loseChargeAbove_29 : decode cX0_loseChargeAbove 29 = .ok (.putfield 68, 3) := by decide +kernel
theorem dX0_loseChargeAbove_32 : decode cX0_loseChargeAbove 32 = .ok (.iinc 2 1, 3) := by decide +kernel
theorem dX0_loseChargeAbove_35 : decode cX0_loseChargeAbove 35 = .ok (.goto (-33), 3) := by decide +kernel
theorem dX0_loseChargeAbove_38 : decode cX0_loseChargeAbove 38 = .ok (.return_, 1) := by decide +kernel
theorem dX0_addStation_0 : decode cX0_addStation 0 = .ok (.iload_n 1, 1) := by decide +kernel
theorem dX0_addStation_1 : decode cX0_addStation 1 = .ok (.iconst 1, 1) := by decide +kernel
theorem dX0_addStation_2 : decode cX0_addStation 2 = .ok (.if_icmp .lt 9, 3) := by decide +kernel
theorem dX0_addStation_5 : decode cX0_addStation 5 = .ok (.iload_n 1, 1) := by decide +kernel
theorem dX0_addStation_6 : decode cX0_addStation 6 = .ok (.bipush 63, 2) := by decide +kernel
theorem dX0_addStation_8 : decode cX0_addStation 8 = .ok (.if_icmp .le 6, 3) := by decide +kernel
theorem dX0_addStation_11 : decode cX0_addStation 11 = .ok (.bipush (-2), 2) := by decide +kernel
theorem dX0_addStation_13 : decode cX0_addStation 13 = .ok (.ireturn, 1) := by decide +kernel
theorem dX0_addStation_14 : decode cX0_addStation 14 = .ok (.aload_n 0, 1) := by decide +kernel
theorem dX0_addStation_15 : decode cX0_addStation 15 = .ok (.getfield 49, 3) := by decide +kernel
theorem dX0_addStation_18 : decode cX0_addStation 18 = .ok (.bipush 8, 2) := by decide +kernel
theorem dX0_addStation_20 : decode cX0_addStation 20 = .ok (.if_icmp .lt 6, 3) := by decide +kernel
theorem dX0_addStation_23 : decode cX0_addStation 23 = .ok (.bipush (-4), 2) := by decide +kernel
theorem dX0_addStation_25 : decode cX0_addStation 25 = .ok (.ireturn, 1) := by decide +kernel
theorem dX0_addStation_26 : decode cX0_addStation 26 = .ok (.aload_n 0, 1) := by decide +kernel
theorem dX0_addStation_27 : decode cX0_addStation 27 = .ok (.getfield 34, 3) := by decide +kernel
theorem dX0_addStation_30 : decode cX0_addStation 30 = .ok (.aload_n 0, 1) := by decide +kernel
theorem dX0_addStation_31 : decode cX0_addStation 31 = .ok (.getfield 49, 3) := by decide +kernel
theorem dX0_addStation_34 : decode cX0_addStation 34 = .ok (.aaload, 1) := by decide +kernel
theorem dX0_addStation_35 : decode cX0_addStation 35 = .ok (.iload_n 1, 1) := by decide +kernel
theorem dX0_addStation_36 : decode cX0_addStation 36 = .ok (.putfield 77, 3) := by decide +kernel
theorem dX0_addStation_39 : decode cX0_addStation 39 = .ok (.aload_n 0, 1) := by decide +kernel
theorem dX0_addStation_40 : decode cX0_addStation 40 = .ok (.getfield 34, 3) := by decide +kernel
theorem dX0_addStation_43 : decode cX0_addStation 43 = .ok (.aload_n 0, 1) := by decide +kernel
theorem dX0_addStation_44 : decode cX0_addStation 44 = .ok (.getfield 49, 3) := by decide +kernel
theorem dX0_addStation_47 : decode cX0_addStation 47 = .ok (.aaload, 1) := by decide +kernel
theorem dX0_addStation_48 : decode cX0_addStation 48 = .ok (.aload_n 0, 1) := by decide +kernel
theorem dX0_addStation_49 : decode cX0_addStation 49 = .ok (.getfield 18, 3) := by decide +kernel
theorem dX0_addStation_52 : decode cX0_addStation 52 = .ok (.iconst 1, 1) := by decide +kernel
theorem dX0_addStation_53 : decode cX0_addStation 53 = .ok (.iaload, 1) := by decide +kernel
theorem dX0_addStation_54 : decode cX0_addStation 54 = .ok (.putfield 68, 3) := by decide +kernel
theorem dX0_addStation_57 : decode cX0_addStation 57 = .ok (.aload_n 0, 1) := by decide +kernel
theorem dX0_addStation_58 : decode cX0_addStation 58 = .ok (.dup, 1) := by decide +kernel
theorem dX0_addStation_59 : decode cX0_addStation 59 = .ok (.getfield 49, 3) := by decide +kernel
theorem dX0_addStation_62 : decode cX0_addStation 62 = .ok (.iconst 1, 1) := by decide +kernel
theorem dX0_addStation_63 : decode cX0_addStation 63 = .ok (.iadd, 1) := by decide +kernel
theorem dX0_addStation_64 : decode cX0_addStation 64 = .ok (.putfield 49, 3) := by decide +kernel
theorem dX0_addStation_67 : decode cX0_addStation 67 = .ok (.aload_n 0, 1) := by decide +kernel
theorem dX0_addStation_68 : decode cX0_addStation 68 = .ok (.getfield 49, 3) := by decide +kernel
theorem dX0_addStation_71 : decode cX0_addStation 71 = .ok (.iconst 1, 1) := by decide +kernel
theorem dX0_addStation_72 : decode cX0_addStation 72 = .ok (.isub, 1) := by decide +kernel
theorem dX0_addStation_73 : decode cX0_addStation 73 = .ok (.ireturn, 1) := by decide +kernel
theorem dX0_addWord_0 : decode cX0_addWord 0 = .ok (.aload_n 0, 1) := by decide +kernel
theorem dX0_addWord_1 : decode cX0_addWord 1 = .ok (.iload_n 1, 1) := by decide +kernel
theorem dX0_addWord_2 : decode cX0_addWord 2 = .ok (.invokevirtual 80, 3) := by decide +kernel
theorem dX0_addWord_5 : decode cX0_addWord 5 = .ok (.astore 4, 2) := by decide +kernel
theorem dX0_addWord_7 : decode cX0_addWord 7 = .ok (.aload 4, 2) := by decide +kernel
theorem dX0_addWord_9 : decode cX0_addWord 9 = .ok (.ifnull 10, 3) := by decide +kernel
theorem dX0_addWord_12 : decode cX0_addWord 12 = .ok (.iload_n 2, 1) := by decide +kernel
theorem dX0_addWord_13 : decode cX0_addWord 13 = .ok (.invokestatic 84, 3) := by decide +kernel
theorem dX0_addWord_16 : decode cX0_addWord 16 = .ok (.ifCond .ne 5, 3) := by decide +kernel
theorem dX0_addWord_19 : decode cX0_addWord 19 = .ok (.iconst (-1), 1) := by decide +kernel
theorem dX0_addWord_20 : decode cX0_addWord 20 = .ok (.ireturn, 1) := by decide +kernel
theorem dX0_addWord_21 : decode cX0_addWord 21 = .ok (.iload_n 3, 1) := by decide +kernel
theorem dX0_addWord_22 : decode cX0_addWord 22 = .ok (.ifCond .lt 10, 3) := by decide +kernel
theorem dX0_addWord_25 : decode cX0_addWord 25 = .ok (.iload_n 3, 1) := by decide +kernel
theorem dX0_addWord_26 : decode cX0_addWord 26 = .ok (.sipush 255, 3) := by decide +kernel
theorem dX0_addWord_29 : decode cX0_addWord 29 = .ok (.if_icmp .le 6, 3) := by decide +kernel
theorem dX0_addWord_32 : decode cX0_addWord 32 = .ok (.bipush (-2), 2) := by decide +kernel
theorem dX0_addWord_34 : decode cX0_addWord 34 = .ok (.ireturn, 1) := by decide +kernel
theorem dX0_addWord_35 : decode cX0_addWord 35 = .ok (.aload 4, 2) := by decide +kernel
theorem dX0_addWord_37 : decode cX0_addWord 37 = .ok (.iload_n 2, 1) := by decide +kernel
theorem dX0_addWord_38 : decode cX0_addWord 38 = .ok (.invokevirtual 88, 3) := by decide +kernel
theorem dX0_addWord_41 : decode cX0_addWord 41 = .ok (.ifCond .ne 6, 3) := by decide +kernel
theorem dX0_addWord_44 : decode cX0_addWord 44 = .ok (.bipush (-5), 2) := by decide +kernel
theorem dX0_addWord_46 : decode cX0_addWord 46 = .ok (.ireturn, 1) := by decide +kernel
theorem dX0_addWord_47 : decode cX0_addWord 47 = .ok (.aload 4, 2) := by decide +kernel
theorem dX0_addWord_49 : decode cX0_addWord 49 = .ok (.getfield 91, 3) := by decide +kernel
theorem dX0_addWord_52 : decode cX0_addWord 52 = .ok (.getfield 95, 3) := by decide +kernel
theorem dX0_addWord_55 : decode cX0_addWord 55 = .ok (.iconst 4, 1) := by decide +kernel
theorem dX0_addWord_56 : decode cX0_addWord 56 = .ok (.if_icmp .lt 6, 3) := by decide +kernel
theorem dX0_addWord_59 : decode cX0_addWord 59 = .ok (.bipush (-4), 2) := by decide +kernel
theorem dX0_addWord_61 : decode cX0_addWord 61 = .ok (.ireturn, 1) := by decide +kernel
theorem dX0_addWord_62 : decode cX0_addWord 62 = .ok (.aload 4, 2) := by decide +kernel
theorem dX0_addWord_64 : decode cX0_addWord 64 = .ok (.getfield 91, 3) := by decide +kernel
theorem dX0_addWord_67 : decode cX0_addWord 67 = .ok (.iload_n 3, 1) := by decide +kernel
theorem dX0_addWord_68 : decode cX0_addWord 68 = .ok (.iload_n 2, 1) := by decide +kernel
theorem dX0_addWord_69 : decode cX0_addWord 69 = .ok (.invokevirtual 100, 3) := by decide +kernel
theorem dX0_addWord_72 : decode cX0_addWord 72 = .ok (.aload 4, 2) := by decide +kernel
theorem dX0_addWord_74 : decode cX0_addWord 74 = .ok (.getfield 91, 3) := by decide +kernel
theorem dX0_addWord_77 : decode cX0_addWord 77 = .ok (.getfield 95, 3) := by decide +kernel
theorem dX0_addWord_80 : decode cX0_addWord 80 = .ok (.ireturn, 1) := by decide +kernel
theorem dX0_forgetWord_0 : decode cX0_forgetWord 0 = .ok (.aload_n 0, 1) := by decide +kernel
theorem dX0_forgetWord_1 : decode cX0_forgetWord 1 = .ok (.iload_n 1, 1) := by decide +kernel
theorem dX0_forgetWord_2 : decode cX0_forgetWord 2 = .ok (.invokevirtual 80, 3) := by decide +kernel
theorem dX0_forgetWord_5 : decode cX0_forgetWord 5 = .ok (.astore_n 2, 1) := by decide +kernel
theorem dX0_forgetWord_6 : decode cX0_forgetWord 6 = .ok (.aload_n 2, 1) := by decide +kernel
theorem dX0_forgetWord_7 : decode cX0_forgetWord 7 = .ok (.ifnonnull 5, 3) := by decide +kernel
theorem dX0_forgetWord_10 : decode cX0_forgetWord 10 = .ok (.iconst (-1), 1) := by decide +kernel
theorem dX0_forgetWord_11 : decode cX0_forgetWord 11 = .ok (.ireturn, 1) := by decide +kernel
theorem dX0_forgetWord_12 : decode cX0_forgetWord 12 = .ok (.aload_n 2, 1) := by decide +kernel
theorem dX0_forgetWord_13 : decode cX0_forgetWord 13 = .ok (.getfield 91, 3) := by decide +kernel
theorem dX0_forgetWord_16 : decode cX0_forgetWord 16 = .ok (.getfield 95, 3) := by decide +kernel
theorem dX0_forgetWord_19 : decode cX0_forgetWord 19 = .ok (.ifCond .ne 6, 3) := by decide +kernel
theorem dX0_forgetWord_22 : decode cX0_forgetWord 22 = .ok (.bipush (-5), 2) := by decide +kernel
theorem dX0_forgetWord_24 : decode cX0_forgetWord 24 = .ok (.ireturn, 1) := by decide +kernel
theorem dX0_forgetWord_25 : decode cX0_forgetWord 25 = .ok (.aload_n 2, 1) := by decide +kernel
theorem dX0_forgetWord_26 : decode cX0_forgetWord 26 = .ok (.getfield 91, 3) := by decide +kernel
theorem dX0_forgetWord_29 : decode cX0_forgetWord 29 = .ok (.iconst 0, 1) := by decide +kernel
theorem dX0_forgetWord_30 : decode cX0_forgetWord 30 = .ok (.invokevirtual 104, 3) := by decide +kernel
theorem dX0_forgetWord_33 : decode cX0_forgetWord 33 = .ok (.istore_n 3, 1) := by decide +kernel
theorem dX0_forgetWord_34 : decode cX0_forgetWord 34 = .ok (.aload_n 2, 1) := by decide +kernel
theorem dX0_forgetWord_35 : decode cX0_forgetWord 35 = .ok (.getfield 91, 3) := by decide +kernel
theorem dX0_forgetWord_38 : decode cX0_forgetWord 38 = .ok (.invokevirtual 108, 3) := by decide +kernel
theorem dX0_forgetWord_41 : decode cX0_forgetWord 41 = .ok (.aload_n 2, 1) := by decide +kernel
theorem dX0_forgetWord_42 : decode cX0_forgetWord 42 = .ok (.invokevirtual 111, 3) := by decide +kernel
theorem dX0_forgetWord_45 : decode cX0_forgetWord 45 = .ok (.iload_n 3, 1) := by decide +kernel
theorem dX0_forgetWord_46 : decode cX0_forgetWord 46 = .ok (.ireturn, 1) := by decide +kernel
theorem dX0_toggleFault_0 : decode cX0_toggleFault 0 = .ok (.iload_n 1, 1) := by decide +kernel
theorem dX0_toggleFault_1 : decode cX0_toggleFault 1 = .ok (.invokestatic 84, 3) := by decide +kernel
theorem dX0_toggleFault_4 : decode cX0_toggleFault 4 = .ok (.ifCond .ne 5, 3) := by decide +kernel
theorem dX0_toggleFault_7 : decode cX0_toggleFault 7 = .ok (.iconst (-1), 1) := by decide +kernel
theorem dX0_toggleFault_8 : decode cX0_toggleFault 8 = .ok (.ireturn, 1) := by decide +kernel
theorem dX0_toggleFault_9 : decode cX0_toggleFault 9 = .ok (.aload_n 0, 1) := by decide +kernel
theorem dX0_toggleFault_10 : decode cX0_toggleFault 10 = .ok (.dup, 1) := by decide +kernel
theorem dX0_toggleFault_11 : decode cX0_toggleFault 11 = .ok (.getfield 53, 3) := by decide +kernel
theorem dX0_toggleFault_14 : decode cX0_toggleFault 14 = .ok (.iconst 1, 1) := by decide +kernel
theorem dX0_toggleFault_15 : decode cX0_toggleFault 15 = .ok (.iload_n 1, 1) := by decide +kernel
theorem dX0_toggleFault_16 : decode cX0_toggleFault 16 = .ok (.ishl, 1) := by decide +kernel
theorem dX0_toggleFault_17 : decode cX0_toggleFault 17 = .ok (.ixor, 1) := by decide +kernel
theorem dX0_toggleFault_18 : decode cX0_toggleFault 18 = .ok (.putfield 53, 3) := by decide +kernel
theorem dX0_toggleFault_21 : decode cX0_toggleFault 21 = .ok (.aload_n 0, 1) := by decide +kernel
theorem dX0_toggleFault_22 : decode cX0_toggleFault 22 = .ok (.iload_n 1, 1) := by decide +kernel
theorem dX0_toggleFault_23 : decode cX0_toggleFault 23 = .ok (.invokevirtual 114, 3) := by decide +kernel
theorem dX0_toggleFault_26 : decode cX0_toggleFault 26 = .ok (.ifCond .eq 7, 3) := by decide +kernel
theorem dX0_toggleFault_29 : decode cX0_toggleFault 29 = .ok (.iconst 1, 1) := by decide +kernel
theorem dX0_toggleFault_30 : decode cX0_toggleFault 30 = .ok (.goto 4, 3) := by decide +kernel
theorem dX0_toggleFault_33 : decode cX0_toggleFault 33 = .ok (.iconst 0, 1) := by decide +kernel
theorem dX0_toggleFault_34 : decode cX0_toggleFault 34 = .ok (.ireturn, 1) := by decide +kernel
theorem dX0_toggleDoze_0 : decode cX0_toggleDoze 0 = .ok (.aload_n 0, 1) := by decide +kernel
theorem dX0_toggleDoze_1 : decode cX0_toggleDoze 1 = .ok (.iload_n 1, 1) := by decide +kernel
theorem dX0_toggleDoze_2 : decode cX0_toggleDoze 2 = .ok (.invokevirtual 80, 3) := by decide +kernel
theorem dX0_toggleDoze_5 : decode cX0_toggleDoze 5 = .ok (.astore_n 2, 1) := by decide +kernel
theorem dX0_toggleDoze_6 : decode cX0_toggleDoze 6 = .ok (.aload_n 2, 1) := by decide +kernel
theorem dX0_toggleDoze_7 : decode cX0_toggleDoze 7 = .ok (.ifnonnull 5, 3) := by decide +kernel
theorem dX0_toggleDoze_10 : decode cX0_toggleDoze 10 = .ok (.iconst (-1), 1) := by decide +kernel
theorem dX0_toggleDoze_11 : decode cX0_toggleDoze 11 = .ok (.ireturn, 1) := by decide +kernel
theorem dX0_toggleDoze_12 : decode cX0_toggleDoze 12 = .ok (.aload_n 2, 1) := by decide +kernel
theorem dX0_toggleDoze_13 : decode cX0_toggleDoze 13 = .ok (.aload_n 2, 1) := by decide +kernel
theorem dX0_toggleDoze_14 : decode cX0_toggleDoze 14 = .ok (.getfield 117, 3) := by decide +kernel
theorem dX0_toggleDoze_17 : decode cX0_toggleDoze 17 = .ok (.ifCond .ne 7, 3) := by decide +kernel
theorem dX0_toggleDoze_20 : decode cX0_toggleDoze 20 = .ok (.iconst 1, 1) := by decide +kernel
theorem dX0_toggleDoze_21 : decode cX0_toggleDoze 21 = .ok (.goto 4, 3) := by decide +kernel
theorem dX0_toggleDoze_24 : decode cX0_toggleDoze 24 = .ok (.iconst 0, 1) := by decide +kernel
theorem dX0_toggleDoze_25 : decode cX0_toggleDoze 25 = .ok (.putfield 117, 3) := by decide +kernel
theorem dX0_toggleDoze_28 : decode cX0_toggleDoze 28 = .ok (.aload_n 2, 1) := by decide +kernel
theorem dX0_toggleDoze_29 : decode cX0_toggleDoze 29 = .ok (.getfield 117, 3) := by decide +kernel
theorem dX0_toggleDoze_32 : decode cX0_toggleDoze 32 = .ok (.ifCond .eq 15, 3) := by decide +kernel
theorem dX0_toggleDoze_35 : decode cX0_toggleDoze 35 = .ok (.aload_n 2, 1) := by decide +kernel
theorem dX0_toggleDoze_36 : decode cX0_toggleDoze 36 = .ok (.invokevirtual 121, 3) := by decide +kernel
theorem dX0_toggleDoze_39 : decode cX0_toggleDoze 39 = .ok (.ifCond .eq 8, 3) := by decide +kernel
theorem dX0_toggleDoze_42 : decode cX0_toggleDoze 42 = .ok (.aload_n 0, 1) := by decide +kernel
theorem dX0_toggleDoze_43 : decode cX0_toggleDoze 43 = .ok (.aload_n 2, 1) := by decide +kernel
theorem dX0_toggleDoze_44 : decode cX0_toggleDoze 44 = .ok (.invokevirtual 125, 3) := by decide +kernel
theorem dX0_toggleDoze_47 : decode cX0_toggleDoze 47 = .ok (.aload_n 2, 1) := by decide +kernel
theorem dX0_toggleDoze_48 : decode cX0_toggleDoze 48 = .ok (.getfield 117, 3) := by decide +kernel
theorem dX0_toggleDoze_51 : decode cX0_toggleDoze 51 = .ok (.ifCond .eq 7, 3) := by decide +kernel
theorem dX0_toggleDoze_54 : decode cX0_toggleDoze 54 = .ok (.iconst 1, 1) := by decide +kernel
theorem dX0_toggleDoze_55 : decode cX0_toggleDoze 55 = .ok (.goto 4, 3) := by decide +kernel
theorem dX0_toggleDoze_58 : decode cX0_toggleDoze 58 = .ok (.iconst 0, 1) := by decide +kernel
theorem dX0_toggleDoze_59 : decode cX0_toggleDoze 59 = .ok (.ireturn, 1) := by decide +kernel
theorem dX0_passBeats_0 : decode cX0_passBeats 0 = .ok (.iload_n 1, 1) := by decide +kernel
theorem dX0_passBeats_1 : decode cX0_passBeats 1 = .ok (.iconst 1, 1) := by decide +kernel
theorem dX0_passBeats_2 : decode cX0_passBeats 2 = .ok (.if_icmp .lt 10, 3) := by decide +kernel
theorem dX0_passBeats_5 : decode cX0_passBeats 5 = .ok (.iload_n 1, 1) := by decide +kernel
theorem dX0_passBeats_6 : decode cX0_passBeats 6 = .ok (.sipush 999, 3) := by decide +kernel
theorem dX0_passBeats_9 : decode cX0_passBeats 9 = .ok (.if_icmp .le 6, 3) := by decide +kernel
theorem dX0_passBeats_12 : decode cX0_passBeats 12 = .ok (.bipush (-2), 2) := by decide +kernel
theorem dX0_passBeats_14 : decode cX0_passBeats 14 = .ok (.ireturn, 1) := by decide +kernel
theorem dX0_passBeats_15 : decode cX0_passBeats 15 = .ok (.aload_n 0, 1) := by decide +kernel
theorem dX0_passBeats_16 : decode cX0_passBeats 16 = .ok (.getfield 56, 3) := by decide +kernel
theorem dX0_passBeats_19 : decode cX0_passBeats 19 = .ok (.iload_n 1, 1) := by decide +kernel
theorem dX0_passBeats_20 : decode cX0_passBeats 20 = .ok (.iadd, 1) := by decide +kernel
theorem dX0_passBeats_21 : decode cX0_passBeats 21 = .ok (.ldc 128, 2) := by decide +kernel
theorem dX0_passBeats_23 : decode cX0_passBeats 23 = .ok (.if_icmp .le 6, 3) := by decide +kernel
theorem dX0_passBeats_26 : decode cX0_passBeats 26 = .ok (.bipush (-5), 2) := by decide +kernel
theorem dX0_passBeats_28 : decode cX0_passBeats 28 = .ok (.ireturn, 1) := by decide +kernel
theorem dX0_passBeats_29 : decode cX0_passBeats 29 = .ok (.iconst 0, 1) := by decide +kernel
theorem dX0_passBeats_30 : decode cX0_passBeats 30 = .ok (.istore_n 2, 1) := by decide +kernel
theorem dX0_passBeats_31 : decode cX0_passBeats 31 = .ok (.iconst 0, 1) := by decide +kernel
theorem dX0_passBeats_32 : decode cX0_passBeats 32 = .ok (.istore_n 3, 1) := by decide +kernel
theorem dX0_passBeats_33 : decode cX0_passBeats 33 = .ok (.iload_n 3, 1) := by decide +kernel
theorem dX0_passBeats_34 : decode cX0_passBeats 34 = .ok (.iload_n 1, 1) := by decide +kernel
theorem dX0_passBeats_35 : decode cX0_passBeats 35 = .ok (.if_icmp .ge 16, 3) := by decide +kernel
theorem dX0_passBeats_38 : decode cX0_passBeats 38 = .ok (.iload_n 2, 1) := by decide +kernel
theorem dX0_passBeats_39 : decode cX0_passBeats 39 = .ok (.aload_n 0, 1) := by decide +kernel
theorem dX0_passBeats_40 : decode cX0_passBeats 40 = .ok (.invokevirtual 129, 3) := by decide +kernel
theorem dX0_passBeats_43 : decode cX0_passBeats 43 = .ok (.iadd, 1) := by decide +kernel
theorem dX0_passBeats_44 : decode cX0_passBeats 44 = .ok (.istore_n 2, 1) := by decide +kernel
theorem dX0_passBeats_45 : decode cX0_passBeats 45 = .ok (.iinc 3 1, 3) := by decide +kernel
theorem dX0_passBeats_48 : decode cX0_passBeats 48 = .ok (.goto (-15), 3) := by decide +kernel
theorem dX0_passBeats_51 : decode cX0_passBeats 51 = .ok (.iload_n 2, 1) := by decide +kernel
theorem dX0_passBeats_52 : decode cX0_passBeats 52 = .ok (.ireturn, 1) := by decide +kernel
theorem dX0_passBeat_0 : decode cX0_passBeat 0 = .ok (.aload_n 0, 1) := by decide +kernel
theorem dX0_passBeat_1 : decode cX0_passBeat 1 = .ok (.invokevirtual 133, 3) := by decide +kernel
theorem dX0_passBeat_4 : decode cX0_passBeat 4 = .ok (.istore_n 1, 1) := by decide +kernel
theorem dX0_passBeat_5 : decode cX0_passBeat 5 = .ok (.aload_n 0, 1) := by decide +kernel
theorem dX0_passBeat_6 : decode cX0_passBeat 6 = .ok (.iload_n 1, 1) := by decide +kernel
theorem dX0_passBeat_7 : decode cX0_passBeat 7 = .ok (.invokevirtual 136, 3) := by decide +kernel
theorem dX0_passBeat_10 : decode cX0_passBeat 10 = .ok (.bipush 63, 2) := by decide +kernel
theorem dX0_passBeat_12 : decode cX0_passBeat 12 = .ok (.aload_n 0, 1) := by decide +kernel
theorem dX0_passBeat_13 : decode cX0_passBeat 13 = .ok (.getfield 53, 3) := by decide +kernel
theorem dX0_passBeat_16 : decode cX0_passBeat 16 = .ok (.aload_n 0, 1) := by decide +kernel
theorem dX0_passBeat_17 : decode cX0_passBeat 17 = .ok (.invokevirtual 139, 3) := by decide +kernel
theorem dX0_passBeat_20 : decode cX0_passBeat 20 = .ok (.ior, 1) := by decide +kernel
theorem dX0_passBeat_21 : decode cX0_passBeat 21 = .ok (.iconst (-1), 1) := by decide +kernel
theorem dX0_passBeat_22 : decode cX0_passBeat 22 = .ok (.ixor, 1) := by decide +kernel
theorem dX0_passBeat_23 : decode cX0_passBeat 23 = .ok (.iand, 1) := by decide +kernel
theorem dX0_passBeat_24 : decode cX0_passBeat 24 = .ok (.istore_n 2, 1) := by decide +kernel
theorem dX0_passBeat_25 : decode cX0_passBeat 25 = .ok (.aload_n 0, 1) := by decide +kernel
theorem dX0_passBeat_26 : decode cX0_passBeat 26 = .ok (.iload_n 2, 1) := by decide +kernel
theorem dX0_passBeat_27 : decode cX0_passBeat 27 = .ok (.iload_n 1, 1) := by decide +kernel
theorem dX0_passBeat_28 : decode cX0_passBeat 28 = .ok (.invokevirtual 142, 3) := by decide +kernel
theorem dX0_passBeat_31 : decode cX0_passBeat 31 = .ok (.istore_n 3, 1) := by decide +kernel
theorem dX0_passBeat_32 : decode cX0_passBeat 32 = .ok (.aload_n 0, 1) := by decide +kernel
theorem dX0_passBeat_33 : decode cX0_passBeat 33 = .ok (.iload_n 2, 1) := by decide +kernel
theorem dX0_passBeat_34 : decode cX0_passBeat 34 = .ok (.invokevirtual 145, 3) := by decide +kernel
theorem dX0_passBeat_37 : decode cX0_passBeat 37 = .ok (.aload_n 0, 1) := by decide +kernel
theorem dX0_passBeat_38 : decode cX0_passBeat 38 = .ok (.iload_n 2, 1) := by decide +kernel
theorem dX0_passBeat_39 : decode cX0_passBeat 39 = .ok (.invokevirtual 148, 3) := by decide +kernel
theorem dX0_passBeat_42 : decode cX0_passBeat 42 = .ok (.aload_n 0, 1) := by decide +kernel
theorem dX0_passBeat_43 : decode cX0_passBeat 43 = .ok (.dup, 1) := by decide +kernel
theorem dX0_passBeat_44 : decode cX0_passBeat 44 = .ok (.getfield 56, 3) := by decide +kernel
theorem dX0_passBeat_47 : decode cX0_passBeat 47 = .ok (.iconst 1, 1) := by decide +kernel
theorem dX0_passBeat_48 : decode cX0_passBeat 48 = .ok (.iadd, 1) := by decide +kernel
theorem dX0_passBeat_49 : decode cX0_passBeat 49 = .ok (.putfield 56, 3) := by decide +kernel
theorem dX0_passBeat_52 : decode cX0_passBeat 52 = .ok (.iload_n 3, 1) := by decide +kernel
theorem dX0_passBeat_53 : decode cX0_passBeat 53 = .ok (.ireturn, 1) := by decide +kernel
theorem dX0_beginWords_0 : decode cX0_beginWords 0 = .ok (.iconst 0, 1) := by decide +kernel
theorem dX0_beginWords_1 : decode cX0_beginWords 1 = .ok (.istore_n 2, 1) := by decide +kernel
theorem dX0_beginWords_2 : decode cX0_beginWords 2 = .ok (.iload_n 2, 1) := by decide +kernel
theorem dX0_beginWords_3 : decode cX0_beginWords 3 = .ok (.aload_n 0, 1) := by decide +kernel
theorem dX0_beginWords_4 : decode cX0_beginWords 4 = .ok (.getfield 49, 3) := by decide +kernel
theorem dX0_beginWords_7 : decode cX0_beginWords 7 = .ok (.if_icmp .ge 66, 3) := by decide +kernel
theorem dX0_beginWords_10 : decode cX0_beginWords 10 = .ok (.aload_n 0, 1) := by decide +kernel
theorem dX0_beginWords_11 : decode cX0_beginWords 11 = .ok (.getfield 34, 3) := by decide +kernel
theorem dX0_beginWords_14 : decode cX0_beginWords 14 = .ok (.iload_n 2, 1) := by decide +kernel
theorem dX0_beginWords_15 : decode cX0_beginWords 15 = .ok (.aaload, 1) := by decide +kernel
theorem dX0_beginWords_16 : decode cX0_beginWords 16 = .ok (.astore_n 3, 1) := by decide +kernel
theorem dX0_beginWords_17 : decode cX0_beginWords 17 = .ok (.aload_n 3, 1) := by decide +kernel
theorem dX0_beginWords_18 : decode cX0_beginWords 18 = .ok (.invokevirtual 151, 3) := by decide +kernel
theorem dX0_beginWords_21 : decode cX0_beginWords 21 = .ok (.ifCond .eq 46, 3) := by decide +kernel
theorem dX0_beginWords_24 : decode cX0_beginWords 24 = .ok (.aload_n 3, 1) := by decide +kernel
theorem dX0_beginWords_25 : decode cX0_beginWords 25 = .ok (.invokevirtual 121, 3) := by decide +kernel
theorem dX0_beginWords_28 : decode cX0_beginWords 28 = .ok (.ifCond .eq 6, 3) := by decide +kernel
theorem dX0_beginWords_31 : decode cX0_beginWords 31 = .ok (.goto 36, 3) := by decide +kernel
theorem dX0_beginWords_34 : decode cX0_beginWords 34 = .ok (.aload_n 3, 1) := by decide +kernel
theorem dX0_beginWords_35 : decode cX0_beginWords 35 = .ok (.getfield 91, 3) := by decide +kernel
theorem dX0_beginWords_38 : decode cX0_beginWords 38 = .ok (.iconst 0, 1) := by decide +kernel
theorem dX0_beginWords_39 : decode cX0_beginWords 39 = .ok (.invokevirtual 154, 3) := by decide +kernel
theorem dX0_beginWords_42 : decode cX0_beginWords 42 = .ok (.istore 4, 2) := by decide +kernel
theorem dX0_beginWords_44 : decode cX0_beginWords 44 = .ok (.aload_n 0, 1) := by decide +kernel
theorem dX0_beginWords_45 : decode cX0_beginWords 45 = .ok (.iload 4, 2) := by decide +kernel
theorem dX0_beginWords_47 : decode cX0_beginWords 47 = .ok (.invokevirtual 157, 3) := by decide +kernel
theorem dX0_beginWords_50 : decode cX0_beginWords 50 = .ok (.ifCond .eq 17, 3) := by decide +kernel
theorem dX0_beginWords_53 : decode cX0_beginWords 53 = .ok (.aload_n 3, 1) := by decide +kernel
theorem dX0_beginWords_54 : decode cX0_beginWords 54 = .ok (.iload 4, 2) := by decide +kernel
theorem dX0_beginWords_56 : decode cX0_beginWords 56 = .ok (.iload_n 1, 1) := by decide +kernel
theorem dX0_beginWords_57 : decode cX0_beginWords 57 = .ok (.aload_n 0, 1) := by decide +kernel
theorem dX0_beginWords_58 : decode cX0_beginWords 58 = .ok (.iload 4, 2) := by decide +kernel
theorem dX0_beginWords_60 : decode cX0_beginWords 60 = .ok (.invokevirtual 160, 3) := by decide +kernel
theorem dX0_beginWords_63 : decode cX0_beginWords 63 = .ok (.iand, 1) := by decide +kernel
theorem dX0_beginWords_64 : decode cX0_beginWords 64 = .ok (.invokevirtual 163, 3) := by decide +kernel
theorem dX0_beginWords_67 : decode cX0_beginWords 67 = .ok (.iinc 2 1, 3) := by decide +kernel
theorem dX0_beginWords_70 : decode cX0_beginWords 70 = .ok (.goto (-68), 3) := by decide +kernel
theorem dX0_beginWords_73 : decode cX0_beginWords 73 = .ok (.return_, 1) := by decide +kernel
theorem dX0_pulledWires_0 : decode cX0_pulledWires 0 = .ok (.iconst 0, 1) := by decide +kernel
theorem dX0_pulledWires_1 : decode cX0_pulledWires 1 = .ok (.istore_n 1, 1) := by decide +kernel
theorem dX0_pulledWires_2 : decode cX0_pulledWires 2 = .ok (.iconst 0, 1) := by decide +kernel
theorem dX0_pulledWires_3 : decode cX0_pulledWires 3 = .ok (.istore_n 2, 1) := by decide +kernel
theorem dX0_pulledWires_4 : decode cX0_pulledWires 4 = .ok (.iload_n 2, 1) := by decide +kernel
theorem dX0_pulledWires_5 : decode cX0_pulledWires 5 = .ok (.aload_n 0, 1) := by decide +kernel
theorem dX0_pulledWires_6 : decode cX0_pulledWires 6 = .ok (.getfield 49, 3) := by decide +kernel
theorem dX0_pulledWires_9 : decode cX0_pulledWires 9 = .ok (.if_icmp .ge 45, 3) := by decide +kernel
theorem dX0_pulledWires_12 : decode cX0_pulledWires 12 = .ok (.aload_n 0, 1) := by decide +kernel
theorem dX0_pulledWires_13 : decode cX0_pulledWires 13 = .ok (.getfield 34, 3) := by decide +kernel
theorem dX0_pulledWires_16 : decode cX0_pulledWires 16 = .ok (.iload_n 2, 1) := by decide +kernel
theorem dX0_pulledWires_17 : decode cX0_pulledWires 17 = .ok (.aaload, 1) := by decide +kernel
theorem dX0_pulledWires_18 : decode cX0_pulledWires 18 = .ok (.invokevirtual 121, 3) := by decide +kernel
theorem dX0_pulledWires_21 : decode cX0_pulledWires 21 = .ok (.ifCond .eq 27, 3) := by decide +kernel
theorem dX0_pulledWires_24 : decode cX0_pulledWires 24 = .ok (.aload_n 0, 1) := by decide +kernel
theorem dX0_pulledWires_25 : decode cX0_pulledWires 25 = .ok (.getfield 34, 3) := by decide +kernel
theorem dX0_pulledWires_28 : decode cX0_pulledWires 28 = .ok (.iload_n 2, 1) := by decide +kernel
theorem dX0_pulledWires_29 : decode cX0_pulledWires 29 = .ok (.aaload, 1) := by decide +kernel
theorem dX0_pulledWires_30 : decode cX0_pulledWires 30 = .ok (.invokevirtual 166, 3) := by decide +kernel
theorem dX0_pulledWires_33 : decode cX0_pulledWires 33 = .ok (.ifCond .ne 15, 3) := by decide +kernel
theorem dX0_pulledWires_36 : decode cX0_pulledWires 36 = .ok (.iload_n 1, 1) := by decide +kernel
theorem dX0_pulledWires_37 : decode cX0_pulledWires 37 = .ok (.aload_n 0, 1) := by decide +kernel
theorem dX0_pulledWires_38 : decode cX0_pulledWires 38 = .ok (.getfield 34, 3) := by decide +kernel
theorem dX0_pulledWires_41 : decode cX0_pulledWires 41 = .ok (.iload_n 2, 1) := by decide +kernel
theorem dX0_pulledWires_42 : decode cX0_pulledWires 42 = .ok (.aaload, 1) := by decide +kernel
theorem dX0_pulledWires_43 : decode cX0_pulledWires 43 = .ok (.getfield 169, 3) := by decide +kernel
theorem dX0_pulledWires_46 : decode cX0_pulledWires 46 = .ok (.ior, 1) := by decide +kernel
theorem dX0_pulledWires_47 : decode cX0_pulledWires 47 = .ok (.istore_n 1, 1) := by decide +kernel
theorem dX0_pulledWires_48 : decode cX0_pulledWires 48 = .ok (.iinc 2 1, 3) := by decide +kernel
theorem dX0_pulledWires_51 : decode cX0_pulledWires 51 = .ok (.goto (-47), 3) := by decide +kernel
theorem dX0_pulledWires_54 : decode cX0_pulledWires 54 = .ok (.iload_n 1, 1) := by decide +kernel
theorem dX0_pulledWires_55 : decode cX0_pulledWires 55 = .ok (.ireturn, 1) := by decide +kernel
theorem dX0_goOnSpeaking_0 : decode cX0_goOnSpeaking 0 = .ok (.iconst 0, 1) := by decide +kernel
theorem dX0_goOnSpeaking_1 : decode cX0_goOnSpeaking 1 = .ok (.istore_n 3, 1) := by decide +kernel
theorem dX0_goOnSpeaking_2 : decode cX0_goOnSpeaking 2 = .ok (.iconst 0, 1) := by decide +kernel
theorem dX0_goOnSpeaking_3 : decode cX0_goOnSpeaking 3 = .ok (.istore 4, 2) := by decide +kernel
theorem dX0_goOnSpeaking_5 : decode cX0_goOnSpeaking 5 = .ok (.iload 4, 2) := by decide +kernel
theorem dX0_goOnSpeaking_7 : decode cX0_goOnSpeaking 7 = .ok (.aload_n 0, 1) := by decide +kernel
theorem dX0_goOnSpeaking_8 : decode cX0_goOnSpeaking 8 = .ok (.getfield 49, 3) := by decide +kernel
theorem dX0_goOnSpeaking_11 : decode cX0_goOnSpeaking 11 = .ok (.if_icmp .ge 110, 3) := by decide +kernel
theorem dX0_goOnSpeaking_14 : decode cX0_goOnSpeaking 14 = .ok (.aload_n 0, 1) := by decide +kernel
theorem dX0_goOnSpeaking_15 : decode cX0_goOnSpeaking 15 = .ok (.getfield 34, 3) := by decide +kernel
theorem dX0_goOnSpeaking_18 : decode cX0_goOnSpeaking 18 = .ok (.iload 4, 2) := by decide +kernel
theorem dX0_goOnSpeaking_20 : decode cX0_goOnSpeaking 20 = .ok (.aaload, 1) := by decide +kernel
theorem dX0_goOnSpeaking_21 : decode cX0_goOnSpeaking 21 = .ok (.astore 5, 2) := by decide +kernel
theorem dX0_goOnSpeaking_23 : decode cX0_goOnSpeaking 23 = .ok (.aload 5, 2) := by decide +kernel
theorem dX0_goOnSpeaking_25 : decode cX0_goOnSpeaking 25 = .ok (.invokevirtual 121, 3) := by decide +kernel
theorem dX0_goOnSpeaking_28 : decode cX0_goOnSpeaking 28 = .ok (.ifCond .ne 6, 3) := by decide +kernel
theorem dX0_goOnSpeaking_31 : decode cX0_goOnSpeaking 31 = .ok (.goto 84, 3) := by decide +kernel
theorem dX0_goOnSpeaking_34 : decode cX0_goOnSpeaking 34 = .ok (.aload 5, 2) := by decide +kernel
theorem dX0_goOnSpeaking_36 : decode cX0_goOnSpeaking 36 = .ok (.invokevirtual 166, 3) := by decide +kernel
theorem dX0_goOnSpeaking_39 : decode cX0_goOnSpeaking 39 = .ok (.ifCond .eq 22, 3) := by decide +kernel
theorem dX0_goOnSpeaking_42 : decode cX0_goOnSpeaking 42 = .ok (.aload 5, 2) := by decide +kernel
theorem dX0_goOnSpeaking_44 : decode cX0_goOnSpeaking 44 = .ok (.getfield 169, 3) := by decide +kernel
theorem dX0_goOnSpeaking_47 : decode cX0_goOnSpeaking 47 = .ok (.iload_n 1, 1) := by decide +kernel
theorem dX0_goOnSpeaking_48 : decode cX0_goOnSpeaking 48 = .ok (.iand, 1) := by decide +kernel
theorem dX0_goOnSpeaking_49 : decode cX0_goOnSpeaking 49 = .ok (.ifCond .ne 12, 3) := by decide +kernel
theorem dX0_goOnSpeaking_52 : decode cX0_goOnSpeaking 52 = .ok (.aload_n 0, 1) := by decide +kernel
theorem dX0_goOnSpeaking_53 : decode cX0_goOnSpeaking 53 = .ok (.aload 5, 2) := by decide +kernel
theorem dX0_goOnSpeaking_55 : decode cX0_goOnSpeaking 55 = .ok (.invokevirtual 125, 3) := by decide +kernel
theorem dX0_goOnSpeaking_58 : decode cX0_goOnSpeaking 58 = .ok (.goto 57, 3) := by decide +kernel
theorem dX0_goOnSpeaking_61 : decode cX0_goOnSpeaking 61 = .ok (.aload 5, 2) := by decide +kernel
theorem dX0_goOnSpeaking_63 : decode cX0_goOnSpeaking 63 = .ok (.getfield 172, 3) := by decide +kernel
theorem dX0_goOnSpeaking_66 : decode cX0_goOnSpeaking 66 = .ok (.bipush 10, 2) := by decide +kernel
theorem dX0_goOnSpeaking_68 : decode cX0_goOnSpeaking 68 = .ok (.if_icmp .ge 17, 3) := by decide +kernel
theorem dX0_goOnSpeaking_71 : decode cX0_goOnSpeaking 71 = .ok (.aload 5, 2) := by decide +kernel
theorem dX0_goOnSpeaking_73 : decode cX0_goOnSpeaking 73 = .ok (.dup, 1) := by decide +kernel
theorem dX0_goOnSpeaking_74 : decode cX0_goOnSpeaking 74 = .ok (.getfield 172, 3) := by decide +kernel
theorem dX0_goOnSpeaking_77 : decode cX0_goOnSpeaking 77 = .ok (.iconst 1, 1) := by decide +kernel
theorem dX0_goOnSpeaking_78 : decode cX0_goOnSpeaking 78 = .ok (.iadd, 1) := by decide +kernel
theorem dX0_goOnSpeaking_79 : decode cX0_goOnSpeaking 79 = .ok (.putfield 172, 3) := by decide +kernel
theorem dX0_goOnSpeaking_82 : decode cX0_goOnSpeaking 82 = .ok (.goto 33, 3) := by decide +kernel
theorem dX0_goOnSpeaking_85 : decode cX0_goOnSpeaking 85 = .ok (.aload 5, 2) := by decide +kernel
theorem dX0_goOnSpeaking_87 : decode cX0_goOnSpeaking 87 = .ok (.getfield 175, 3) := by decide +kernel
theorem dX0_goOnSpeaking_90 : decode cX0_goOnSpeaking 90 = .ok (.iload_n 2, 1) := by decide +kernel
theorem dX0_goOnSpeaking_91 : decode cX0_goOnSpeaking 91 = .ok (.iconst (-1), 1) := by decide +kernel
theorem dX0_goOnSpeaking_92 : decode cX0_goOnSpeaking 92 = .ok (.ixor, 1) := by decide +kernel
theorem dX0_goOnSpeaking_93 : decode cX0_goOnSpeaking 93 = .ok (.iand, 1) := by decide +kernel
theorem dX0_goOnSpeaking_94 : decode cX0_goOnSpeaking 94 = .ok (.ifCond .ne 15, 3) := by decide +kernel
theorem dX0_goOnSpeaking_97 : decode cX0_goOnSpeaking 97 = .ok (.aload_n 0, 1) := by decide +kernel
theorem dX0_goOnSpeaking_98 : decode cX0_goOnSpeaking 98 = .ok (.aload 5, 2) := by decide +kernel
theorem dX0_goOnSpeaking_100 : decode cX0_goOnSpeaking 100 = .ok (.invokevirtual 178, 3) := by decide +kernel
theorem dX0_goOnSpeaking_103 : decode cX0_goOnSpeaking 103 = .ok (.iinc 3 1, 3) := by decide +kernel
theorem dX0_goOnSpeaking_106 : decode cX0_goOnSpeaking 106 = .ok (.goto 9, 3) := by decide +kernel
theorem dX0_goOnSpeaking_109 : decode cX0_goOnSpeaking 109 = .ok (.aload_n 0, 1) := by decide +kernel
theorem dX0_goOnSpeaking_110 : decode cX0_goOnSpeaking 110 = .ok (.aload 5, 2) := by decide +kernel
theorem dX0_goOnSpeaking_112 : decode cX0_goOnSpeaking 112 = .ok (.invokevirtual 125, 3) := by decide +kernel
theorem dX0_goOnSpeaking_115 : decode cX0_goOnSpeaking 115 = .ok (.iinc 4 1, 3) := by decide +kernel
theorem dX0_goOnSpeaking_118 : decode cX0_goOnSpeaking 118 = .ok (.goto (-113), 3) := by decide +kernel
theorem dX0_goOnSpeaking_121 : decode cX0_goOnSpeaking 121 = .ok (.iload_n 3, 1) := by decide +kernel
theorem dX0_goOnSpeaking_122 : decode cX0_goOnSpeaking 122 = .ok (.ireturn, 1) := by decide +kernel
theorem dX0_beHeard_0 : decode cX0_beHeard 0 = .ok (.aload_n 1, 1) := by decide +kernel
theorem dX0_beHeard_1 : decode cX0_beHeard 1 = .ok (.getfield 91, 3) := by decide +kernel
theorem dX0_beHeard_4 : decode cX0_beHeard 4 = .ok (.iconst 0, 1) := by decide +kernel
theorem dX0_beHeard_5 : decode cX0_beHeard 5 = .ok (.invokevirtual 104, 3) := by decide +kernel
theorem dX0_beHeard_8 : decode cX0_beHeard 8 = .ok (.istore_n 2, 1) := by decide +kernel
theorem dX0_beHeard_9 : decode cX0_beHeard 9 = .ok (.aload_n 1, 1) := by decide +kernel
theorem dX0_beHeard_10 : decode cX0_beHeard 10 = .ok (.getfield 91, 3) := by decide +kernel
theorem dX0_beHeard_13 : decode cX0_beHeard 13 = .ok (.iconst 0, 1) := by decide +kernel
theorem dX0_beHeard_14 : decode cX0_beHeard 14 = .ok (.invokevirtual 154, 3) := by decide +kernel
theorem dX0_beHeard_17 : decode cX0_beHeard 17 = .ok (.istore_n 3, 1) := by decide +kernel
theorem dX0_beHeard_18 : decode cX0_beHeard 18 = .ok (.aload_n 1, 1) := by decide +kernel
theorem dX0_beHeard_19 : decode cX0_beHeard 19 = .ok (.getfield 175, 3) := by decide +kernel
theorem dX0_beHeard_22 : decode cX0_beHeard 22 = .ok (.iconst 1, 1) := by decide +kernel
theorem dX0_beHeard_23 : decode cX0_beHeard 23 = .ok (.aload_n 1, 1) := by decide +kernel
theorem dX0_beHeard_24 : decode cX0_beHeard 24 = .ok (.getfield 181, 3) := by decide +kernel
theorem dX0_beHeard_27 : decode cX0_beHeard 27 = .ok (.ishl, 1) := by decide +kernel
theorem dX0_beHeard_28 : decode cX0_beHeard 28 = .ok (.iconst (-1), 1) := by decide +kernel
theorem dX0_beHeard_29 : decode cX0_beHeard 29 = .ok (.ixor, 1) := by decide +kernel
theorem dX0_beHeard_30 : decode cX0_beHeard 30 = .ok (.iand, 1) := by decide +kernel
theorem dX0_beHeard_31 : decode cX0_beHeard 31 = .ok (.istore 4, 2) := by decide +kernel
theorem dX0_beHeard_33 : decode cX0_beHeard 33 = .ok (.iconst 0, 1) := by decide +kernel
theorem dX0_beHeard_34 : decode cX0_beHeard 34 = .ok (.istore 5, 2) := by decide +kernel
theorem dX0_beHeard_36 : decode cX0_beHeard 36 = .ok (.iload 5, 2) := by decide +kernel
theorem dX0_beHeard_38 : decode cX0_beHeard 38 = .ok (.aload_n 0, 1) := by decide +kernel
theorem dX0_beHeard_39 : decode cX0_beHeard 39 = .ok (.getfield 49, 3) := by decide +kernel
theorem dX0_beHeard_42 : decode cX0_beHeard 42 = .ok (.if_icmp .ge 61, 3) := by decide +kernel
theorem dX0_beHeard_45 : decode cX0_beHeard 45 = .ok (.iload 4, 2) := by decide +kernel
theorem dX0_beHeard_47 : decode cX0_beHeard 47 = .ok (.iload 5, 2) := by decide +kernel
theorem dX0_beHeard_49 : decode cX0_beHeard 49 = .ok (.ishr, 1) := by decide +kernel
theorem dX0_beHeard_50 : decode cX0_beHeard 50 = .ok (.iconst 1, 1) := by decide +kernel
theorem dX0_beHeard_51 : decode cX0_beHeard 51 = .ok (.iand, 1) := by decide +kernel
theorem dX0_beHeard_52 : decode cX0_beHeard 52 = .ok (.ifCond .ne 6, 3) := by decide +kernel
theorem dX0_beHeard_55 : decode cX0_beHeard 55 = .ok (.goto 42, 3) := by decide +kernel
theorem dX0_beHeard_58 : decode cX0_beHeard 58 = .ok (.aload_n 0, 1) := by decide +kernel
theorem dX0_beHeard_59 : decode cX0_beHeard 59 = .ok (.getfield 34, 3) := by decide +kernel
theorem dX0_beHeard_62 : decode cX0_beHeard 62 = .ok (.iload 5, 2) := by decide +kernel
theorem dX0_beHeard_64 : decode cX0_beHeard 64 = .ok (.aaload, 1) := by decide +kernel
theorem dX0_beHeard_65 : decode cX0_beHeard 65 = .ok (.getfield 184, 3) := by decide +kernel
theorem dX0_beHeard_68 : decode cX0_beHeard 68 = .ok (.iload_n 2, 1) := by decide +kernel
theorem dX0_beHeard_69 : decode cX0_beHeard 69 = .ok (.aload_n 1, 1) := by decide +kernel
theorem dX0_beHeard_70 : decode cX0_beHeard 70 = .ok (.getfield 181, 3) := by decide +kernel
theorem dX0_beHeard_73 : decode cX0_beHeard 73 = .ok (.iload_n 3, 1) := by decide +kernel
theorem dX0_beHeard_74 : decode cX0_beHeard 74 = .ok (.aload_n 0, 1) := by decide +kernel
theorem dX0_beHeard_75 : decode cX0_beHeard 75 = .ok (.getfield 56, 3) := by decide +kernel
theorem dX0_beHeard_78 : decode cX0_beHeard 78 = .ok (.invokevirtual 188, 3) := by decide +kernel
theorem dX0_beHeard_81 : decode cX0_beHeard 81 = .ok (.aload_n 0, 1) := by decide +kernel
theorem dX0_beHeard_82 : decode cX0_beHeard 82 = .ok (.getfield 34, 3) := by decide +kernel
theorem dX0_beHeard_85 : decode cX0_beHeard 85 = .ok (.iload 5, 2) := by decide +kernel
theorem dX0_beHeard_87 : decode cX0_beHeard 87 = .ok (.aaload, 1) := by decide +kernel
theorem dX0_beHeard_88 : decode cX0_beHeard 88 = .ok (.dup, 1) := by decide +kernel
theorem dX0_beHeard_89 : decode cX0_beHeard 89 = .ok (.getfield 193, 3) := by decide +kernel
theorem dX0_beHeard_92 : decode cX0_beHeard 92 = .ok (.iconst 1, 1) := by decide +kernel
theorem dX0_beHeard_93 : decode cX0_beHeard 93 = .ok (.iadd, 1) := by decide +kernel
theorem dX0_beHeard_94 : decode cX0_beHeard 94 = .ok (.putfield 193, 3) := by decide +kernel
theorem dX0_beHeard_97 : decode cX0_beHeard 97 = .ok (.iinc 5 1, 3) := by decide +kernel
theorem dX0_beHeard_100 : decode cX0_beHeard 100 = .ok (.goto (-64), 3) := by decide +kernel
theorem dX0_beHeard_103 : decode cX0_beHeard 103 = .ok (.aload_n 1, 1) := by decide +kernel
theorem dX0_beHeard_104 : decode cX0_beHeard 104 = .ok (.dup, 1) := by decide +kernel
theorem dX0_beHeard_105 : decode cX0_beHeard 105 = .ok (.getfield 196, 3) := by decide +kernel
theorem dX0_beHeard_108 : decode cX0_beHeard 108 = .ok (.iconst 1, 1) := by decide +kernel
theorem dX0_beHeard_109 : decode cX0_beHeard 109 = .ok (.iadd, 1) := by decide +kernel
theorem dX0_beHeard_110 : decode cX0_beHeard 110 = .ok (.putfield 196, 3) := by decide +kernel
theorem dX0_beHeard_113 : decode cX0_beHeard 113 = .ok (.iload_n 3, 1) := by decide +kernel
theorem dX0_beHeard_114 : decode cX0_beHeard 114 = .ok (.invokestatic 84, 3) := by decide +kernel
theorem dX0_beHeard_117 : decode cX0_beHeard 117 = .ok (.ifCond .eq 13, 3) := by decide +kernel
theorem dX0_beHeard_120 : decode cX0_beHeard 120 = .ok (.aload_n 0, 1) := by decide +kernel
theorem dX0_beHeard_121 : decode cX0_beHeard 121 = .ok (.getfield 26, 3) := by decide +kernel
theorem dX0_beHeard_124 : decode cX0_beHeard 124 = .ok (.iload_n 3, 1) := by decide +kernel
theorem dX0_beHeard_125 : decode cX0_beHeard 125 = .ok (.dup2, 1) := by decide +kernel
theorem dX0_beHeard_126 : decode cX0_beHeard 126 = .ok (.iaload, 1) := by decide +kernel
theorem dX0_beHeard_127 : decode cX0_beHeard 127 = .ok (.iconst 1, 1) := by decide +kernel
theorem dX0_beHeard_128 : decode cX0_beHeard 128 = .ok (.iadd, 1) := by decide +kernel
theorem dX0_beHeard_129 : decode cX0_beHeard 129 = .ok (.iastore, 1) := by decide +kernel
theorem dX0_beHeard_130 : decode cX0_beHeard 130 = .ok (.aload_n 1, 1) := by decide +kernel
theorem dX0_beHeard_131 : decode cX0_beHeard 131 = .ok (.getfield 91, 3) := by decide +kernel
theorem dX0_beHeard_134 : decode cX0_beHeard 134 = .ok (.invokevirtual 108, 3) := by decide +kernel
theorem dX0_beHeard_137 : decode cX0_beHeard 137 = .ok (.aload_n 1, 1) := by decide +kernel
theorem dX0_beHeard_138 : decode cX0_beHeard 138 = .ok (.invokevirtual 111, 3) := by decide +kernel
theorem dX0_beHeard_141 : decode cX0_beHeard 141 = .ok (.return_, 1) := by decide +kernel
theorem dX0_giveUp_0 : decode cX0_giveUp 0 = .ok (.aload_n 1, 1) := by decide +kernel
theorem dX0_giveUp_1 : decode cX0_giveUp 1 = .ok (.getfield 91, 3) := by decide +kernel
theorem dX0_giveUp_4 : decode cX0_giveUp 4 = .ok (.iconst 0, 1) := by decide +kernel
theorem dX0_giveUp_5 : decode cX0_giveUp 5 = .ok (.invokevirtual 154, 3) := by decide +kernel
theorem dX0_giveUp_8 : decode cX0_giveUp 8 = .ok (.istore_n 2, 1) := by decide +kernel
theorem dX0_giveUp_9 : decode cX0_giveUp 9 = .ok (.aload_n 1, 1) := by decide +kernel
theorem dX0_giveUp_10 : decode cX0_giveUp 10 = .ok (.invokevirtual 111, 3) := by decide +kernel
theorem dX0_giveUp_13 : decode cX0_giveUp 13 = .ok (.aload_n 1, 1) := by decide +kernel
theorem dX0_giveUp_14 : decode cX0_giveUp 14 = .ok (.dup, 1) := by decide +kernel
theorem dX0_giveUp_15 : decode cX0_giveUp 15 = .ok (.getfield 199, 3) := by decide +kernel
theorem dX0_giveUp_18 : decode cX0_giveUp 18 = .ok (.iconst 1, 1) := by decide +kernel
theorem dX0_giveUp_19 : decode cX0_giveUp 19 = .ok (.iadd, 1) := by decide +kernel
theorem dX0_giveUp_20 : decode cX0_giveUp 20 = .ok (.putfield 199, 3) := by decide +kernel
theorem dX0_giveUp_23 : decode cX0_giveUp 23 = .ok (.aload_n 1, 1) := by decide +kernel
theorem dX0_giveUp_24 : decode cX0_giveUp 24 = .ok (.getfield 91, 3) := by decide +kernel
theorem dX0_giveUp_27 : decode cX0_giveUp 27 = .ok (.invokevirtual 202, 3) := by decide +kernel
theorem dX0_giveUp_30 : decode cX0_giveUp 30 = .ok (.aload_n 0, 1) := by decide +kernel
theorem dX0_giveUp_31 : decode cX0_giveUp 31 = .ok (.getfield 18, 3) := by decide +kernel
theorem dX0_giveUp_34 : decode cX0_giveUp 34 = .ok (.iconst 4, 1) := by decide +kernel
theorem dX0_giveUp_35 : decode cX0_giveUp 35 = .ok (.iaload, 1) := by decide +kernel
theorem dX0_giveUp_36 : decode cX0_giveUp 36 = .ok (.if_icmp .ge 4, 3) := by decide +kernel
theorem dX0_giveUp_39 : decode cX0_giveUp 39 = .ok (.return_, 1) := by decide +kernel
theorem dX0_giveUp_40 : decode cX0_giveUp 40 = .ok (.aload_n 1, 1) := by decide +kernel
theorem dX0_giveUp_41 : decode cX0_giveUp 41 = .ok (.getfield 91, 3) := by decide +kernel
theorem dX0_giveUp_44 : decode cX0_giveUp 44 = .ok (.invokevirtual 108, 3) := by decide +kernel
theorem dX0_giveUp_47 : decode cX0_giveUp 47 = .ok (.aload_n 1, 1) := by decide +kernel
theorem dX0_giveUp_48 : decode cX0_giveUp 48 = .ok (.dup, 1) := by decide +kernel
theorem dX0_giveUp_49 : decode cX0_giveUp 49 = .ok (.getfield 205, 3) := by decide +kernel
theorem dX0_giveUp_52 : decode cX0_giveUp 52 = .ok (.iconst 1, 1) := by decide +kernel
theorem dX0_giveUp_53 : decode cX0_giveUp 53 = .ok (.iadd, 1) := by decide +kernel
theorem dX0_giveUp_54 : decode cX0_giveUp 54 = .ok (.putfield 205, 3) := by decide +kernel
theorem dX0_giveUp_57 : decode cX0_giveUp 57 = .ok (.iload_n 2, 1) := by decide +kernel
theorem dX0_giveUp_58 : decode cX0_giveUp 58 = .ok (.invokestatic 84, 3) := by decide +kernel
theorem dX0_giveUp_61 : decode cX0_giveUp 61 = .ok (.ifCond .eq 13, 3) := by decide +kernel
theorem dX0_giveUp_64 : decode cX0_giveUp 64 = .ok (.aload_n 0, 1) := by decide +kernel
theorem dX0_giveUp_65 : decode cX0_giveUp 65 = .ok (.getfield 29, 3) := by decide +kernel
theorem dX0_giveUp_68 : decode cX0_giveUp 68 = .ok (.iload_n 2, 1) := by decide +kernel
theorem dX0_giveUp_69 : decode cX0_giveUp 69 = .ok (.dup2, 1) := by decide +kernel
theorem dX0_giveUp_70 : decode cX0_giveUp 70 = .ok (.iaload, 1) := by decide +kernel
theorem dX0_giveUp_71 : decode cX0_giveUp 71 = .ok (.iconst 1, 1) := by decide +kernel
theorem dX0_giveUp_72 : decode cX0_giveUp 72 = .ok (.iadd, 1) := by decide +kernel
theorem dX0_giveUp_73 : decode cX0_giveUp 73 = .ok (.iastore, 1) := by decide +kernel
theorem dX0_giveUp_74 : decode cX0_giveUp 74 = .ok (.return_, 1) := by decide +kernel
theorem dX0_changeCharges_0 : decode cX0_changeCharges 0 = .ok (.aload_n 0, 1) := by decide +kernel
theorem dX0_changeCharges_1 : decode cX0_changeCharges 1 = .ok (.getfield 18, 3) := by decide +kernel
theorem dX0_changeCharges_4 : decode cX0_changeCharges 4 = .ok (.iconst 1, 1) := by decide +kernel
theorem dX0_changeCharges_5 : decode cX0_changeCharges 5 = .ok (.iaload, 1) := by decide +kernel
theorem dX0_changeCharges_6 : decode cX0_changeCharges 6 = .ok (.istore_n 2, 1) := by decide +kernel
theorem dX0_changeCharges_7 : decode cX0_changeCharges 7 = .ok (.iconst 0, 1) := by decide +kernel
theorem dX0_changeCharges_8 : decode cX0_changeCharges 8 = .ok (.istore_n 3, 1) := by decide +kernel
theorem dX0_changeCharges_9 : decode cX0_changeCharges 9 = .ok (.iload_n 3, 1) := by decide +kernel
theorem dX0_changeCharges_10 : decode cX0_changeCharges 10 = .ok (.aload_n 0, 1) := by decide +kernel
theorem dX0_changeCharges_11 : decode cX0_changeCharges 11 = .ok (.getfield 49, 3) := by decide +kernel
theorem dX0_changeCharges_14 : decode cX0_changeCharges 14 = .ok (.if_icmp .ge 138, 3) := by decide +kernel
theorem dX0_changeCharges_17 : decode cX0_changeCharges 17 = .ok (.aload_n 0, 1) := by decide +kernel
theorem dX0_changeCharges_18 : decode cX0_changeCharges 18 = .ok (.getfield 34, 3) := by decide +kernel
theorem dX0_changeCharges_21 : decode cX0_changeCharges 21 = .ok (.iload_n 3, 1) := by decide +kernel
theorem dX0_changeCharges_22 : decode cX0_changeCharges 22 = .ok (.aaload, 1) := by decide +kernel
theorem dX0_changeCharges_23 : decode cX0_changeCharges 23 = .ok (.astore 4, 2) := by decide +kernel
theorem dX0_changeCharges_25 : decode cX0_changeCharges 25 = .ok (.aload 4, 2) := by decide +kernel
theorem dX0_changeCharges_27 : decode cX0_changeCharges 27 = .ok (.invokevirtual 151, 3) := by decide +kernel
theorem dX0_changeCharges_30 : decode cX0_changeCharges 30 = .ok (.ifCond .eq 12, 3) := by decide +kernel
theorem dX0_changeCharges_33 : decode cX0_changeCharges 33 = .ok (.aload_n 0, 1) := by decide +kernel
theorem dX0_changeCharges_34 : decode cX0_changeCharges 34 = .ok (.getfield 18, 3) := by decide +kernel
theorem dX0_changeCharges_37 : decode cX0_changeCharges 37 = .ok (.iconst 2, 1) := by decide +kernel
theorem dX0_changeCharges_38 : decode cX0_changeCharges 38 = .ok (.iaload, 1) := by decide +kernel
theorem dX0_changeCharges_39 : decode cX0_changeCharges 39 = .ok (.goto 4, 3) := by decide +kernel
theorem dX0_changeCharges_42 : decode cX0_changeCharges 42 = .ok (.iconst 0, 1) := by decide +kernel
theorem dX0_changeCharges_43 : decode cX0_changeCharges 43 = .ok (.istore 5, 2) := by decide +kernel
theorem dX0_changeCharges_45 : decode cX0_changeCharges 45 = .ok (.aload 4, 2) := by decide +kernel
theorem dX0_changeCharges_47 : decode cX0_changeCharges 47 = .ok (.getfield 68, 3) := by decide +kernel
theorem dX0_changeCharges_50 : decode cX0_changeCharges 50 = .ok (.aload_n 0, 1) := by decide +kernel
theorem dX0_changeCharges_51 : decode cX0_changeCharges 51 = .ok (.getfield 18, 3) := by decide +kernel
theorem dX0_changeCharges_54 : decode cX0_changeCharges 54 = .ok (.iconst 3, 1) := by decide +kernel
theorem dX0_changeCharges_55 : decode cX0_changeCharges 55 = .ok (.iaload, 1) := by decide +kernel
theorem dX0_changeCharges_56 : decode cX0_changeCharges 56 = .ok (.aload 4, 2) := by decide +kernel
theorem dX0_changeCharges_58 : decode cX0_changeCharges 58 = .ok (.getfield 77, 3) := by decide +kernel
theorem dX0_changeCharges_61 : decode cX0_changeCharges 61 = .ok (.iload_n 1, 1) := by decide +kernel
theorem dX0_changeCharges_62 : decode cX0_changeCharges 62 = .ok (.iand, 1) := by decide +kernel
theorem dX0_changeCharges_63 : decode cX0_changeCharges 63 = .ok (.invokestatic 208, 3) := by decide +kernel
theorem dX0_changeCharges_66 : decode cX0_changeCharges 66 = .ok (.imul, 1) := by decide +kernel
theorem dX0_changeCharges_67 : decode cX0_changeCharges 67 = .ok (.iadd, 1) := by decide +kernel
theorem dX0_changeCharges_68 : decode cX0_changeCharges 68 = .ok (.iload 5, 2) := by decide +kernel
theorem dX0_changeCharges_70 : decode cX0_changeCharges 70 = .ok (.isub, 1) := by decide +kernel
theorem dX0_changeCharges_71 : decode cX0_changeCharges 71 = .ok (.istore 6, 2) := by decide +kernel
theorem dX0_changeCharges_73 : decode cX0_changeCharges 73 = .ok (.aload 4, 2) := by decide +kernel
theorem dX0_changeCharges_75 : decode cX0_changeCharges 75 = .ok (.iconst 0, 1) := by decide +kernel
theorem dX0_changeCharges_76 : decode cX0_changeCharges 76 = .ok (.iload 6, 2) := by decide +kernel
theorem dX0_changeCharges_78 : decode cX0_changeCharges 78 = .ok (.iload_n 2, 1) := by decide +kernel
theorem dX0_changeCharges_79 : decode cX0_changeCharges 79 = .ok (.invokestatic 71, 3) := by decide +kernel
theorem dX0_changeCharges_82 : decode cX0_changeCharges 82 = .ok (.invokestatic 213, 3) := by decide +kernel
theorem dX0_changeCharges_85 : decode cX0_changeCharges 85 = .ok (.putfield 68, 3) := by decide +kernel
theorem dX0_changeCharges_88 : decode cX0_changeCharges 88 = .ok (.iload 6, 2) := by decide +kernel
theorem dX0_changeCharges_90 : decode cX0_changeCharges 90 = .ok (.ifCond .ge 23, 3) := by decide +kernel
theorem dX0_changeCharges_93 : decode cX0_changeCharges 93 = .ok (.aload 4, 2) := by decide +kernel
theorem dX0_changeCharges_95 : decode cX0_changeCharges 95 = .ok (.iconst 1, 1) := by decide +kernel
theorem dX0_changeCharges_96 : decode cX0_changeCharges 96 = .ok (.putfield 216, 3) := by decide +kernel
theorem dX0_changeCharges_99 : decode cX0_changeCharges 99 = .ok (.aload 4, 2) := by decide +kernel
theorem dX0_changeCharges_101 : decode cX0_changeCharges 101 = .ok (.invokevirtual 121, 3) := by decide +kernel
theorem dX0_changeCharges_104 : decode cX0_changeCharges 104 = .ok (.ifCond .eq 9, 3) := by decide +kernel
theorem dX0_changeCharges_107 : decode cX0_changeCharges 107 = .ok (.aload_n 0, 1) := by decide +kernel
theorem dX0_changeCharges_108 : decode cX0_changeCharges 108 = .ok (.aload 4, 2) := by decide +kernel
theorem dX0_changeCharges_110 : decode cX0_changeCharges 110 = .ok (.invokevirtual 125, 3) := by decide +kernel
theorem dX0_changeCharges_113 : decode cX0_changeCharges 113 = .ok (.aload 4, 2) := by decide +kernel
theorem dX0_changeCharges_115 : decode cX0_changeCharges 115 = .ok (.getfield 216, 3) := by decide +kernel
theorem dX0_changeCharges_118 : decode cX0_changeCharges 118 = .ok (.ifCond .eq 28, 3) := by decide +kernel
theorem dX0_changeCharges_121 : decode cX0_changeCharges 121 = .ok (.aload 4, 2) := by decide +kernel
theorem dX0_changeCharges_123 : decode cX0_changeCharges 123 = .ok (.getfield 117, 3) := by decide +kernel
theorem dX0_changeCharges_126 : decode cX0_changeCharges 126 = .ok (.ifCond .ne 20, 3) := by decide +kernel
theorem dX0_changeCharges_129 : decode cX0_changeCharges 129 = .ok (.aload 4, 2) := by decide +kernel
theorem dX0_changeCharges_131 : decode cX0_changeCharges 131 = .ok (.getfield 68, 3) := by decide +kernel
theorem dX0_changeCharges_134 : decode cX0_changeCharges 134 = .ok (.iload_n 2, 1) := by decide +kernel
theorem dX0_changeCharges_135 : decode cX0_changeCharges 135 = .ok (.iconst 2, 1) := by decide +kernel
theorem dX0_changeCharges_136 : decode cX0_changeCharges 136 = .ok (.idiv, 1) := by decide +kernel
theorem dX0_changeCharges_137 : decode cX0_changeCharges 137 = .ok (.if_icmp .lt 9, 3) := by decide +kernel
theorem dX0_changeCharges_140 : decode cX0_changeCharges 140 = .ok (.aload 4, 2) := by decide +kernel
theorem dX0_changeCharges_142 : decode cX0_changeCharges 142 = .ok (.iconst 0, 1) := by decide +kernel
theorem dX0_changeCharges_143 : decode cX0_changeCharges 143 = .ok (.putfield 216, 3) := by decide +kernel
theorem dX0_changeCharges_146 : decode cX0_changeCharges 146 = .ok (.iinc 3 1, 3) := by decide +kernel
theorem dX0_changeCharges_149 : decode cX0_changeCharges 149 = .ok (.goto (-140), 3) := by decide +kernel
theorem dX0_changeCharges_152 : decode cX0_changeCharges 152 = .ok (.return_, 1) := by decide +kernel
theorem dX0_restWires_0 : decode cX0_restWires 0 = .ok (.iconst 0, 1) := by decide +kernel
theorem dX0_restWires_1 : decode cX0_restWires 1 = .ok (.istore_n 2, 1) := by decide +kernel
theorem dX0_restWires_2 : decode cX0_restWires 2 = .ok (.iload_n 2, 1) := by decide +kernel
theorem dX0_restWires_3 : decode cX0_restWires 3 = .ok (.bipush 6, 2) := by decide +kernel
theorem dX0_restWires_5 : decode cX0_restWires 5 = .ok (.if_icmp .ge 42, 3) := by decide +kernel
theorem dX0_restWires_8 : decode cX0_restWires 8 = .ok (.aload_n 0, 1) := by decide +kernel
theorem dX0_restWires_9 : decode cX0_restWires 9 = .ok (.getfield 23, 3) := by decide +kernel
theorem dX0_restWires_12 : decode cX0_restWires 12 = .ok (.iload_n 2, 1) := by decide +kernel
theorem dX0_restWires_13 : decode cX0_restWires 13 = .ok (.iload_n 1, 1) := by decide +kernel
theorem dX0_restWires_14 : decode cX0_restWires 14 = .ok (.iload_n 2, 1) := by decide +kernel
theorem dX0_restWires_15 : decode cX0_restWires 15 = .ok (.ishr, 1) := by decide +kernel
theorem dX0_restWires_16 : decode cX0_restWires 16 = .ok (.iconst 1, 1) := by decide +kernel
theorem dX0_restWires_17 : decode cX0_restWires 17 = .ok (.iand, 1) := by decide +kernel
theorem dX0_restWires_18 : decode cX0_restWires 18 = .ok (.iconst 1, 1) := by decide +kernel
theorem dX0_restWires_19 : decode cX0_restWires 19 = .ok (.if_icmp .ne 20, 3) := by decide +kernel
theorem dX0_restWires_22 : decode cX0_restWires 22 = .ok (.aload_n 0, 1) := by decide +kernel
theorem dX0_restWires_23 : decode cX0_restWires 23 = .ok (.getfield 23, 3) := by decide +kernel
theorem dX0_restWires_26 : decode cX0_restWires 26 = .ok (.iload_n 2, 1) := by decide +kernel
theorem dX0_restWires_27 : decode cX0_restWires 27 = .ok (.iaload, 1) := by decide +kernel
theorem dX0_restWires_28 : decode cX0_restWires 28 = .ok (.iconst 1, 1) := by decide +kernel
theorem dX0_restWires_29 : decode cX0_restWires 29 = .ok (.iadd, 1) := by decide +kernel
theorem dX0_restWires_30 : decode cX0_restWires 30 = .ok (.sipush 999, 3) := by decide +kernel
theorem dX0_restWires_33 : decode cX0_restWires 33 = .ok (.invokestatic 71, 3) := by decide +kernel
theorem dX0_restWires_36 : decode cX0_restWires 36 = .ok (.goto 4, 3) := by decide +kernel
theorem dX0_restWires_39 : decode cX0_restWires 39 = .ok (.iconst 0, 1) := by decide +kernel
theorem dX0_restWires_40 : decode cX0_restWires 40 = .ok (.iastore, 1) := by decide +kernel
theorem dX0_restWires_41 : decode cX0_restWires 41 = .ok (.iinc 2 1, 3) := by decide +kernel
theorem dX0_restWires_44 : decode cX0_restWires 44 = .ok (.goto (-42), 3) := by decide +kernel
theorem dX0_restWires_47 : decode cX0_restWires 47 = .ok (.return_, 1) := by decide +kernel
theorem dX0_isRested_0 : decode cX0_isRested 0 = .ok (.iload_n 1, 1) := by decide +kernel
theorem dX0_isRested_1 : decode cX0_isRested 1 = .ok (.invokestatic 84, 3) := by decide +kernel
theorem dX0_isRested_4 : decode cX0_isRested 4 = .ok (.ifCond .eq 22, 3) := by decide +kernel
theorem dX0_isRested_7 : decode cX0_isRested 7 = .ok (.aload_n 0, 1) := by decide +kernel
theorem dX0_isRested_8 : decode cX0_isRested 8 = .ok (.getfield 23, 3) := by decide +kernel
theorem dX0_isRested_11 : decode cX0_isRested 11 = .ok (.iload_n 1, 1) := by decide +kernel
theorem dX0_isRested_12 : decode cX0_isRested 12 = .ok (.iaload, 1) := by decide +kernel
theorem dX0_isRested_13 : decode cX0_isRested 13 = .ok (.aload_n 0, 1) := by decide +kernel
theorem dX0_isRested_14 : decode cX0_isRested 14 = .ok (.getfield 18, 3) := by decide +kernel
theorem dX0_isRested_17 : decode cX0_isRested 17 = .ok (.iconst 0, 1) := by decide +kernel
theorem dX0_isRested_18 : decode cX0_isRested 18 = .ok (.iaload, 1) := by decide +kernel
theorem dX0_isRested_19 : decode cX0_isRested 19 = .ok (.if_icmp .lt 7, 3) := by decide +kernel
theorem dX0_isRested_22 : decode cX0_isRested 22 = .ok (.iconst 1, 1) := by decide +kernel
theorem dX0_isRested_23 : decode cX0_isRested 23 = .ok (.goto 4, 3) := by decide +kernel
theorem dX0_isRested_26 : decode cX0_isRested 26 = .ok (.iconst 0, 1) := by decide +kernel
theorem dX0_isRested_27 : decode cX0_isRested 27 = .ok (.ireturn, 1) := by decide +kernel
theorem dX0_hasFault_0 : decode cX0_hasFault 0 = .ok (.iload_n 1, 1) := by decide +kernel
theorem dX0_hasFault_1 : decode cX0_hasFault 1 = .ok (.invokestatic 84, 3) := by decide +kernel
theorem dX0_hasFault_4 : decode cX0_hasFault 4 = .ok (.ifCond .eq 19, 3) := by decide +kernel
theorem dX0_hasFault_7 : decode cX0_hasFault 7 = .ok (.aload_n 0, 1) := by decide +kernel
theorem dX0_hasFault_8 : decode cX0_hasFault 8 = .ok (.getfield 53, 3) := by decide +kernel
theorem dX0_hasFault_11 : decode cX0_hasFault 11 = .ok (.iload_n 1, 1) := by decide +kernel
theorem dX0_hasFault_12 : decode cX0_hasFault 12 = .ok (.ishr, 1) := by decide +kernel
theorem dX0_hasFault_13 : decode cX0_hasFault 13 = .ok (.iconst 1, 1) := by decide +kernel
theorem dX0_hasFault_14 : decode cX0_hasFault 14 = .ok (.iand, 1) := by decide +kernel
theorem dX0_hasFault_15 : decode cX0_hasFault 15 = .ok (.iconst 1, 1) := by decide +kernel
theorem dX0_hasFault_16 : decode cX0_hasFault 16 = .ok (.if_icmp .ne 7, 3) := by decide +kernel
theorem dX0_hasFault_19 : decode cX0_hasFault 19 = .ok (.iconst 1, 1) := by decide +kernel
theorem dX0_hasFault_20 : decode cX0_hasFault 20 = .ok (.goto 4, 3) := by decide +kernel
theorem dX0_hasFault_23 : decode cX0_hasFault 23 = .ok (.iconst 0, 1) := by decide +kernel
theorem dX0_hasFault_24 : decode cX0_hasFault 24 = .ok (.ireturn, 1) := by decide +kernel
theorem dX0_stationsAt_0 : decode cX0_stationsAt 0 = .ok (.iconst 0, 1) := by decide +kernel
theorem dX0_stationsAt_1 : decode cX0_stationsAt 1 = .ok (.istore_n 2, 1) := by decide +kernel
theorem dX0_stationsAt_2 : decode cX0_stationsAt 2 = .ok (.iconst 0, 1) := by decide +kernel
theorem dX0_stationsAt_3 : decode cX0_stationsAt 3 = .ok (.istore_n 3, 1) := by decide +kernel
theorem dX0_stationsAt_4 : decode cX0_stationsAt 4 = .ok (.iload_n 3, 1) := by decide +kernel
theorem dX0_stationsAt_5 : decode cX0_stationsAt 5 = .ok (.aload_n 0, 1) := by decide +kernel
theorem dX0_stationsAt_6 : decode cX0_stationsAt 6 = .ok (.getfield 49, 3) := by decide +kernel
theorem dX0_stationsAt_9 : decode cX0_stationsAt 9 = .ok (.if_icmp .ge 28, 3) := by decide +kernel
theorem dX0_stationsAt_12 : decode cX0_stationsAt 12 = .ok (.aload_n 0, 1) := by decide +kernel
theorem dX0_stationsAt_13 : decode cX0_stationsAt 13 = .ok (.getfield 34, 3) := by decide +kernel
theorem dX0_stationsAt_16 : decode cX0_stationsAt 16 = .ok (.iload_n 3, 1) := by decide +kernel
theorem dX0_stationsAt_17 : decode cX0_stationsAt 17 = .ok (.aaload, 1) := by decide +kernel
theorem dX0_stationsAt_18 : decode cX0_stationsAt 18 = .ok (.iload_n 1, 1) := by decide +kernel
theorem dX0_stationsAt_19 : decode cX0_stationsAt 19 = .ok (.invokevirtual 88, 3) := by decide +kernel
theorem dX0_stationsAt_22 : decode cX0_stationsAt 22 = .ok (.ifCond .eq 9, 3) := by decide +kernel
theorem dX0_stationsAt_25 : decode cX0_stationsAt 25 = .ok (.iload_n 2, 1) := by decide +kernel
theorem dX0_stationsAt_26 : decode cX0_stationsAt 26 = .ok (.iconst 1, 1) := by decide +kernel
theorem dX0_stationsAt_27 : decode cX0_stationsAt 27 = .ok (.iload_n 3, 1) := by decide +kernel
theorem dX0_stationsAt_28 : decode cX0_stationsAt 28 = .ok (.ishl, 1) := by decide +kernel
theorem dX0_stationsAt_29 : decode cX0_stationsAt 29 = .ok (.ior, 1) := by decide +kernel
theorem dX0_stationsAt_30 : decode cX0_stationsAt 30 = .ok (.istore_n 2, 1) := by decide +kernel
theorem dX0_stationsAt_31 : decode cX0_stationsAt 31 = .ok (.iinc 3 1, 3) := by decide +kernel
theorem dX0_stationsAt_34 : decode cX0_stationsAt 34 = .ok (.goto (-30), 3) := by decide +kernel
theorem dX0_stationsAt_37 : decode cX0_stationsAt 37 = .ok (.iload_n 2, 1) := by decide +kernel
theorem dX0_stationsAt_38 : decode cX0_stationsAt 38 = .ok (.ireturn, 1) := by decide +kernel
theorem dX0_speakersOn_0 : decode cX0_speakersOn 0 = .ok (.iconst 0, 1) := by decide +kernel
theorem dX0_speakersOn_1 : decode cX0_speakersOn 1 = .ok (.istore_n 2, 1) := by decide +kernel
theorem dX0_speakersOn_2 : decode cX0_speakersOn 2 = .ok (.iconst 0, 1) := by decide +kernel
theorem dX0_speakersOn_3 : decode cX0_speakersOn 3 = .ok (.istore_n 3, 1) := by decide +kernel
theorem dX0_speakersOn_4 : decode cX0_speakersOn 4 = .ok (.iload_n 3, 1) := by decide +kernel
theorem dX0_speakersOn_5 : decode cX0_speakersOn 5 = .ok (.aload_n 0, 1) := by decide +kernel
theorem dX0_speakersOn_6 : decode cX0_speakersOn 6 = .ok (.getfield 49, 3) := by decide +kernel
theorem dX0_speakersOn_9 : decode cX0_speakersOn 9 = .ok (.if_icmp .ge 29, 3) := by decide +kernel
theorem dX0_speakersOn_12 : decode cX0_speakersOn 12 = .ok (.aload_n 0, 1) := by decide +kernel
theorem dX0_speakersOn_13 : decode cX0_speakersOn 13 = .ok (.getfield 34, 3) := by decide +kernel
theorem dX0_speakersOn_16 : decode cX0_speakersOn 16 = .ok (.iload_n 3, 1) := by decide +kernel
theorem dX0_speakersOn_17 : decode cX0_speakersOn 17 = .ok (.aaload, 1) := by decide +kernel
theorem dX0_speakersOn_18 : decode cX0_speakersOn 18 = .ok (.getfield 169, 3) := by decide +kernel
theorem dX0_speakersOn_21 : decode cX0_speakersOn 21 = .ok (.iload_n 1, 1) := by decide +kernel
theorem dX0_speakersOn_22 : decode cX0_speakersOn 22 = .ok (.iand, 1) := by decide +kernel
theorem dX0_speakersOn_23 : decode cX0_speakersOn 23 = .ok (.ifCond .eq 9, 3) := by decide +kernel
theorem dX0_speakersOn_26 : decode cX0_speakersOn 26 = .ok (.iload_n 2, 1) := by decide +kernel
theorem dX0_speakersOn_27 : decode cX0_speakersOn 27 = .ok (.iconst 1, 1) := by decide +kernel
theorem dX0_speakersOn_28 : decode cX0_speakersOn 28 = .ok (.iload_n 3, 1) := by decide +kernel
theorem dX0_speakersOn_29 : decode cX0_speakersOn 29 = .ok (.ishl, 1) := by decide +kernel
theorem dX0_speakersOn_30 : decode cX0_speakersOn 30 = .ok (.ior, 1) := by decide +kernel
theorem dX0_speakersOn_31 : decode cX0_speakersOn 31 = .ok (.istore_n 2, 1) := by decide +kernel
theorem dX0_speakersOn_32 : decode cX0_speakersOn 32 = .ok (.iinc 3 1, 3) := by decide +kernel
theorem dX0_speakersOn_35 : decode cX0_speakersOn 35 = .ok (.goto (-31), 3) := by decide +kernel
theorem dX0_speakersOn_38 : decode cX0_speakersOn 38 = .ok (.iload_n 2, 1) := by decide +kernel
theorem dX0_speakersOn_39 : decode cX0_speakersOn 39 = .ok (.ireturn, 1) := by decide +kernel
theorem dX0_awakeStations_0 : decode cX0_awakeStations 0 = .ok (.iconst 0, 1) := by decide +kernel
theorem dX0_awakeStations_1 : decode cX0_awakeStations 1 = .ok (.istore_n 1, 1) := by decide +kernel
theorem dX0_awakeStations_2 : decode cX0_awakeStations 2 = .ok (.iconst 0, 1) := by decide +kernel
theorem dX0_awakeStations_3 : decode cX0_awakeStations 3 = .ok (.istore_n 2, 1) := by decide +kernel
theorem dX0_awakeStations_4 : decode cX0_awakeStations 4 = .ok (.iload_n 2, 1) := by decide +kernel
theorem dX0_awakeStations_5 : decode cX0_awakeStations 5 = .ok (.aload_n 0, 1) := by decide +kernel
theorem dX0_awakeStations_6 : decode cX0_awakeStations 6 = .ok (.getfield 49, 3) := by decide +kernel
theorem dX0_awakeStations_9 : decode cX0_awakeStations 9 = .ok (.if_icmp .ge 27, 3) := by decide +kernel
theorem dX0_awakeStations_12 : decode cX0_awakeStations 12 = .ok (.aload_n 0, 1) := by decide +kernel
theorem dX0_awakeStations_13 : decode cX0_awakeStations 13 = .ok (.getfield 34, 3) := by decide +kernel
theorem dX0_awakeStations_16 : decode cX0_awakeStations 16 = .ok (.iload_n 2, 1) := by decide +kernel
theorem dX0_awakeStations_17 : decode cX0_awakeStations 17 = .ok (.aaload, 1) := by decide +kernel
theorem dX0_awakeStations_18 : decode cX0_awakeStations 18 = .ok (.invokevirtual 151, 3) := by decide +kernel
theorem dX0_awakeStations_21 : decode cX0_awakeStations 21 = .ok (.ifCond .eq 9, 3) := by decide +kernel
theorem dX0_awakeStations_24 : decode cX0_awakeStations 24 = .ok (.iload_n 1, 1) := by decide +kernel
theorem dX0_awakeStations_25 : decode cX0_awakeStations 25 = .ok (.iconst 1, 1) := by decide +kernel
theorem dX0_awakeStations_26 : decode cX0_awakeStations 26 = .ok (.iload_n 2, 1) := by decide +kernel
theorem dX0_awakeStations_27 : decode cX0_awakeStations 27 = .ok (.ishl, 1) := by decide +kernel
theorem dX0_awakeStations_28 : decode cX0_awakeStations 28 = .ok (.ior, 1) := by decide +kernel
theorem dX0_awakeStations_29 : decode cX0_awakeStations 29 = .ok (.istore_n 1, 1) := by decide +kernel
theorem dX0_awakeStations_30 : decode cX0_awakeStations 30 = .ok (.iinc 2 1, 3) := by decide +kernel
theorem dX0_awakeStations_33 : decode cX0_awakeStations 33 = .ok (.goto (-29), 3) := by decide +kernel
theorem dX0_awakeStations_36 : decode cX0_awakeStations 36 = .ok (.iload_n 1, 1) := by decide +kernel
theorem dX0_awakeStations_37 : decode cX0_awakeStations 37 = .ok (.ireturn, 1) := by decide +kernel
theorem dX0_hasWords_0 : decode cX0_hasWords 0 = .ok (.iconst 0, 1) := by decide +kernel
theorem dX0_hasWords_1 : decode cX0_hasWords 1 = .ok (.istore_n 1, 1) := by decide +kernel
theorem dX0_hasWords_2 : decode cX0_hasWords 2 = .ok (.iload_n 1, 1) := by decide +kernel
theorem dX0_hasWords_3 : decode cX0_hasWords 3 = .ok (.aload_n 0, 1) := by decide +kernel
theorem dX0_hasWords_4 : decode cX0_hasWords 4 = .ok (.getfield 49, 3) := by decide +kernel
theorem dX0_hasWords_7 : decode cX0_hasWords 7 = .ok (.if_icmp .ge 26, 3) := by decide +kernel
theorem dX0_hasWords_10 : decode cX0_hasWords 10 = .ok (.aload_n 0, 1) := by decide +kernel
theorem dX0_hasWords_11 : decode cX0_hasWords 11 = .ok (.getfield 34, 3) := by decide +kernel
theorem dX0_hasWords_14 : decode cX0_hasWords 14 = .ok (.iload_n 1, 1) := by decide +kernel
theorem dX0_hasWords_15 : decode cX0_hasWords 15 = .ok (.aaload, 1) := by decide +kernel
theorem dX0_hasWords_16 : decode cX0_hasWords 16 = .ok (.getfield 91, 3) := by decide +kernel
theorem dX0_hasWords_19 : decode cX0_hasWords 19 = .ok (.getfield 95, 3) := by decide +kernel
theorem dX0_hasWords_22 : decode cX0_hasWords 22 = .ok (.ifCond .le 5, 3) := by decide +kernel
theorem dX0_hasWords_25 : decode cX0_hasWords 25 = .ok (.iconst 1, 1) := by decide +kernel
theorem dX0_hasWords_26 : decode cX0_hasWords 26 = .ok (.ireturn, 1) := by decide +kernel
theorem dX0_hasWords_27 : decode cX0_hasWords 27 = .ok (.iinc 1 1, 3) := by decide +kernel
theorem dX0_hasWords_30 : decode cX0_hasWords 30 = .ok (.goto (-28), 3) := by decide +kernel
theorem dX0_hasWords_33 : decode cX0_hasWords 33 = .ok (.iconst 0, 1) := by decide +kernel
theorem dX0_hasWords_34 : decode cX0_hasWords 34 = .ok (.ireturn, 1) := by decide +kernel
theorem dX0_waitingFor_0 : decode cX0_waitingFor 0 = .ok (.iconst 0, 1) := by decide +kernel
theorem dX0_waitingFor_1 : decode cX0_waitingFor 1 = .ok (.istore_n 2, 1) := by decide +kernel
theorem dX0_waitingFor_2 : decode cX0_waitingFor 2 = .ok (.iconst 0, 1) := by decide +kernel
theorem dX0_waitingFor_3 : decode cX0_waitingFor 3 = .ok (.istore_n 3, 1) := by decide +kernel
theorem dX0_waitingFor_4 : decode cX0_waitingFor 4 = .ok (.iload_n 3, 1) := by decide +kernel
theorem dX0_waitingFor_5 : decode cX0_waitingFor 5 = .ok (.aload_n 0, 1) := by decide +kernel
theorem dX0_waitingFor_6 : decode cX0_waitingFor 6 = .ok (.getfield 49, 3) := by decide +kernel
theorem dX0_waitingFor_9 : decode cX0_waitingFor 9 = .ok (.if_icmp .ge 25, 3) := by decide +kernel
theorem dX0_waitingFor_12 : decode cX0_waitingFor 12 = .ok (.iload_n 2, 1) := by decide +kernel
theorem dX0_waitingFor_13 : decode cX0_waitingFor 13 = .ok (.aload_n 0, 1) := by decide +kernel
theorem dX0_waitingFor_14 : decode cX0_waitingFor 14 = .ok (.getfield 34, 3) := by decide +kernel
theorem dX0_waitingFor_17 : decode cX0_waitingFor 17 = .ok (.iload_n 3, 1) := by decide +kernel
theorem dX0_waitingFor_18 : decode cX0_waitingFor 18 = .ok (.aaload, 1) := by decide +kernel
theorem dX0_waitingFor_19 : decode cX0_waitingFor 19 = .ok (.getfield 91, 3) := by decide +kernel
theorem dX0_waitingFor_22 : decode cX0_waitingFor 22 = .ok (.iload_n 1, 1) := by decide +kernel
theorem dX0_waitingFor_23 : decode cX0_waitingFor 23 = .ok (.invokevirtual 219, 3) := by decide +kernel
theorem dX0_waitingFor_26 : decode cX0_waitingFor 26 = .ok (.iadd, 1) := by decide +kernel
theorem dX0_waitingFor_27 : decode cX0_waitingFor 27 = .ok (.istore_n 2, 1) := by decide +kernel
theorem dX0_waitingFor_28 : decode cX0_waitingFor 28 = .ok (.iinc 3 1, 3) := by decide +kernel
theorem dX0_waitingFor_31 : decode cX0_waitingFor 31 = .ok (.goto (-27), 3) := by decide +kernel
theorem dX0_waitingFor_34 : decode cX0_waitingFor 34 = .ok (.iload_n 2, 1) := by decide +kernel
theorem dX0_waitingFor_35 : decode cX0_waitingFor 35 = .ok (.ireturn, 1) := by decide +kernel
theorem dX0_sumOf_0 : decode cX0_sumOf 0 = .ok (.iconst 0, 1) := by decide +kernel
theorem dX0_sumOf_1 : decode cX0_sumOf 1 = .ok (.istore_n 2, 1) := by decide +kernel
theorem dX0_sumOf_2 : decode cX0_sumOf 2 = .ok (.iconst 0, 1) := by decide +kernel
theorem dX0_sumOf_3 : decode cX0_sumOf 3 = .ok (.istore_n 3, 1) := by decide +kernel
theorem dX0_sumOf_4 : decode cX0_sumOf 4 = .ok (.iload_n 3, 1) := by decide +kernel
theorem dX0_sumOf_5 : decode cX0_sumOf 5 = .ok (.aload_n 0, 1) := by decide +kernel
theorem dX0_sumOf_6 : decode cX0_sumOf 6 = .ok (.getfield 49, 3) := by decide +kernel
theorem dX0_sumOf_9 : decode cX0_sumOf 9 = .ok (.if_icmp .ge 22, 3) := by decide +kernel
theorem dX0_sumOf_12 : decode cX0_sumOf 12 = .ok (.iload_n 2, 1) := by decide +kernel
theorem dX0_sumOf_13 : decode cX0_sumOf 13 = .ok (.aload_n 0, 1) := by decide +kernel
theorem dX0_sumOf_14 : decode cX0_sumOf 14 = .ok (.getfield 34, 3) := by decide +kernel
theorem dX0_sumOf_17 : decode cX0_sumOf 17 = .ok (.iload_n 3, 1) := by decide +kernel
theorem dX0_sumOf_18 : decode cX0_sumOf 18 = .ok (.aaload, 1) := by decide +kernel
theorem dX0_sumOf_19 : decode cX0_sumOf 19 = .ok (.iload_n 1, 1) := by decide +kernel
theorem dX0_sumOf_20 : decode cX0_sumOf 20 = .ok (.invokevirtual 222, 3) := by decide +kernel
theorem dX0_sumOf_23 : decode cX0_sumOf 23 = .ok (.iadd, 1) := by decide +kernel
theorem dX0_sumOf_24 : decode cX0_sumOf 24 = .ok (.istore_n 2, 1) := by decide +kernel
theorem dX0_sumOf_25 : decode cX0_sumOf 25 = .ok (.iinc 3 1, 3) := by decide +kernel
theorem dX0_sumOf_28 : decode cX0_sumOf 28 = .ok (.goto (-24), 3) := by decide +kernel
theorem dX0_sumOf_31 : decode cX0_sumOf 31 = .ok (.iload_n 2, 1) := by decide +kernel
theorem dX0_sumOf_32 : decode cX0_sumOf 32 = .ok (.ireturn, 1) := by decide +kernel
theorem dX1_init_0 : decode cX1_init 0 = .ok (.aload_n 0, 1) := by decide +kernel
theorem dX1_init_1 : decode cX1_init 1 = .ok (.invokespecial 3, 3) := by decide +kernel
theorem dX1_init_4 : decode cX1_init 4 = .ok (.aload_n 0, 1) := by decide +kernel
theorem dX1_init_5 : decode cX1_init 5 = .ok (.bipush 7, 2) := by decide +kernel
theorem dX1_init_7 : decode cX1_init 7 = .ok (.anewarray 9, 3) := by decide +kernel
theorem dX1_init_10 : decode cX1_init 10 = .ok (.putfield 11, 3) := by decide +kernel
theorem dX1_init_13 : decode cX1_init 13 = .ok (.iconst 0, 1) := by decide +kernel
theorem dX1_init_14 : decode cX1_init 14 = .ok (.istore_n 1, 1) := by decide +kernel
theorem dX1_init_15 : decode cX1_init 15 = .ok (.iload_n 1, 1) := by decide +kernel
theorem dX1_init_16 : decode cX1_init 16 = .ok (.bipush 6, 2) := by decide +kernel
theorem dX1_init_18 : decode cX1_init 18 = .ok (.if_icmp .gt 22, 3) := by decide +kernel
theorem dX1_init_21 : decode cX1_init 21 = .ok (.aload_n 0, 1) := by decide +kernel
theorem dX1_init_22 : decode cX1_init 22 = .ok (.getfield 11, 3) := by decide +kernel
theorem dX1_init_25 : decode cX1_init 25 = .ok (.iload_n 1, 1) := by decide +kernel
theorem dX1_init_26 : decode cX1_init 26 = .ok (.new 9, 3) := by decide +kernel
theorem dX1_init_29 : decode cX1_init 29 = .ok (.dup, 1) := by decide +kernel
theorem dX1_init_30 : decode cX1_init 30 = .ok (.invokespecial 17, 3) := by decide +kernel
theorem dX1_init_33 : decode cX1_init 33 = .ok (.aastore, 1) := by decide +kernel
theorem dX1_init_34 : decode cX1_init 34 = .ok (.iinc 1 1, 3) := by decide +kernel
theorem dX1_init_37 : decode cX1_init 37 = .ok (.goto (-22), 3) := by decide +kernel
theorem dX1_init_40 : decode cX1_init 40 = .ok (.return_, 1) := by decide +kernel
theorem dX1_prepare_0 : decode cX1_prepare 0 = .ok (.aload_n 0, 1) := by decide +kernel
theorem dX1_prepare_1 : decode cX1_prepare 1 = .ok (.getfield 11, 3) := by decide +kernel
theorem dX1_prepare_4 : decode cX1_prepare 4 = .ok (.aload_n 0, 1) := by decide +kernel
theorem dX1_prepare_5 : decode cX1_prepare 5 = .ok (.getfield 18, 3) := by decide +kernel
theorem dX1_prepare_8 : decode cX1_prepare 8 = .ok (.aaload, 1) := by decide +kernel
theorem dX1_prepare_9 : decode cX1_prepare 9 = .ok (.aload_n 1, 1) := by decide +kernel
theorem dX1_prepare_10 : decode cX1_prepare 10 = .ok (.invokevirtual 22, 3) := by decide +kernel
theorem dX1_prepare_13 : decode cX1_prepare 13 = .ok (.return_, 1) := by decide +kernel
theorem dX1_keep_0 : decode cX1_keep 0 = .ok (.iload_n 1, 1) := by decide +kernel
theorem dX1_keep_1 : decode cX1_keep 1 = .ok (.ifCond .ge 5, 3) := by decide +kernel
theorem dX1_keep_4 : decode cX1_keep 4 = .ok (.iload_n 1, 1) := by decide +kernel
theorem dX1_keep_5 : decode cX1_keep 5 = .ok (.ireturn, 1) := by decide +kernel
theorem dX1_keep_6 : decode cX1_keep 6 = .ok (.aload_n 0, 1) := by decide +kernel
theorem dX1_keep_7 : decode cX1_keep 7 = .ok (.aload_n 0, 1) := by decide +kernel
theorem dX1_keep_8 : decode cX1_keep 8 = .ok (.getfield 18, 3) := by decide +kernel
theorem dX1_keep_11 : decode cX1_keep 11 = .ok (.bipush 6, 2) := by decide +kernel
theorem dX1_keep_13 : decode cX1_keep 13 = .ok (.if_icmp .ge 12, 3) := by decide +kernel
theorem dX1_keep_16 : decode cX1_keep 16 = .ok (.aload_n 0, 1) := by decide +kernel
theorem dX1_keep_17 : decode cX1_keep 17 = .ok (.getfield 18, 3) := by decide +kernel
theorem dX1_keep_20 : decode cX1_keep 20 = .ok (.iconst 1, 1) := by decide +kernel
theorem dX1_keep_21 : decode cX1_keep 21 = .ok (.iadd, 1) := by decide +kernel
theorem dX1_keep_22 : decode cX1_keep 22 = .ok (.goto 4, 3) := by decide +kernel
theorem dX1_keep_25 : decode cX1_keep 25 = .ok (.iconst 0, 1) := by decide +kernel
theorem dX1_keep_26 : decode cX1_keep 26 = .ok (.putfield 18, 3) := by decide +kernel
theorem dX1_keep_29 : decode cX1_keep 29 = .ok (.aload_n 0, 1) := by decide +kernel
theorem dX1_keep_30 : decode cX1_keep 30 = .ok (.aload_n 0, 1) := by decide +kernel
theorem dX1_keep_31 : decode cX1_keep 31 = .ok (.getfield 26, 3) := by decide +kernel
theorem dX1_keep_34 : decode cX1_keep 34 = .ok (.iconst 1, 1) := by decide +kernel
theorem dX1_keep_35 : decode cX1_keep 35 = .ok (.iadd, 1) := by decide +kernel
theorem dX1_keep_36 : decode cX1_keep 36 = .ok (.bipush 6, 2) := by decide +kernel
theorem dX1_keep_38 : decode cX1_keep 38 = .ok (.invokestatic 29, 3) := by decide +kernel
theorem dX1_keep_41 : decode cX1_keep 41 = .ok (.putfield 26, 3) := by decide +kernel
theorem dX1_keep_44 : decode cX1_keep 44 = .ok (.iload_n 1, 1) := by decide +kernel
theorem dX1_keep_45 : decode cX1_keep 45 = .ok (.ireturn, 1) := by decide +kernel
theorem dX1_takeBack_0 : decode cX1_takeBack 0 = .ok (.aload_n 0, 1) := by decide +kernel
theorem dX1_takeBack_1 : decode cX1_takeBack 1 = .ok (.getfield 26, 3) := by decide +kernel
theorem dX1_takeBack_4 : decode cX1_takeBack 4 = .ok (.ifCond .ne 6, 3) := by decide +kernel
theorem dX1_takeBack_7 : decode cX1_takeBack 7 = .ok (.bipush (-5), 2) := by decide +kernel
theorem dX1_takeBack_9 : decode cX1_takeBack 9 = .ok (.ireturn, 1) := by decide +kernel
theorem dX1_takeBack_10 : decode cX1_takeBack 10 = .ok (.aload_n 0, 1) := by decide +kernel
theorem dX1_takeBack_11 : decode cX1_takeBack 11 = .ok (.aload_n 0, 1) := by decide +kernel
theorem dX1_takeBack_12 : decode cX1_takeBack 12 = .ok (.getfield 18, 3) := by decide +kernel
theorem dX1_takeBack_15 : decode cX1_takeBack 15 = .ok (.ifCond .le 12, 3) := by decide +kernel
theorem dX1_takeBack_18 : decode cX1_takeBack 18 = .ok (.aload_n 0, 1) := by decide +kernel
theorem dX1_takeBack_19 : decode cX1_takeBack 19 = .ok (.getfield 18, 3) := by decide +kernel
theorem dX1_takeBack_22 : decode cX1_takeBack 22 = .ok (.iconst 1, 1) := by decide +kernel
theorem dX1_takeBack_23 : decode cX1_takeBack 23 = .ok (.isub, 1) := by decide +kernel
theorem dX1_takeBack_24 : decode cX1_takeBack 24 = .ok (.goto 5, 3) := by decide +kernel
theorem dX1_takeBack_27 : decode cX1_takeBack 27 = .ok (.bipush 6, 2) := by decide +kernel
theorem dX1_takeBack_29 : decode cX1_takeBack 29 = .ok (.putfield 18, 3) := by decide +kernel
theorem dX1_takeBack_32 : decode cX1_takeBack 32 = .ok (.aload_n 1, 1) := by decide +kernel
theorem dX1_takeBack_33 : decode cX1_takeBack 33 = .ok (.aload_n 0, 1) := by decide +kernel
theorem dX1_takeBack_34 : decode cX1_takeBack 34 = .ok (.getfield 11, 3) := by decide +kernel
theorem dX1_takeBack_37 : decode cX1_takeBack 37 = .ok (.aload_n 0, 1) := by decide +kernel
theorem dX1_takeBack_38 : decode cX1_takeBack 38 = .ok (.getfield 18, 3) := by decide +kernel
theorem dX1_takeBack_41 : decode cX1_takeBack 41 = .ok (.aaload, 1) := by decide +kernel
theorem dX1_takeBack_42 : decode cX1_takeBack 42 = .ok (.invokevirtual 22, 3) := by decide +kernel
theorem dX1_takeBack_45 : decode cX1_takeBack 45 = .ok (.aload_n 0, 1) := by decide +kernel
theorem dX1_takeBack_46 : decode cX1_takeBack 46 = .ok (.dup, 1) := by decide +kernel
theorem dX1_takeBack_47 : decode cX1_takeBack 47 = .ok (.getfield 26, 3) := by decide +kernel
theorem dX1_takeBack_50 : decode cX1_takeBack 50 = .ok (.iconst 1, 1) := by decide +kernel
theorem dX1_takeBack_51 : decode cX1_takeBack 51 = .ok (.isub, 1) := by decide +kernel
theorem dX1_takeBack_52 : decode cX1_takeBack 52 = .ok (.putfield 26, 3) := by decide +kernel
theorem dX1_takeBack_55 : decode cX1_takeBack 55 = .ok (.aload_n 0, 1) := by decide +kernel
theorem dX1_takeBack_56 : decode cX1_takeBack 56 = .ok (.getfield 26, 3) := by decide +kernel
theorem dX1_takeBack_59 : decode cX1_takeBack 59 = .ok (.ireturn, 1) := by decide +kernel
theorem dX2_init_0 : decode cX2_init 0 = .ok (.aload_n 0, 1) := by decide +kernel
theorem dX2_init_1 : decode cX2_init 1 = .ok (.invokespecial 3, 3) := by decide +kernel
theorem dX2_init_4 : decode cX2_init 4 = .ok (.aload_n 0, 1) := by decide +kernel
theorem dX2_init_5 : decode cX2_init 5 = .ok (.bipush 16, 2) := by decide +kernel
theorem dX2_init_7 : decode cX2_init 7 = .ok (.newarray .int, 2) := by decide +kernel
theorem dX2_init_9 : decode cX2_init 9 = .ok (.putfield 9, 3) := by decide +kernel
theorem dX2_init_12 : decode cX2_init 12 = .ok (.return_, 1) := by decide +kernel
theorem dX2_copyFrom_0 : decode cX2_copyFrom 0 = .ok (.aload_n 1, 1) := by decide +kernel
theorem dX2_copyFrom_1 : decode cX2_copyFrom 1 = .ok (.getfield 9, 3) := by decide +kernel
theorem dX2_copyFrom_4 : decode cX2_copyFrom 4 = .ok (.aload_n 0, 1) := by decide +kernel
theorem dX2_copyFrom_5 : decode cX2_copyFrom 5 = .ok (.getfield 9, 3) := by decide +kernel
theorem dX2_copyFrom_8 : decode cX2_copyFrom 8 = .ok (.invokestatic 15, 3) := by decide +kernel
theorem dX2_copyFrom_11 : decode cX2_copyFrom 11 = .ok (.aload_n 0, 1) := by decide +kernel
theorem dX2_copyFrom_12 : decode cX2_copyFrom 12 = .ok (.aload_n 1, 1) := by decide +kernel
theorem dX2_copyFrom_13 : decode cX2_copyFrom 13 = .ok (.getfield 19, 3) := by decide +kernel
theorem dX2_copyFrom_16 : decode cX2_copyFrom 16 = .ok (.putfield 19, 3) := by decide +kernel
theorem dX2_copyFrom_19 : decode cX2_copyFrom 19 = .ok (.return_, 1) := by decide +kernel
theorem dX2_has_0 : decode cX2_has 0 = .ok (.iload_n 1, 1) := by decide +kernel
theorem dX2_has_1 : decode cX2_has 1 = .ok (.ifCond .lt 20, 3) := by decide +kernel
theorem dX2_has_4 : decode cX2_has 4 = .ok (.iload_n 1, 1) := by decide +kernel
theorem dX2_has_5 : decode cX2_has 5 = .ok (.aload_n 0, 1) := by decide +kernel
theorem dX2_has_6 : decode cX2_has 6 = .ok (.getfield 19, 3) := by decide +kernel
theorem dX2_has_9 : decode cX2_has 9 = .ok (.if_icmp .ge 12, 3) := by decide +kernel
theorem dX2_has_12 : decode cX2_has 12 = .ok (.iload_n 1, 1) := by decide +kernel
theorem dX2_has_13 : decode cX2_has 13 = .ok (.iconst 4, 1) := by decide +kernel
theorem dX2_has_14 : decode cX2_has 14 = .ok (.if_icmp .ge 7, 3) := by decide +kernel
theorem dX2_has_17 : decode cX2_has 17 = .ok (.iconst 1, 1) := by decide +kernel
theorem dX2_has_18 : decode cX2_has 18 = .ok (.goto 4, 3) := by decide +kernel
theorem dX2_has_21 : decode cX2_has 21 = .ok (.iconst 0, 1) := by decide +kernel
theorem dX2_has_22 : decode cX2_has 22 = .ok (.ireturn, 1) := by decide +kernel
theorem dX2_fact_0 : decode cX2_fact 0 = .ok (.aload_n 0, 1) := by decide +kernel
theorem dX2_fact_1 : decode cX2_fact 1 = .ok (.iload_n 1, 1) := by decide +kernel
theorem dX2_fact_2 : decode cX2_fact 2 = .ok (.invokevirtual 23, 3) := by decide +kernel
theorem dX2_fact_5 : decode cX2_fact 5 = .ok (.ifCond .ne 5, 3) := by decide +kernel
theorem dX2_fact_8 : decode cX2_fact 8 = .ok (.iconst (-1), 1) := by decide +kernel
theorem dX2_fact_9 : decode cX2_fact 9 = .ok (.ireturn, 1) := by decide +kernel
theorem dX2_fact_10 : decode cX2_fact 10 = .ok (.iload_n 2, 1) := by decide +kernel
theorem dX2_fact_11 : decode cX2_fact 11 = .ok (.ifCond .lt 8, 3) := by decide +kernel
theorem dX2_fact_14 : decode cX2_fact 14 = .ok (.iload_n 2, 1) := by decide +kernel
theorem dX2_fact_15 : decode cX2_fact 15 = .ok (.iconst 4, 1) := by decide +kernel
theorem dX2_fact_16 : decode cX2_fact 16 = .ok (.if_icmp .lt 6, 3) := by decide +kernel
theorem dX2_fact_19 : decode cX2_fact 19 = .ok (.bipush (-2), 2) := by decide +kernel
theorem dX2_fact_21 : decode cX2_fact 21 = .ok (.ireturn, 1) := by decide +kernel
theorem dX2_fact_22 : decode cX2_fact 22 = .ok (.aload_n 0, 1) := by decide +kernel
theorem dX2_fact_23 : decode cX2_fact 23 = .ok (.getfield 9, 3) := by decide +kernel
theorem dX2_fact_26 : decode cX2_fact 26 = .ok (.iload_n 1, 1) := by decide +kernel
theorem dX2_fact_27 : decode cX2_fact 27 = .ok (.iconst 4, 1) := by decide +kernel
theorem dX2_fact_28 : decode cX2_fact 28 = .ok (.imul, 1) := by decide +kernel
theorem dX2_fact_29 : decode cX2_fact 29 = .ok (.iload_n 2, 1) := by decide +kernel
theorem dX2_fact_30 : decode cX2_fact 30 = .ok (.iadd, 1) := by decide +kernel
theorem dX2_fact_31 : decode cX2_fact 31 = .ok (.iaload, 1) := by decide +kernel
theorem dX2_fact_32 : decode cX2_fact 32 = .ok (.ireturn, 1) := by decide +kernel
theorem dX2_add_0 : decode cX2_add 0 = .ok (.aload_n 0, 1) := by decide +kernel
theorem dX2_add_1 : decode cX2_add 1 = .ok (.getfield 9, 3) := by decide +kernel
theorem dX2_add_4 : decode cX2_add 4 = .ok (.iconst 0, 1) := by decide +kernel
theorem dX2_add_5 : decode cX2_add 5 = .ok (.aload_n 0, 1) := by decide +kernel
theorem dX2_add_6 : decode cX2_add 6 = .ok (.getfield 9, 3) := by decide +kernel
theorem dX2_add_9 : decode cX2_add 9 = .ok (.iconst 4, 1) := by decide +kernel
theorem dX2_add_10 : decode cX2_add 10 = .ok (.bipush 12, 2) := by decide +kernel
theorem dX2_add_12 : decode cX2_add 12 = .ok (.invokestatic 27, 3) := by decide +kernel
theorem dX2_add_15 : decode cX2_add 15 = .ok (.aload_n 0, 1) := by decide +kernel
theorem dX2_add_16 : decode cX2_add 16 = .ok (.getfield 9, 3) := by decide +kernel
theorem dX2_add_19 : decode cX2_add 19 = .ok (.iconst 0, 1) := by decide +kernel
theorem dX2_add_20 : decode cX2_add 20 = .ok (.iload_n 1, 1) := by decide +kernel
theorem dX2_add_21 : decode cX2_add 21 = .ok (.iastore, 1) := by decide +kernel
theorem dX2_add_22 : decode cX2_add 22 = .ok (.aload_n 0, 1) := by decide +kernel
theorem dX2_add_23 : decode cX2_add 23 = .ok (.getfield 9, 3) := by decide +kernel
theorem dX2_add_26 : decode cX2_add 26 = .ok (.iconst 1, 1) := by decide +kernel
theorem dX2_add_27 : decode cX2_add 27 = .ok (.iload_n 2, 1) := by decide +kernel
theorem dX2_add_28 : decode cX2_add 28 = .ok (.iastore, 1) := by decide +kernel
theorem dX2_add_29 : decode cX2_add 29 = .ok (.aload_n 0, 1) := by decide +kernel
theorem dX2_add_30 : decode cX2_add 30 = .ok (.getfield 9, 3) := by decide +kernel
theorem dX2_add_33 : decode cX2_add 33 = .ok (.iconst 2, 1) := by decide +kernel
theorem dX2_add_34 : decode cX2_add 34 = .ok (.iload_n 3, 1) := by decide +kernel
theorem dX2_add_35 : decode cX2_add 35 = .ok (.iastore, 1) := by decide +kernel
theorem dX2_add_36 : decode cX2_add 36 = .ok (.aload_n 0, 1) := by decide +kernel
theorem dX2_add_37 : decode cX2_add 37 = .ok (.getfield 9, 3) := by decide +kernel
theorem dX2_add_40 : decode cX2_add 40 = .ok (.iconst 3, 1) := by decide +kernel
theorem dX2_add_41 : decode cX2_add 41 = .ok (.iload 4, 2) := by decide +kernel
theorem dX2_add_43 : decode cX2_add 43 = .ok (.iastore, 1) := by decide +kernel
theorem dX2_add_44 : decode cX2_add 44 = .ok (.aload_n 0, 1) := by decide +kernel
theorem dX2_add_45 : decode cX2_add 45 = .ok (.aload_n 0, 1) := by decide +kernel
theorem dX2_add_46 : decode cX2_add 46 = .ok (.getfield 19, 3) := by decide +kernel
theorem dX2_add_49 : decode cX2_add 49 = .ok (.iconst 1, 1) := by decide +kernel
theorem dX2_add_50 : decode cX2_add 50 = .ok (.iadd, 1) := by decide +kernel
theorem dX2_add_51 : decode cX2_add 51 = .ok (.iconst 4, 1) := by decide +kernel
theorem dX2_add_52 : decode cX2_add 52 = .ok (.invokestatic 33, 3) := by decide +kernel
theorem dX2_add_55 : decode cX2_add 55 = .ok (.putfield 19, 3) := by decide +kernel
theorem dX2_add_58 : decode cX2_add 58 = .ok (.return_, 1) := by decide +kernel
theorem dX3_init_0 : decode cX3_init 0 = .ok (.aload_n 0, 1) := by decide +kernel
theorem dX3_init_1 : decode cX3_init 1 = .ok (.invokespecial 3, 3) := by decide +kernel
theorem dX3_init_4 : decode cX3_init 4 = .ok (.aload_n 0, 1) := by decide +kernel
theorem dX3_init_5 : decode cX3_init 5 = .ok (.bipush 80, 2) := by decide +kernel
theorem dX3_init_7 : decode cX3_init 7 = .ok (.newarray .char, 2) := by decide +kernel
theorem dX3_init_9 : decode cX3_init 9 = .ok (.putfield 9, 3) := by decide +kernel
theorem dX3_init_12 : decode cX3_init 12 = .ok (.return_, 1) := by decide +kernel
theorem dX3_append_0 : decode cX3_append 0 = .ok (.lload_n 1, 1) := by decide +kernel
theorem dX3_append_1 : decode cX3_append 1 = .ok (.invokestatic 15, 3) := by decide +kernel
theorem dX3_append_4 : decode cX3_append 4 = .ok (.istore_n 3, 1) := by decide +kernel
theorem dX3_append_5 : decode cX3_append 5 = .ok (.iload_n 3, 1) := by decide +kernel
theorem dX3_append_6 : decode cX3_append 6 = .ok (.ifCond .ne 6, 3) := by decide +kernel
theorem dX3_append_9 : decode cX3_append 9 = .ok (.bipush (-2), 2) := by decide +kernel
theorem dX3_append_11 : decode cX3_append 11 = .ok (.ireturn, 1) := by decide +kernel
theorem dX3_append_12 : decode cX3_append 12 = .ok (.aload_n 0, 1) := by decide +kernel
theorem dX3_append_13 : decode cX3_append 13 = .ok (.getfield 19, 3) := by decide +kernel
theorem dX3_append_16 : decode cX3_append 16 = .ok (.iload_n 3, 1) := by decide +kernel
theorem dX3_append_17 : decode cX3_append 17 = .ok (.iadd, 1) := by decide +kernel
theorem dX3_append_18 : decode cX3_append 18 = .ok (.bipush 80, 2) := by decide +kernel
theorem dX3_append_20 : decode cX3_append 20 = .ok (.if_icmp .le 6, 3) := by decide +kernel
theorem dX3_append_23 : decode cX3_append 23 = .ok (.bipush (-4), 2) := by decide +kernel
theorem dX3_append_25 : decode cX3_append 25 = .ok (.ireturn, 1) := by decide +kernel
theorem dX3_append_26 : decode cX3_append 26 = .ok (.lload_n 1, 1) := by decide +kernel
theorem dX3_append_27 : decode cX3_append 27 = .ok (.lstore 4, 2) := by decide +kernel
theorem dX3_append_29 : decode cX3_append 29 = .ok (.aload_n 0, 1) := by decide +kernel
theorem dX3_append_30 : decode cX3_append 30 = .ok (.getfield 19, 3) := by decide +kernel
theorem dX3_append_33 : decode cX3_append 33 = .ok (.iload_n 3, 1) := by decide +kernel
theorem dX3_append_34 : decode cX3_append 34 = .ok (.iadd, 1) := by decide +kernel
theorem dX3_append_35 : decode cX3_append 35 = .ok (.iconst 1, 1) := by decide +kernel
theorem dX3_append_36 : decode cX3_append 36 = .ok (.isub, 1) := by decide +kernel
theorem dX3_append_37 : decode cX3_append 37 = .ok (.istore 6, 2) := by decide +kernel
theorem dX3_append_39 : decode cX3_append 39 = .ok (.iload 6, 2) := by decide +kernel
theorem dX3_append_41 : decode cX3_append 41 = .ok (.aload_n 0, 1) := by decide +kernel
theorem dX3_append_42 : decode cX3_append 42 = .ok (.getfield 19, 3) := by decide +kernel
theorem dX3_append_45 : decode cX3_append 45 = .ok (.if_icmp .lt 31, 3) := by decide +kernel
theorem dX3_append_48 : decode cX3_append 48 = .ok (.aload_n 0, 1) := by decide +kernel
theorem dX3_append_49 : decode cX3_append 49 = .ok (.getfield 9, 3) := by decide +kernel
theorem dX3_append_52 : decode cX3_append 52 = .ok (.iload 6, 2) := by decide +kernel
theorem dX3_append_54 : decode cX3_append 54 = .ok (.lload 4, 2) := by decide +kernel
theorem dX3_append_56 : decode cX3_append 56 = .ok (.ldc2_w 23, 3) := by decide +kernel
theorem dX3_append_59 : decode cX3_append 59 = .ok (.land, 1) := by decide +kernel
theorem dX3_append_60 : decode cX3_append 60 = .ok (.l2i, 1) := by decide +kernel
theorem dX3_append_61 : decode cX3_append 61 = .ok (.i2c, 1) := by decide +kernel
theorem dX3_append_62 : decode cX3_append 62 = .ok (.castore, 1) := by decide +kernel
theorem dX3_append_63 : decode cX3_append 63 = .ok (.lload 4, 2) := by decide +kernel
theorem dX3_append_65 : decode cX3_append 65 = .ok (.bipush 8, 2) := by decide +kernel
theorem dX3_append_67 : decode cX3_append 67 = .ok (.lushr, 1) := by decide +kernel
theorem dX3_append_68 : decode cX3_append 68 = .ok (.lstore 4, 2) := by decide +kernel
theorem dX3_append_70 : decode cX3_append 70 = .ok (.iinc 6 (-1), 3) := by decide +kernel
theorem dX3_append_73 : decode cX3_append 73 = .ok (.goto (-34), 3) := by decide +kernel
theorem dX3_append_76 : decode cX3_append 76 = .ok (.aload_n 0, 1) := by decide +kernel
theorem dX3_append_77 : decode cX3_append 77 = .ok (.dup, 1) := by decide +kernel
theorem dX3_append_78 : decode cX3_append 78 = .ok (.getfield 19, 3) := by decide +kernel
theorem dX3_append_81 : decode cX3_append 81 = .ok (.iload_n 3, 1) := by decide +kernel
theorem dX3_append_82 : decode cX3_append 82 = .ok (.iadd, 1) := by decide +kernel
theorem dX3_append_83 : decode cX3_append 83 = .ok (.putfield 19, 3) := by decide +kernel
theorem dX3_append_86 : decode cX3_append 86 = .ok (.aload_n 0, 1) := by decide +kernel
theorem dX3_append_87 : decode cX3_append 87 = .ok (.getfield 19, 3) := by decide +kernel
theorem dX3_append_90 : decode cX3_append 90 = .ok (.ireturn, 1) := by decide +kernel
theorem dX3_charactersIn_0 : decode cX3_charactersIn 0 = .ok (.iconst 0, 1) := by decide +kernel
theorem dX3_charactersIn_1 : decode cX3_charactersIn 1 = .ok (.istore_n 2, 1) := by decide +kernel
theorem dX3_charactersIn_2 : decode cX3_charactersIn 2 = .ok (.lload_n 0, 1) := by decide +kernel
theorem dX3_charactersIn_3 : decode cX3_charactersIn 3 = .ok (.lstore_n 3, 1) := by decide +kernel
theorem dX3_charactersIn_4 : decode cX3_charactersIn 4 = .ok (.lload_n 3, 1) := by decide +kernel
theorem dX3_charactersIn_5 : decode cX3_charactersIn 5 = .ok (.lconst 0, 1) := by decide +kernel
theorem dX3_charactersIn_6 : decode cX3_charactersIn 6 = .ok (.lcmp, 1) := by decide +kernel
theorem dX3_charactersIn_7 : decode cX3_charactersIn 7 = .ok (.ifCond .eq 47, 3) := by decide +kernel
theorem dX3_charactersIn_10 : decode cX3_charactersIn 10 = .ok (.iload_n 2, 1) := by decide +kernel
theorem dX3_charactersIn_11 : decode cX3_charactersIn 11 = .ok (.bipush 8, 2) := by decide +kernel
theorem dX3_charactersIn_13 : decode cX3_charactersIn 13 = .ok (.if_icmp .ge 41, 3) := by decide +kernel
theorem dX3_charactersIn_16 : decode cX3_charactersIn 16 = .ok (.lload_n 3, 1) := by decide +kernel
theorem dX3_charactersIn_17 : decode cX3_charactersIn 17 = .ok (.ldc2_w 23, 3) := by decide +kernel
theorem dX3_charactersIn_20 : decode cX3_charactersIn 20 = .ok (.land, 1) := by decide +kernel
theorem dX3_charactersIn_21 : decode cX3_charactersIn 21 = .ok (.lstore 5, 2) := by decide +kernel
theorem dX3_charactersIn_23 : decode cX3_charactersIn 23 = .ok (.lload 5, 2) := by decide +kernel
theorem dX3_charactersIn_25 : decode cX3_charactersIn 25 = .ok (.ldc2_w 25, 3) := by decide +kernel
theorem dX3_charactersIn_28 : decode cX3_charactersIn 28 = .ok (.lcmp, 1) := by decide +kernel
theorem dX3_charactersIn_29 : decode cX3_charactersIn 29 = .ok (.ifCond .lt 12, 3) := by decide +kernel
theorem dX3_charactersIn_32 : decode cX3_charactersIn 32 = .ok (.lload 5, 2) := by decide +kernel
theorem dX3_charactersIn_34 : decode cX3_charactersIn 34 = .ok (.ldc2_w 27, 3) := by decide +kernel
theorem dX3_charactersIn_37 : decode cX3_charactersIn 37 = .ok (.lcmp, 1) := by decide +kernel
theorem dX3_charactersIn_38 : decode cX3_charactersIn 38 = .ok (.ifCond .le 5, 3) := by decide +kernel
theorem dX3_charactersIn_41 : decode cX3_charactersIn 41 = .ok (.iconst 0, 1) := by decide +kernel
theorem dX3_charactersIn_42 : decode cX3_charactersIn 42 = .ok (.ireturn, 1) := by decide +kernel
theorem dX3_charactersIn_43 : decode cX3_charactersIn 43 = .ok (.iinc 2 1, 3) := by decide +kernel
theorem dX3_charactersIn_46 : decode cX3_charactersIn 46 = .ok (.lload_n 3, 1) := by decide +kernel
theorem dX3_charactersIn_47 : decode cX3_charactersIn 47 = .ok (.bipush 8, 2) := by decide +kernel
theorem dX3_charactersIn_49 : decode cX3_charactersIn 49 = .ok (.lushr, 1) := by decide +kernel
theorem dX3_charactersIn_50 : decode cX3_charactersIn 50 = .ok (.lstore_n 3, 1) := by decide +kernel
theorem dX3_charactersIn_51 : decode cX3_charactersIn 51 = .ok (.goto (-47), 3) := by decide +kernel
theorem dX3_charactersIn_54 : decode cX3_charactersIn 54 = .ok (.iload_n 2, 1) := by decide +kernel
theorem dX3_charactersIn_55 : decode cX3_charactersIn 55 = .ok (.ireturn, 1) := by decide +kernel
theorem dX3_clear_0 : decode cX3_clear 0 = .ok (.aload_n 0, 1) := by decide +kernel
theorem dX3_clear_1 : decode cX3_clear 1 = .ok (.getfield 19, 3) := by decide +kernel
theorem dX3_clear_4 : decode cX3_clear 4 = .ok (.istore_n 1, 1) := by decide +kernel
theorem dX3_clear_5 : decode cX3_clear 5 = .ok (.aload_n 0, 1) := by decide +kernel
theorem dX3_clear_6 : decode cX3_clear 6 = .ok (.iconst 0, 1) := by decide +kernel
theorem dX3_clear_7 : decode cX3_clear 7 = .ok (.putfield 19, 3) := by decide +kernel
theorem dX3_clear_10 : decode cX3_clear 10 = .ok (.iload_n 1, 1) := by decide +kernel
theorem dX3_clear_11 : decode cX3_clear 11 = .ok (.ireturn, 1) := by decide +kernel
theorem dX3_codeAt_0 : decode cX3_codeAt 0 = .ok (.iload_n 1, 1) := by decide +kernel
theorem dX3_codeAt_1 : decode cX3_codeAt 1 = .ok (.ifCond .lt 26, 3) := by decide +kernel
theorem dX3_codeAt_4 : decode cX3_codeAt 4 = .ok (.iload_n 1, 1) := by decide +kernel
theorem dX3_codeAt_5 : decode cX3_codeAt 5 = .ok (.aload_n 0, 1) := by decide +kernel
theorem dX3_codeAt_6 : decode cX3_codeAt 6 = .ok (.getfield 19, 3) := by decide +kernel
theorem dX3_codeAt_9 : decode cX3_codeAt 9 = .ok (.if_icmp .ge 18, 3) := by decide +kernel
theorem dX3_codeAt_12 : decode cX3_codeAt 12 = .ok (.iload_n 1, 1) := by decide +kernel
theorem dX3_codeAt_13 : decode cX3_codeAt 13 = .ok (.bipush 80, 2) := by decide +kernel
theorem dX3_codeAt_15 : decode cX3_codeAt 15 = .ok (.if_icmp .ge 12, 3) := by decide +kernel
theorem dX3_codeAt_18 : decode cX3_codeAt 18 = .ok (.aload_n 0, 1) := by decide +kernel
theorem dX3_codeAt_19 : decode cX3_codeAt 19 = .ok (.getfield 9, 3) := by decide +kernel
theorem dX3_codeAt_22 : decode cX3_codeAt 22 = .ok (.iload_n 1, 1) := by decide +kernel
theorem dX3_codeAt_23 : decode cX3_codeAt 23 = .ok (.caload, 1) := by decide +kernel
theorem dX3_codeAt_24 : decode cX3_codeAt 24 = .ok (.goto 4, 3) := by decide +kernel
theorem dX3_codeAt_27 : decode cX3_codeAt 27 = .ok (.iconst 0, 1) := by decide +kernel
theorem dX3_codeAt_28 : decode cX3_codeAt 28 = .ok (.ireturn, 1) := by decide +kernel
theorem dX4_init_0 : decode cX4_init 0 = .ok (.aload_n 0, 1) := by decide +kernel
theorem dX4_init_1 : decode cX4_init 1 = .ok (.invokespecial 3, 3) := by decide +kernel
theorem dX4_init_4 : decode cX4_init 4 = .ok (.aload_n 0, 1) := by decide +kernel
theorem dX4_init_5 : decode cX4_init 5 = .ok (.aload_n 1, 1) := by decide +kernel
theorem dX4_init_6 : decode cX4_init 6 = .ok (.putfield 9, 3) := by decide +kernel
theorem dX4_init_9 : decode cX4_init 9 = .ok (.return_, 1) := by decide +kernel
theorem dX4_findFault_0 : decode cX4_findFault 0 = .ok (.aload_n 0, 1) := by decide +kernel
theorem dX4_findFault_1 : decode cX4_findFault 1 = .ok (.iconst 0, 1) := by decide +kernel
theorem dX4_findFault_2 : decode cX4_findFault 2 = .ok (.putfield 15, 3) := by decide +kernel
theorem dX4_findFault_5 : decode cX4_findFault 5 = .ok (.iconst 0, 1) := by decide +kernel
theorem dX4_findFault_6 : decode cX4_findFault 6 = .ok (.istore_n 1, 1) := by decide +kernel
theorem dX4_findFault_7 : decode cX4_findFault 7 = .ok (.iload_n 1, 1) := by decide +kernel
theorem dX4_findFault_8 : decode cX4_findFault 8 = .ok (.bipush 80, 2) := by decide +kernel
theorem dX4_findFault_10 : decode cX4_findFault 10 = .ok (.if_icmp .ge 64, 3) := by decide +kernel
theorem dX4_findFault_13 : decode cX4_findFault 13 = .ok (.aload_n 0, 1) := by decide +kernel
theorem dX4_findFault_14 : decode cX4_findFault 14 = .ok (.invokevirtual 19, 3) := by decide +kernel
theorem dX4_findFault_17 : decode cX4_findFault 17 = .ok (.ifCond .eq 57, 3) := by decide +kernel
theorem dX4_findFault_20 : decode cX4_findFault 20 = .ok (.aload_n 0, 1) := by decide +kernel
theorem dX4_findFault_21 : decode cX4_findFault 21 = .ok (.getfield 15, 3) := by decide +kernel
theorem dX4_findFault_24 : decode cX4_findFault 24 = .ok (.aload_n 0, 1) := by decide +kernel
theorem dX4_findFault_25 : decode cX4_findFault 25 = .ok (.getfield 9, 3) := by decide +kernel
theorem dX4_findFault_28 : decode cX4_findFault 28 = .ok (.getfield 23, 3) := by decide +kernel
theorem dX4_findFault_31 : decode cX4_findFault 31 = .ok (.if_icmp .lt 6, 3) := by decide +kernel
theorem dX4_findFault_34 : decode cX4_findFault 34 = .ok (.bipush (-6), 2) := by decide +kernel
theorem dX4_findFault_36 : decode cX4_findFault 36 = .ok (.ireturn, 1) := by decide +kernel
theorem dX4_findFault_37 : decode cX4_findFault 37 = .ok (.aload_n 0, 1) := by decide +kernel
theorem dX4_findFault_38 : decode cX4_findFault 38 = .ok (.getfield 9, 3) := by decide +kernel
theorem dX4_findFault_41 : decode cX4_findFault 41 = .ok (.aload_n 0, 1) := by decide +kernel
theorem dX4_findFault_42 : decode cX4_findFault 42 = .ok (.getfield 15, 3) := by decide +kernel
theorem dX4_findFault_45 : decode cX4_findFault 45 = .ok (.invokevirtual 28, 3) := by decide +kernel
theorem dX4_findFault_48 : decode cX4_findFault 48 = .ok (.bipush 59, 2) := by decide +kernel
theorem dX4_findFault_50 : decode cX4_findFault 50 = .ok (.if_icmp .eq 8, 3) := by decide +kernel
theorem dX4_findFault_53 : decode cX4_findFault 53 = .ok (.aload_n 0, 1) := by decide +kernel
theorem dX4_findFault_54 : decode cX4_findFault 54 = .ok (.getfield 15, 3) := by decide +kernel
theorem dX4_findFault_57 : decode cX4_findFault 57 = .ok (.ireturn, 1) := by decide +kernel
theorem dX4_findFault_58 : decode cX4_findFault 58 = .ok (.aload_n 0, 1) := by decide +kernel
theorem dX4_findFault_59 : decode cX4_findFault 59 = .ok (.dup, 1) := by decide +kernel
theorem dX4_findFault_60 : decode cX4_findFault 60 = .ok (.getfield 15, 3) := by decide +kernel
theorem dX4_findFault_63 : decode cX4_findFault 63 = .ok (.iconst 1, 1) := by decide +kernel
theorem dX4_findFault_64 : decode cX4_findFault 64 = .ok (.iadd, 1) := by decide +kernel
theorem dX4_findFault_65 : decode cX4_findFault 65 = .ok (.putfield 15, 3) := by decide +kernel
theorem dX4_findFault_68 : decode cX4_findFault 68 = .ok (.iinc 1 1, 3) := by decide +kernel
theorem dX4_findFault_71 : decode cX4_findFault 71 = .ok (.goto (-64), 3) := by decide +kernel
theorem dX4_findFault_74 : decode cX4_findFault 74 = .ok (.aload_n 0, 1) := by decide +kernel
theorem dX4_findFault_75 : decode cX4_findFault 75 = .ok (.getfield 15, 3) := by decide +kernel
theorem dX4_findFault_78 : decode cX4_findFault 78 = .ok (.ireturn, 1) := by decide +kernel
theorem dX4_readOrder_0 : decode cX4_readOrder 0 = .ok (.aload_n 0, 1) := by decide +kernel
theorem dX4_readOrder_1 : decode cX4_readOrder 1 = .ok (.aload_n 0, 1) := by decide +kernel
theorem dX4_readOrder_2 : decode cX4_readOrder 2 = .ok (.getfield 9, 3) := by decide +kernel
theorem dX4_readOrder_5 : decode cX4_readOrder 5 = .ok (.aload_n 0, 1) := by decide +kernel
theorem dX4_readOrder_6 : decode cX4_readOrder 6 = .ok (.getfield 15, 3) := by decide +kernel
theorem dX4_readOrder_9 : decode cX4_readOrder 9 = .ok (.invokevirtual 28, 3) := by decide +kernel
theorem dX4_readOrder_12 : decode cX4_readOrder 12 = .ok (.putfield 32, 3) := by decide +kernel
theorem dX4_readOrder_15 : decode cX4_readOrder 15 = .ok (.aload_n 0, 1) := by decide +kernel
theorem dX4_readOrder_16 : decode cX4_readOrder 16 = .ok (.getfield 32, 3) := by decide +kernel
theorem dX4_readOrder_19 : decode cX4_readOrder 19 = .ok (.lookupswitch 182 #[(33, 116), (98, 160), (115, 49), (119, 71), (122, 138)], 49) := by decide +kernel
theorem dX4_readOrder_68 : decode cX4_readOrder 68 = .ok (.aload_n 0, 1) := by decide +kernel
theorem dX4_readOrder_69 : decode cX4_readOrder 69 = .ok (.bipush 115, 2) := by decide +kernel
theorem dX4_readOrder_71 : decode cX4_readOrder 71 = .ok (.invokevirtual 35, 3) := by decide +kernel
theorem dX4_readOrder_74 : decode cX4_readOrder 74 = .ok (.ifCond .eq 14, 3) := by decide +kernel
theorem dX4_readOrder_77 : decode cX4_readOrder 77 = .ok (.aload_n 0, 1) := by decide +kernel
theorem dX4_readOrder_78 : decode cX4_readOrder 78 = .ok (.invokevirtual 39, 3) := by decide +kernel
theorem dX4_readOrder_81 : decode cX4_readOrder 81 = .ok (.ifCond .eq 7, 3) := by decide +kernel
theorem dX4_readOrder_84 : decode cX4_readOrder 84 = .ok (.iconst 1, 1) := by decide +kernel
theorem dX4_readOrder_85 : decode cX4_readOrder 85 = .ok (.goto 4, 3) := by decide +kernel
theorem dX4_readOrder_88 : decode cX4_readOrder 88 = .ok (.iconst 0, 1) := by decide +kernel
theorem dX4_readOrder_89 : decode cX4_readOrder 89 = .ok (.ireturn, 1) := by decide +kernel
theorem dX4_readOrder_90 : decode cX4_readOrder 90 = .ok (.aload_n 0, 1) := by decide +kernel
theorem dX4_readOrder_91 : decode cX4_readOrder 91 = .ok (.bipush 119, 2) := by decide +kernel
theorem dX4_readOrder_93 : decode cX4_readOrder 93 = .ok (.invokevirtual 35, 3) := by decide +kernel
theorem dX4_readOrder_96 : decode cX4_readOrder 96 = .ok (.ifCond .eq 37, 3) := by decide +kernel
theorem dX4_readOrder_99 : decode cX4_readOrder 99 = .ok (.aload_n 0, 1) := by decide +kernel
theorem dX4_readOrder_100 : decode cX4_readOrder 100 = .ok (.invokevirtual 42, 3) := by decide +kernel
theorem dX4_readOrder_103 : decode cX4_readOrder 103 = .ok (.ifCond .eq 30, 3) := by decide +kernel
theorem dX4_readOrder_106 : decode cX4_readOrder 106 = .ok (.aload_n 0, 1) := by decide +kernel
theorem dX4_readOrder_107 : decode cX4_readOrder 107 = .ok (.invokevirtual 45, 3) := by decide +kernel
theorem dX4_readOrder_110 : decode cX4_readOrder 110 = .ok (.ifCond .eq 23, 3) := by decide +kernel
theorem dX4_readOrder_113 : decode cX4_readOrder 113 = .ok (.aload_n 0, 1) := by decide +kernel
theorem dX4_readOrder_114 : decode cX4_readOrder 114 = .ok (.bipush 61, 2) := by decide +kernel
theorem dX4_readOrder_116 : decode cX4_readOrder 116 = .ok (.invokevirtual 35, 3) := by decide +kernel
theorem dX4_readOrder_119 : decode cX4_readOrder 119 = .ok (.ifCond .eq 14, 3) := by decide +kernel
theorem dX4_readOrder_122 : decode cX4_readOrder 122 = .ok (.aload_n 0, 1) := by decide +kernel
theorem dX4_readOrder_123 : decode cX4_readOrder 123 = .ok (.invokevirtual 48, 3) := by decide +kernel
theorem dX4_readOrder_126 : decode cX4_readOrder 126 = .ok (.ifCond .eq 7, 3) := by decide +kernel
theorem dX4_readOrder_129 : decode cX4_readOrder 129 = .ok (.iconst 1, 1) := by decide +kernel
theorem dX4_readOrder_130 : decode cX4_readOrder 130 = .ok (.goto 4, 3) := by decide +kernel
theorem dX4_readOrder_133 : decode cX4_readOrder 133 = .ok (.iconst 0, 1) := by decide +kernel
theorem dX4_readOrder_134 : decode cX4_readOrder 134 = .ok (.ireturn, 1) := by decide +kernel
theorem dX4_readOrder_135 : decode cX4_readOrder 135 = .ok (.aload_n 0, 1) := by decide +kernel
theorem dX4_readOrder_136 : decode cX4_readOrder 136 = .ok (.bipush 33, 2) := by decide +kernel
theorem dX4_readOrder_138 : decode cX4_readOrder 138 = .ok (.invokevirtual 35, 3) := by decide +kernel
theorem dX4_readOrder_141 : decode cX4_readOrder 141 = .ok (.ifCond .eq 14, 3) := by decide +kernel
theorem dX4_readOrder_144 : decode cX4_readOrder 144 = .ok (.aload_n 0, 1) := by decide +kernel
theorem dX4_readOrder_145 : decode cX4_readOrder 145 = .ok (.invokevirtual 45, 3) := by decide +kernel
theorem dX4_readOrder_148 : decode cX4_readOrder 148 = .ok (.ifCond .eq 7, 3) := by decide +kernel
theorem dX4_readOrder_151 : decode cX4_readOrder 151 = .ok (.iconst 1, 1) := by decide +kernel
theorem dX4_readOrder_152 : decode cX4_readOrder 152 = .ok (.goto 4, 3) := by decide +kernel
theorem dX4_readOrder_155 : decode cX4_readOrder 155 = .ok (.iconst 0, 1) := by decide +kernel
theorem dX4_readOrder_156 : decode cX4_readOrder 156 = .ok (.ireturn, 1) := by decide +kernel
theorem dX4_readOrder_157 : decode cX4_readOrder 157 = .ok (.aload_n 0, 1) := by decide +kernel
theorem dX4_readOrder_158 : decode cX4_readOrder 158 = .ok (.bipush 122, 2) := by decide +kernel
theorem dX4_readOrder_160 : decode cX4_readOrder 160 = .ok (.invokevirtual 35, 3) := by decide +kernel
theorem dX4_readOrder_163 : decode cX4_readOrder 163 = .ok (.ifCond .eq 14, 3) := by decide +kernel
theorem dX4_readOrder_166 : decode cX4_readOrder 166 = .ok (.aload_n 0, 1) := by decide +kernel
theorem dX4_readOrder_167 : decode cX4_readOrder 167 = .ok (.invokevirtual 42, 3) := by decide +kernel
theorem dX4_readOrder_170 : decode cX4_readOrder 170 = .ok (.ifCond .eq 7, 3) := by decide +kernel
theorem dX4_readOrder_173 : decode cX4_readOrder 173 = .ok (.iconst 1, 1) := by decide +kernel
theorem dX4_readOrder_174 : decode cX4_readOrder 174 = .ok (.goto 4, 3) := by decide +kernel
theorem dX4_readOrder_177 : decode cX4_readOrder 177 = .ok (.iconst 0, 1) := by decide +kernel
theorem dX4_readOrder_178 : decode cX4_readOrder 178 = .ok (.ireturn, 1) := by decide +kernel
theorem dX4_readOrder_179 : decode cX4_readOrder 179 = .ok (.aload_n 0, 1) := by decide +kernel
theorem dX4_readOrder_180 : decode cX4_readOrder 180 = .ok (.bipush 98, 2) := by decide +kernel
theorem dX4_readOrder_182 : decode cX4_readOrder 182 = .ok (.invokevirtual 35, 3) := by decide +kernel
theorem dX4_readOrder_185 : decode cX4_readOrder 185 = .ok (.ifCond .eq 14, 3) := by decide +kernel
theorem dX4_readOrder_188 : decode cX4_readOrder 188 = .ok (.aload_n 0, 1) := by decide +kernel
theorem dX4_readOrder_189 : decode cX4_readOrder 189 = .ok (.invokevirtual 48, 3) := by decide +kernel
theorem dX4_readOrder_192 : decode cX4_readOrder 192 = .ok (.ifCond .eq 7, 3) := by decide +kernel
theorem dX4_readOrder_195 : decode cX4_readOrder 195 = .ok (.iconst 1, 1) := by decide +kernel
theorem dX4_readOrder_196 : decode cX4_readOrder 196 = .ok (.goto 4, 3) := by decide +kernel
theorem dX4_readOrder_199 : decode cX4_readOrder 199 = .ok (.iconst 0, 1) := by decide +kernel
theorem dX4_readOrder_200 : decode cX4_readOrder 200 = .ok (.ireturn, 1) := by decide +kernel
theorem dX4_readOrder_201 : decode cX4_readOrder 201 = .ok (.iconst 0, 1) := by decide +kernel
theorem dX4_readOrder_202 : decode cX4_readOrder 202 = .ok (.ireturn, 1) := by decide +kernel
theorem dX4_readSign_0 : decode cX4_readSign 0 = .ok (.aload_n 0, 1) := by decide +kernel
theorem dX4_readSign_1 : decode cX4_readSign 1 = .ok (.getfield 9, 3) := by decide +kernel
theorem dX4_readSign_4 : decode cX4_readSign 4 = .ok (.aload_n 0, 1) := by decide +kernel
theorem dX4_readSign_5 : decode cX4_readSign 5 = .ok (.getfield 15, 3) := by decide +kernel
theorem dX4_readSign_8 : decode cX4_readSign 8 = .ok (.invokevirtual 28, 3) := by decide +kernel
theorem dX4_readSign_11 : decode cX4_readSign 11 = .ok (.iload_n 1, 1) := by decide +kernel
theorem dX4_readSign_12 : decode cX4_readSign 12 = .ok (.if_icmp .eq 5, 3) := by decide +kernel
theorem dX4_readSign_15 : decode cX4_readSign 15 = .ok (.iconst 0, 1) := by decide +kernel
theorem dX4_readSign_16 : decode cX4_readSign 16 = .ok (.ireturn, 1) := by decide +kernel
theorem dX4_readSign_17 : decode cX4_readSign 17 = .ok (.aload_n 0, 1) := by decide +kernel
theorem dX4_readSign_18 : decode cX4_readSign 18 = .ok (.dup, 1) := by decide +kernel
theorem dX4_readSign_19 : decode cX4_readSign 19 = .ok (.getfield 15, 3) := by decide +kernel
theorem dX4_readSign_22 : decode cX4_readSign 22 = .ok (.iconst 1, 1) := by decide +kernel
theorem dX4_readSign_23 : decode cX4_readSign 23 = .ok (.iadd, 1) := by decide +kernel
theorem dX4_readSign_24 : decode cX4_readSign 24 = .ok (.putfield 15, 3) := by decide +kernel
theorem dX4_readSign_27 : decode cX4_readSign 27 = .ok (.iconst 1, 1) := by decide +kernel
theorem dX4_readSign_28 : decode cX4_readSign 28 = .ok (.ireturn, 1) := by decide +kernel
theorem dX4_readWire_0 : decode cX4_readWire 0 = .ok (.aload_n 0, 1) := by decide +kernel
theorem dX4_readWire_1 : decode cX4_readWire 1 = .ok (.aload_n 0, 1) := by decide +kernel
theorem dX4_readWire_2 : decode cX4_readWire 2 = .ok (.getfield 9, 3) := by decide +kernel
theorem dX4_readWire_5 : decode cX4_readWire 5 = .ok (.aload_n 0, 1) := by decide +kernel
theorem dX4_readWire_6 : decode cX4_readWire 6 = .ok (.getfield 15, 3) := by decide +kernel
theorem dX4_readWire_9 : decode cX4_readWire 9 = .ok (.invokevirtual 28, 3) := by decide +kernel
theorem dX4_readWire_12 : decode cX4_readWire 12 = .ok (.bipush 97, 2) := by decide +kernel
theorem dX4_readWire_14 : decode cX4_readWire 14 = .ok (.isub, 1) := by decide +kernel
theorem dX4_readWire_15 : decode cX4_readWire 15 = .ok (.putfield 51, 3) := by decide +kernel
theorem dX4_readWire_18 : decode cX4_readWire 18 = .ok (.aload_n 0, 1) := by decide +kernel
theorem dX4_readWire_19 : decode cX4_readWire 19 = .ok (.getfield 51, 3) := by decide +kernel
theorem dX4_readWire_22 : decode cX4_readWire 22 = .ok (.invokestatic 54, 3) := by decide +kernel
theorem dX4_readWire_25 : decode cX4_readWire 25 = .ok (.ifCond .ne 5, 3) := by decide +kernel
theorem dX4_readWire_28 : decode cX4_readWire 28 = .ok (.iconst 0, 1) := by decide +kernel
theorem dX4_readWire_29 : decode cX4_readWire 29 = .ok (.ireturn, 1) := by decide +kernel
theorem dX4_readWire_30 : decode cX4_readWire 30 = .ok (.aload_n 0, 1) := by decide +kernel
theorem dX4_readWire_31 : decode cX4_readWire 31 = .ok (.dup, 1) := by decide +kernel
theorem dX4_readWire_32 : decode cX4_readWire 32 = .ok (.getfield 15, 3) := by decide +kernel
theorem dX4_readWire_35 : decode cX4_readWire 35 = .ok (.iconst 1, 1) := by decide +kernel
theorem dX4_readWire_36 : decode cX4_readWire 36 = .ok (.iadd, 1) := by decide +kernel
theorem dX4_readWire_37 : decode cX4_readWire 37 = .ok (.putfield 15, 3) := by decide +kernel
theorem dX4_readWire_40 : decode cX4_readWire 40 = .ok (.iconst 1, 1) := by decide +kernel
theorem dX4_readWire_41 : decode cX4_readWire 41 = .ok (.ireturn, 1) := by decide +kernel
theorem dX4_readWires_0 : decode cX4_readWires 0 = .ok (.aload_n 0, 1) := by decide +kernel
theorem dX4_readWires_1 : decode cX4_readWires 1 = .ok (.iconst 0, 1) := by decide +kernel
theorem dX4_readWires_2 : decode cX4_readWires 2 = .ok (.putfield 58, 3) := by decide +kernel
theorem dX4_readWires_5 : decode cX4_readWires 5 = .ok (.iconst 0, 1) := by decide +kernel
theorem dX4_readWires_6 : decode cX4_readWires 6 = .ok (.istore_n 1, 1) := by decide +kernel
theorem dX4_readWires_7 : decode cX4_readWires 7 = .ok (.iload_n 1, 1) := by decide +kernel
theorem dX4_readWires_8 : decode cX4_readWires 8 = .ok (.bipush 6, 2) := by decide +kernel
theorem dX4_readWires_10 : decode cX4_readWires 10 = .ok (.if_icmp .ge 50, 3) := by decide +kernel
theorem dX4_readWires_13 : decode cX4_readWires 13 = .ok (.aload_n 0, 1) := by decide +kernel
theorem dX4_readWires_14 : decode cX4_readWires 14 = .ok (.aload_n 0, 1) := by decide +kernel
theorem dX4_readWires_15 : decode cX4_readWires 15 = .ok (.getfield 9, 3) := by decide +kernel
theorem dX4_readWires_18 : decode cX4_readWires 18 = .ok (.aload_n 0, 1) := by decide +kernel
theorem dX4_readWires_19 : decode cX4_readWires 19 = .ok (.getfield 15, 3) := by decide +kernel
theorem dX4_readWires_22 : decode cX4_readWires 22 = .ok (.invokevirtual 28, 3) := by decide +kernel
theorem dX4_readWires_25 : decode cX4_readWires 25 = .ok (.bipush 97, 2) := by decide +kernel
theorem dX4_readWires_27 : decode cX4_readWires 27 = .ok (.isub, 1) := by decide +kernel
theorem dX4_readWires_28 : decode cX4_readWires 28 = .ok (.invokevirtual 61, 3) := by decide +kernel
theorem dX4_readWires_31 : decode cX4_readWires 31 = .ok (.ifCond .eq 29, 3) := by decide +kernel
theorem dX4_readWires_34 : decode cX4_readWires 34 = .ok (.aload_n 0, 1) := by decide +kernel
theorem dX4_readWires_35 : decode cX4_readWires 35 = .ok (.invokevirtual 45, 3) := by decide +kernel
theorem dX4_readWires_38 : decode cX4_readWires 38 = .ok (.pop, 1) := by decide +kernel
theorem dX4_readWires_39 : decode cX4_readWires 39 = .ok (.aload_n 0, 1) := by decide +kernel
theorem dX4_readWires_40 : decode cX4_readWires 40 = .ok (.dup, 1) := by decide +kernel
theorem dX4_readWires_41 : decode cX4_readWires 41 = .ok (.getfield 58, 3) := by decide +kernel
theorem dX4_readWires_44 : decode cX4_readWires 44 = .ok (.iconst 1, 1) := by decide +kernel
theorem dX4_readWires_45 : decode cX4_readWires 45 = .ok (.aload_n 0, 1) := by decide +kernel
theorem dX4_readWires_46 : decode cX4_readWires 46 = .ok (.getfield 51, 3) := by decide +kernel
theorem dX4_readWires_49 : decode cX4_readWires 49 = .ok (.ishl, 1) := by decide +kernel
theorem dX4_readWires_50 : decode cX4_readWires 50 = .ok (.ior, 1) := by decide +kernel
theorem dX4_readWires_51 : decode cX4_readWires 51 = .ok (.putfield 58, 3) := by decide +kernel
theorem dX4_readWires_54 : decode cX4_readWires 54 = .ok (.iinc 1 1, 3) := by decide +kernel
theorem dX4_readWires_57 : decode cX4_readWires 57 = .ok (.goto (-50), 3) := by decide +kernel
theorem dX4_readWires_60 : decode cX4_readWires 60 = .ok (.aload_n 0, 1) := by decide +kernel
theorem dX4_readWires_61 : decode cX4_readWires 61 = .ok (.getfield 58, 3) := by decide +kernel
theorem dX4_readWires_64 : decode cX4_readWires 64 = .ok (.ifCond .eq 7, 3) := by decide +kernel
theorem dX4_readWires_67 : decode cX4_readWires 67 = .ok (.iconst 1, 1) := by decide +kernel
theorem dX4_readWires_68 : decode cX4_readWires 68 = .ok (.goto 4, 3) := by decide +kernel
theorem dX4_readWires_71 : decode cX4_readWires 71 = .ok (.iconst 0, 1) := by decide +kernel
theorem dX4_readWires_72 : decode cX4_readWires 72 = .ok (.ireturn, 1) := by decide +kernel
theorem dX4_isNewWire_0 : decode cX4_isNewWire 0 = .ok (.iload_n 1, 1) := by decide +kernel
theorem dX4_isNewWire_1 : decode cX4_isNewWire 1 = .ok (.invokestatic 54, 3) := by decide +kernel
theorem dX4_isNewWire_4 : decode cX4_isNewWire 4 = .ok (.ifCond .eq 18, 3) := by decide +kernel
theorem dX4_isNewWire_7 : decode cX4_isNewWire 7 = .ok (.aload_n 0, 1) := by decide +kernel
theorem dX4_isNewWire_8 : decode cX4_isNewWire 8 = .ok (.getfield 58, 3) := by decide +kernel
theorem dX4_isNewWire_11 : decode cX4_isNewWire 11 = .ok (.iload_n 1, 1) := by decide +kernel
theorem dX4_isNewWire_12 : decode cX4_isNewWire 12 = .ok (.ishr, 1) := by decide +kernel
theorem dX4_isNewWire_13 : decode cX4_isNewWire 13 = .ok (.iconst 1, 1) := by decide +kernel
theorem dX4_isNewWire_14 : decode cX4_isNewWire 14 = .ok (.iand, 1) := by decide +kernel
theorem dX4_isNewWire_15 : decode cX4_isNewWire 15 = .ok (.ifCond .ne 7, 3) := by decide +kernel
theorem dX4_isNewWire_18 : decode cX4_isNewWire 18 = .ok (.iconst 1, 1) := by decide +kernel
theorem dX4_isNewWire_19 : decode cX4_isNewWire 19 = .ok (.goto 4, 3) := by decide +kernel
theorem dX4_isNewWire_22 : decode cX4_isNewWire 22 = .ok (.iconst 0, 1) := by decide +kernel
theorem dX4_isNewWire_23 : decode cX4_isNewWire 23 = .ok (.ireturn, 1) := by decide +kernel
theorem dX4_readStation_0 : decode cX4_readStation 0 = .ok (.aload_n 0, 1) := by decide +kernel
theorem dX4_readStation_1 : decode cX4_readStation 1 = .ok (.aload_n 0, 1) := by decide +kernel
theorem dX4_readStation_2 : decode cX4_readStation 2 = .ok (.invokevirtual 64, 3) := by decide +kernel
theorem dX4_readStation_5 : decode cX4_readStation 5 = .ok (.putfield 68, 3) := by decide +kernel
theorem dX4_readStation_8 : decode cX4_readStation 8 = .ok (.aload_n 0, 1) := by decide +kernel
theorem dX4_readStation_9 : decode cX4_readStation 9 = .ok (.getfield 68, 3) := by decide +kernel
theorem dX4_readStation_12 : decode cX4_readStation 12 = .ok (.bipush (-6), 2) := by decide +kernel
theorem dX4_readStation_14 : decode cX4_readStation 14 = .ok (.if_icmp .ne 5, 3) := by decide +kernel
theorem dX4_readStation_17 : decode cX4_readStation 17 = .ok (.iconst 0, 1) := by decide +kernel
theorem dX4_readStation_18 : decode cX4_readStation 18 = .ok (.ireturn, 1) := by decide +kernel
theorem dX4_readStation_19 : decode cX4_readStation 19 = .ok (.aload_n 0, 1) := by decide +kernel
theorem dX4_readStation_20 : decode cX4_readStation 20 = .ok (.dup, 1) := by decide +kernel
theorem dX4_readStation_21 : decode cX4_readStation 21 = .ok (.getfield 15, 3) := by decide +kernel
theorem dX4_readStation_24 : decode cX4_readStation 24 = .ok (.iconst 1, 1) := by decide +kernel
theorem dX4_readStation_25 : decode cX4_readStation 25 = .ok (.iadd, 1) := by decide +kernel
theorem dX4_readStation_26 : decode cX4_readStation 26 = .ok (.putfield 15, 3) := by decide +kernel
theorem dX4_readStation_29 : decode cX4_readStation 29 = .ok (.iconst 1, 1) := by decide +kernel
theorem dX4_readStation_30 : decode cX4_readStation 30 = .ok (.ireturn, 1) := by decide +kernel
theorem dX4_readNumber_0 : decode cX4_readNumber 0 = .ok (.aload_n 0, 1) := by decide +kernel
theorem dX4_readNumber_1 : decode cX4_readNumber 1 = .ok (.aload_n 0, 1) := by decide +kernel
theorem dX4_readNumber_2 : decode cX4_readNumber 2 = .ok (.invokevirtual 64, 3) := by decide +kernel
theorem dX4_readNumber_5 : decode cX4_readNumber 5 = .ok (.putfield 71, 3) := by decide +kernel
theorem dX4_readNumber_8 : decode cX4_readNumber 8 = .ok (.aload_n 0, 1) := by decide +kernel
theorem dX4_readNumber_9 : decode cX4_readNumber 9 = .ok (.getfield 71, 3) := by decide +kernel
theorem dX4_readNumber_12 : decode cX4_readNumber 12 = .ok (.bipush (-6), 2) := by decide +kernel
theorem dX4_readNumber_14 : decode cX4_readNumber 14 = .ok (.if_icmp .ne 5, 3) := by decide +kernel
theorem dX4_readNumber_17 : decode cX4_readNumber 17 = .ok (.iconst 0, 1) := by decide +kernel
theorem dX4_readNumber_18 : decode cX4_readNumber 18 = .ok (.ireturn, 1) := by decide +kernel
theorem dX4_readNumber_19 : decode cX4_readNumber 19 = .ok (.aload_n 0, 1) := by decide +kernel
theorem dX4_readNumber_20 : decode cX4_readNumber 20 = .ok (.dup, 1) := by decide +kernel
theorem dX4_readNumber_21 : decode cX4_readNumber 21 = .ok (.getfield 15, 3) := by decide +kernel
theorem dX4_readNumber_24 : decode cX4_readNumber 24 = .ok (.iconst 1, 1) := by decide +kernel
theorem dX4_readNumber_25 : decode cX4_readNumber 25 = .ok (.iadd, 1) := by decide +kernel
theorem dX4_readNumber_26 : decode cX4_readNumber 26 = .ok (.putfield 15, 3) := by decide +kernel
theorem dX4_readNumber_29 : decode cX4_readNumber 29 = .ok (.iconst 1, 1) := by decide +kernel
theorem dX4_readNumber_30 : decode cX4_readNumber 30 = .ok (.istore_n 1, 1) := by decide +kernel
theorem dX4_readNumber_31 : decode cX4_readNumber 31 = .ok (.iload_n 1, 1) := by decide +kernel
theorem dX4_readNumber_32 : decode cX4_readNumber 32 = .ok (.bipush 80, 2) := by decide +kernel
theorem dX4_readNumber_34 : decode cX4_readNumber 34 = .ok (.if_icmp .ge 46, 3) := by decide +kernel
theorem dX4_readNumber_37 : decode cX4_readNumber 37 = .ok (.aload_n 0, 1) := by decide +kernel
theorem dX4_readNumber_38 : decode cX4_readNumber 38 = .ok (.aload_n 0, 1) := by decide +kernel
theorem dX4_readNumber_39 : decode cX4_readNumber 39 = .ok (.invokevirtual 64, 3) := by decide +kernel
theorem dX4_readNumber_42 : decode cX4_readNumber 42 = .ok (.invokevirtual 74, 3) := by decide +kernel
theorem dX4_readNumber_45 : decode cX4_readNumber 45 = .ok (.ifCond .eq 35, 3) := by decide +kernel
theorem dX4_readNumber_48 : decode cX4_readNumber 48 = .ok (.aload_n 0, 1) := by decide +kernel
theorem dX4_readNumber_49 : decode cX4_readNumber 49 = .ok (.aload_n 0, 1) := by decide +kernel
theorem dX4_readNumber_50 : decode cX4_readNumber 50 = .ok (.getfield 71, 3) := by decide +kernel
theorem dX4_readNumber_53 : decode cX4_readNumber 53 = .ok (.bipush 10, 2) := by decide +kernel
theorem dX4_readNumber_55 : decode cX4_readNumber 55 = .ok (.imul, 1) := by decide +kernel
theorem dX4_readNumber_56 : decode cX4_readNumber 56 = .ok (.aload_n 0, 1) := by decide +kernel
theorem dX4_readNumber_57 : decode cX4_readNumber 57 = .ok (.invokevirtual 64, 3) := by decide +kernel
theorem dX4_readNumber_60 : decode cX4_readNumber 60 = .ok (.iadd, 1) := by decide +kernel
theorem dX4_readNumber_61 : decode cX4_readNumber 61 = .ok (.putfield 71, 3) := by decide +kernel
theorem dX4_readNumber_64 : decode cX4_readNumber 64 = .ok (.aload_n 0, 1) := by decide +kernel
theorem dX4_readNumber_65 : decode cX4_readNumber 65 = .ok (.dup, 1) := by decide +kernel
theorem dX4_readNumber_66 : decode cX4_readNumber 66 = .ok (.getfield 15, 3) := by decide +kernel
theorem dX4_readNumber_69 : decode cX4_readNumber 69 = .ok (.iconst 1, 1) := by decide +kernel
theorem dX4_readNumber_70 : decode cX4_readNumber 70 = .ok (.iadd, 1) := by decide +kernel
theorem dX4_readNumber_71 : decode cX4_readNumber 71 = .ok (.putfield 15, 3) := by decide +kernel
theorem dX4_readNumber_74 : decode cX4_readNumber 74 = .ok (.iinc 1 1, 3) := by decide +kernel
theorem dX4_readNumber_77 : decode cX4_readNumber 77 = .ok (.goto (-46), 3) := by decide +kernel
theorem dX4_readNumber_80 : decode cX4_readNumber 80 = .ok (.iconst 1, 1) := by decide +kernel
theorem dX4_readNumber_81 : decode cX4_readNumber 81 = .ok (.ireturn, 1) := by decide +kernel
theorem dX4_canGrowBy_0 : decode cX4_canGrowBy 0 = .ok (.iload_n 1, 1) := by decide +kernel
theorem dX4_canGrowBy_1 : decode cX4_canGrowBy 1 = .ok (.bipush (-6), 2) := by decide +kernel
theorem dX4_canGrowBy_3 : decode cX4_canGrowBy 3 = .ok (.if_icmp .eq 29, 3) := by decide +kernel
theorem dX4_canGrowBy_6 : decode cX4_canGrowBy 6 = .ok (.aload_n 0, 1) := by decide +kernel
theorem dX4_canGrowBy_7 : decode cX4_canGrowBy 7 = .ok (.getfield 71, 3) := by decide +kernel
theorem dX4_canGrowBy_10 : decode cX4_canGrowBy 10 = .ok (.ifCond .eq 22, 3) := by decide +kernel
theorem dX4_canGrowBy_13 : decode cX4_canGrowBy 13 = .ok (.aload_n 0, 1) := by decide +kernel
theorem dX4_canGrowBy_14 : decode cX4_canGrowBy 14 = .ok (.getfield 71, 3) := by decide +kernel
theorem dX4_canGrowBy_17 : decode cX4_canGrowBy 17 = .ok (.bipush 10, 2) := by decide +kernel
theorem dX4_canGrowBy_19 : decode cX4_canGrowBy 19 = .ok (.imul, 1) := by decide +kernel
theorem dX4_canGrowBy_20 : decode cX4_canGrowBy 20 = .ok (.iload_n 1, 1) := by decide +kernel
theorem dX4_canGrowBy_21 : decode cX4_canGrowBy 21 = .ok (.iadd, 1) := by decide +kernel
theorem dX4_canGrowBy_22 : decode cX4_canGrowBy 22 = .ok (.sipush 999, 3) := by decide +kernel
theorem dX4_canGrowBy_25 : decode cX4_canGrowBy 25 = .ok (.if_icmp .gt 7, 3) := by decide +kernel
theorem dX4_canGrowBy_28 : decode cX4_canGrowBy 28 = .ok (.iconst 1, 1) := by decide +kernel
theorem dX4_canGrowBy_29 : decode cX4_canGrowBy 29 = .ok (.goto 4, 3) := by decide +kernel
theorem dX4_canGrowBy_32 : decode cX4_canGrowBy 32 = .ok (.iconst 0, 1) := by decide +kernel
theorem dX4_canGrowBy_33 : decode cX4_canGrowBy 33 = .ok (.ireturn, 1) := by decide +kernel
theorem dX4_digitAt_0 : decode cX4_digitAt 0 = .ok (.aload_n 0, 1) := by decide +kernel
theorem dX4_digitAt_1 : decode cX4_digitAt 1 = .ok (.getfield 9, 3) := by decide +kernel
theorem dX4_digitAt_4 : decode cX4_digitAt 4 = .ok (.aload_n 0, 1) := by decide +kernel
theorem dX4_digitAt_5 : decode cX4_digitAt 5 = .ok (.getfield 15, 3) := by decide +kernel
theorem dX4_digitAt_8 : decode cX4_digitAt 8 = .ok (.invokevirtual 28, 3) := by decide +kernel
theorem dX4_digitAt_11 : decode cX4_digitAt 11 = .ok (.bipush 48, 2) := by decide +kernel
theorem dX4_digitAt_13 : decode cX4_digitAt 13 = .ok (.isub, 1) := by decide +kernel
theorem dX4_digitAt_14 : decode cX4_digitAt 14 = .ok (.istore_n 1, 1) := by decide +kernel
theorem dX4_digitAt_15 : decode cX4_digitAt 15 = .ok (.iload_n 1, 1) := by decide +kernel
theorem dX4_digitAt_16 : decode cX4_digitAt 16 = .ok (.ifCond .lt 13, 3) := by decide +kernel
theorem dX4_digitAt_19 : decode cX4_digitAt 19 = .ok (.iload_n 1, 1) := by decide +kernel
theorem dX4_digitAt_20 : decode cX4_digitAt 20 = .ok (.bipush 9, 2) := by decide +kernel
theorem dX4_digitAt_22 : decode cX4_digitAt 22 = .ok (.if_icmp .gt 7, 3) := by decide +kernel
theorem dX4_digitAt_25 : decode cX4_digitAt 25 = .ok (.iload_n 1, 1) := by decide +kernel
theorem dX4_digitAt_26 : decode cX4_digitAt 26 = .ok (.goto 5, 3) := by decide +kernel
theorem dX4_digitAt_29 : decode cX4_digitAt 29 = .ok (.bipush (-6), 2) := by decide +kernel
theorem dX4_digitAt_31 : decode cX4_digitAt 31 = .ok (.ireturn, 1) := by decide +kernel
theorem dX5_init_0 : decode cX5_init 0 = .ok (.aload_n 0, 1) := by decide +kernel
theorem dX5_init_1 : decode cX5_init 1 = .ok (.invokespecial 3, 3) := by decide +kernel
theorem dX5_init_4 : decode cX5_init 4 = .ok (.aload_n 0, 1) := by decide +kernel
theorem dX5_init_5 : decode cX5_init 5 = .ok (.iconst 4, 1) := by decide +kernel
theorem dX5_init_6 : decode cX5_init 6 = .ok (.newarray .int, 2) := by decide +kernel
theorem dX5_init_8 : decode cX5_init 8 = .ok (.putfield 9, 3) := by decide +kernel
theorem dX5_init_11 : decode cX5_init 11 = .ok (.aload_n 0, 1) := by decide +kernel
theorem dX5_init_12 : decode cX5_init 12 = .ok (.iconst 4, 1) := by decide +kernel
theorem dX5_init_13 : decode cX5_init 13 = .ok (.newarray .int, 2) := by decide +kernel
theorem dX5_init_15 : decode cX5_init 15 = .ok (.putfield 15, 3) := by decide +kernel
theorem dX5_init_18 : decode cX5_init 18 = .ok (.aload_n 0, 1) := by decide +kernel
theorem dX5_init_19 : decode cX5_init 19 = .ok (.iconst 4, 1) := by decide +kernel
theorem dX5_init_20 : decode cX5_init 20 = .ok (.newarray .int, 2) := by decide +kernel
theorem dX5_init_22 : decode cX5_init 22 = .ok (.putfield 18, 3) := by decide +kernel
theorem dX5_init_25 : decode cX5_init 25 = .ok (.return_, 1) := by decide +kernel
theorem dX5_copyFrom_0 : decode cX5_copyFrom 0 = .ok (.aload_n 1, 1) := by decide +kernel
theorem dX5_copyFrom_1 : decode cX5_copyFrom 1 = .ok (.getfield 9, 3) := by decide +kernel
theorem dX5_copyFrom_4 : decode cX5_copyFrom 4 = .ok (.aload_n 0, 1) := by decide +kernel
theorem dX5_copyFrom_5 : decode cX5_copyFrom 5 = .ok (.getfield 9, 3) := by decide +kernel
theorem dX5_copyFrom_8 : decode cX5_copyFrom 8 = .ok (.invokestatic 21, 3) := by decide +kernel
theorem dX5_copyFrom_11 : decode cX5_copyFrom 11 = .ok (.aload_n 1, 1) := by decide +kernel
theorem dX5_copyFrom_12 : decode cX5_copyFrom 12 = .ok (.getfield 15, 3) := by decide +kernel
theorem dX5_copyFrom_15 : decode cX5_copyFrom 15 = .ok (.aload_n 0, 1) := by decide +kernel
theorem dX5_copyFrom_16 : decode cX5_copyFrom 16 = .ok (.getfield 15, 3) := by decide +kernel
theorem dX5_copyFrom_19 : decode cX5_copyFrom 19 = .ok (.invokestatic 21, 3) := by decide +kernel
theorem dX5_copyFrom_22 : decode cX5_copyFrom 22 = .ok (.aload_n 1, 1) := by decide +kernel
theorem dX5_copyFrom_23 : decode cX5_copyFrom 23 = .ok (.getfield 18, 3) := by decide +kernel
theorem dX5_copyFrom_26 : decode cX5_copyFrom 26 = .ok (.aload_n 0, 1) := by decide +kernel
theorem dX5_copyFrom_27 : decode cX5_copyFrom 27 = .ok (.getfield 18, 3) := by decide +kernel
theorem dX5_copyFrom_30 : decode cX5_copyFrom 30 = .ok (.invokestatic 21, 3) := by decide +kernel
theorem dX5_copyFrom_33 : decode cX5_copyFrom 33 = .ok (.aload_n 0, 1) := by decide +kernel
theorem dX5_copyFrom_34 : decode cX5_copyFrom 34 = .ok (.aload_n 1, 1) := by decide +kernel
theorem dX5_copyFrom_35 : decode cX5_copyFrom 35 = .ok (.getfield 25, 3) := by decide +kernel
theorem dX5_copyFrom_38 : decode cX5_copyFrom 38 = .ok (.putfield 25, 3) := by decide +kernel
theorem dX5_copyFrom_41 : decode cX5_copyFrom 41 = .ok (.return_, 1) := by decide +kernel
theorem dX5_has_0 : decode cX5_has 0 = .ok (.iload_n 1, 1) := by decide +kernel
theorem dX5_has_1 : decode cX5_has 1 = .ok (.ifCond .lt 20, 3) := by decide +kernel
theorem dX5_has_4 : decode cX5_has 4 = .ok (.iload_n 1, 1) := by decide +kernel
theorem dX5_has_5 : decode cX5_has 5 = .ok (.aload_n 0, 1) := by decide +kernel
theorem dX5_has_6 : decode cX5_has 6 = .ok (.getfield 25, 3) := by decide +kernel
theorem dX5_has_9 : decode cX5_has 9 = .ok (.if_icmp .ge 12, 3) := by decide +kernel
theorem dX5_has_12 : decode cX5_has 12 = .ok (.iload_n 1, 1) := by decide +kernel
theorem dX5_has_13 : decode cX5_has 13 = .ok (.iconst 4, 1) := by decide +kernel
theorem dX5_has_14 : decode cX5_has 14 = .ok (.if_icmp .ge 7, 3) := by decide +kernel
theorem dX5_has_17 : decode cX5_has 17 = .ok (.iconst 1, 1) := by decide +kernel
theorem dX5_has_18 : decode cX5_has 18 = .ok (.goto 4, 3) := by decide +kernel
theorem dX5_has_21 : decode cX5_has 21 = .ok (.iconst 0, 1) := by decide +kernel
theorem dX5_has_22 : decode cX5_has 22 = .ok (.ireturn, 1) := by decide +kernel
theorem dX5_numberAt_0 : decode cX5_numberAt 0 = .ok (.aload_n 0, 1) := by decide +kernel
theorem dX5_numberAt_1 : decode cX5_numberAt 1 = .ok (.iload_n 1, 1) := by decide +kernel
theorem dX5_numberAt_2 : decode cX5_numberAt 2 = .ok (.invokevirtual 29, 3) := by decide +kernel
theorem dX5_numberAt_5 : decode cX5_numberAt 5 = .ok (.ifCond .eq 12, 3) := by decide +kernel
theorem dX5_numberAt_8 : decode cX5_numberAt 8 = .ok (.aload_n 0, 1) := by decide +kernel
theorem dX5_numberAt_9 : decode cX5_numberAt 9 = .ok (.getfield 9, 3) := by decide +kernel
theorem dX5_numberAt_12 : decode cX5_numberAt 12 = .ok (.iload_n 1, 1) := by decide +kernel
theorem dX5_numberAt_13 : decode cX5_numberAt 13 = .ok (.iaload, 1) := by decide +kernel
theorem dX5_numberAt_14 : decode cX5_numberAt 14 = .ok (.goto 5, 3) := by decide +kernel
theorem dX5_numberAt_17 : decode cX5_numberAt 17 = .ok (.bipush (-6), 2) := by decide +kernel
theorem dX5_numberAt_19 : decode cX5_numberAt 19 = .ok (.ireturn, 1) := by decide +kernel
theorem dX5_wireAt_0 : decode cX5_wireAt 0 = .ok (.aload_n 0, 1) := by decide +kernel
theorem dX5_wireAt_1 : decode cX5_wireAt 1 = .ok (.iload_n 1, 1) := by decide +kernel
theorem dX5_wireAt_2 : decode cX5_wireAt 2 = .ok (.invokevirtual 29, 3) := by decide +kernel
theorem dX5_wireAt_5 : decode cX5_wireAt 5 = .ok (.ifCond .eq 12, 3) := by decide +kernel
theorem dX5_wireAt_8 : decode cX5_wireAt 8 = .ok (.aload_n 0, 1) := by decide +kernel
theorem dX5_wireAt_9 : decode cX5_wireAt 9 = .ok (.getfield 15, 3) := by decide +kernel
theorem dX5_wireAt_12 : decode cX5_wireAt 12 = .ok (.iload_n 1, 1) := by decide +kernel
theorem dX5_wireAt_13 : decode cX5_wireAt 13 = .ok (.iaload, 1) := by decide +kernel
theorem dX5_wireAt_14 : decode cX5_wireAt 14 = .ok (.goto 5, 3) := by decide +kernel
theorem dX5_wireAt_17 : decode cX5_wireAt 17 = .ok (.bipush (-6), 2) := by decide +kernel
theorem dX5_wireAt_19 : decode cX5_wireAt 19 = .ok (.ireturn, 1) := by decide +kernel
theorem dX5_triesAt_0 : decode cX5_triesAt 0 = .ok (.aload_n 0, 1) := by decide +kernel
theorem dX5_triesAt_1 : decode cX5_triesAt 1 = .ok (.iload_n 1, 1) := by decide +kernel
theorem dX5_triesAt_2 : decode cX5_triesAt 2 = .ok (.invokevirtual 29, 3) := by decide +kernel
theorem dX5_triesAt_5 : decode cX5_triesAt 5 = .ok (.ifCond .eq 12, 3) := by decide +kernel
theorem dX5_triesAt_8 : decode cX5_triesAt 8 = .ok (.aload_n 0, 1) := by decide +kernel
theorem dX5_triesAt_9 : decode cX5_triesAt 9 = .ok (.getfield 18, 3) := by decide +kernel
theorem dX5_triesAt_12 : decode cX5_triesAt 12 = .ok (.iload_n 1, 1) := by decide +kernel
theorem dX5_triesAt_13 : decode cX5_triesAt 13 = .ok (.iaload, 1) := by decide +kernel
theorem dX5_triesAt_14 : decode cX5_triesAt 14 = .ok (.goto 5, 3) := by decide +kernel
theorem dX5_triesAt_17 : decode cX5_triesAt 17 = .ok (.bipush (-6), 2) := by decide +kernel
theorem dX5_triesAt_19 : decode cX5_triesAt 19 = .ok (.ireturn, 1) := by decide +kernel
theorem dX5_countFor_0 : decode cX5_countFor 0 = .ok (.iconst 0, 1) := by decide +kernel
theorem dX5_countFor_1 : decode cX5_countFor 1 = .ok (.istore_n 2, 1) := by decide +kernel
theorem dX5_countFor_2 : decode cX5_countFor 2 = .ok (.iconst 0, 1) := by decide +kernel
theorem dX5_countFor_3 : decode cX5_countFor 3 = .ok (.istore_n 3, 1) := by decide +kernel
theorem dX5_countFor_4 : decode cX5_countFor 4 = .ok (.iload_n 3, 1) := by decide +kernel
theorem dX5_countFor_5 : decode cX5_countFor 5 = .ok (.aload_n 0, 1) := by decide +kernel
theorem dX5_countFor_6 : decode cX5_countFor 6 = .ok (.getfield 25, 3) := by decide +kernel
theorem dX5_countFor_9 : decode cX5_countFor 9 = .ok (.if_icmp .ge 21, 3) := by decide +kernel
theorem dX5_countFor_12 : decode cX5_countFor 12 = .ok (.aload_n 0, 1) := by decide +kernel
theorem dX5_countFor_13 : decode cX5_countFor 13 = .ok (.iload_n 3, 1) := by decide +kernel
theorem dX5_countFor_14 : decode cX5_countFor 14 = .ok (.invokevirtual 33, 3) := by decide +kernel
theorem dX5_countFor_17 : decode cX5_countFor 17 = .ok (.iload_n 1, 1) := by decide +kernel
theorem dX5_countFor_18 : decode cX5_countFor 18 = .ok (.if_icmp .ne 6, 3) := by decide +kernel
theorem dX5_countFor_21 : decode cX5_countFor 21 = .ok (.iinc 2 1, 3) := by decide +kernel
theorem dX5_countFor_24 : decode cX5_countFor 24 = .ok (.iinc 3 1, 3) := by decide +kernel
theorem dX5_countFor_27 : decode cX5_countFor 27 = .ok (.goto (-23), 3) := by decide +kernel
theorem dX5_countFor_30 : decode cX5_countFor 30 = .ok (.iload_n 2, 1) := by decide +kernel
theorem dX5_countFor_31 : decode cX5_countFor 31 = .ok (.ireturn, 1) := by decide +kernel
theorem dX5_add_0 : decode cX5_add 0 = .ok (.aload_n 0, 1) := by decide +kernel
theorem dX5_add_1 : decode cX5_add 1 = .ok (.getfield 25, 3) := by decide +kernel
theorem dX5_add_4 : decode cX5_add 4 = .ok (.iconst 4, 1) := by decide +kernel
theorem dX5_add_5 : decode cX5_add 5 = .ok (.if_icmp .lt 4, 3) := by decide +kernel
theorem dX5_add_8 : decode cX5_add 8 = .ok (.return_, 1) := by decide +kernel
theorem dX5_add_9 : decode cX5_add 9 = .ok (.aload_n 0, 1) := by decide +kernel
theorem dX5_add_10 : decode cX5_add 10 = .ok (.getfield 9, 3) := by decide +kernel
theorem dX5_add_13 : decode cX5_add 13 = .ok (.aload_n 0, 1) := by decide +kernel
theorem dX5_add_14 : decode cX5_add 14 = .ok (.getfield 25, 3) := by decide +kernel
theorem dX5_add_17 : decode cX5_add 17 = .ok (.iload_n 1, 1) := by decide +kernel
theorem dX5_add_18 : decode cX5_add 18 = .ok (.iastore, 1) := by decide +kernel
theorem dX5_add_19 : decode cX5_add 19 = .ok (.aload_n 0, 1) := by decide +kernel
theorem dX5_add_20 : decode cX5_add 20 = .ok (.getfield 15, 3) := by decide +kernel
theorem dX5_add_23 : decode cX5_add 23 = .ok (.aload_n 0, 1) := by decide +kernel
theorem dX5_add_24 : decode cX5_add 24 = .ok (.getfield 25, 3) := by decide +kernel
theorem dX5_add_27 : decode cX5_add 27 = .ok (.iload_n 2, 1) := by decide +kernel
theorem dX5_add_28 : decode cX5_add 28 = .ok (.iastore, 1) := by decide +kernel
theorem dX5_add_29 : decode cX5_add 29 = .ok (.aload_n 0, 1) := by decide +kernel
theorem dX5_add_30 : decode cX5_add 30 = .ok (.getfield 18, 3) := by decide +kernel
theorem dX5_add_33 : decode cX5_add 33 = .ok (.aload_n 0, 1) := by decide +kernel
theorem dX5_add_34 : decode cX5_add 34 = .ok (.getfield 25, 3) := by decide +kernel
theorem dX5_add_37 : decode cX5_add 37 = .ok (.iconst 0, 1) := by decide +kernel
theorem dX5_add_38 : decode cX5_add 38 = .ok (.iastore, 1) := by decide +kernel
theorem dX5_add_39 : decode cX5_add 39 = .ok (.aload_n 0, 1) := by decide +kernel
theorem dX5_add_40 : decode cX5_add 40 = .ok (.dup, 1) := by decide +kernel
theorem dX5_add_41 : decode cX5_add 41 = .ok (.getfield 25, 3) := by decide +kernel
theorem dX5_add_44 : decode cX5_add 44 = .ok (.iconst 1, 1) := by decide +kernel
theorem dX5_add_45 : decode cX5_add 45 = .ok (.iadd, 1) := by decide +kernel
theorem dX5_add_46 : decode cX5_add 46 = .ok (.putfield 25, 3) := by decide +kernel
theorem dX5_add_49 : decode cX5_add 49 = .ok (.return_, 1) := by decide +kernel
theorem dX5_tryFirst_0 : decode cX5_tryFirst 0 = .ok (.aload_n 0, 1) := by decide +kernel
theorem dX5_tryFirst_1 : decode cX5_tryFirst 1 = .ok (.getfield 25, 3) := by decide +kernel
theorem dX5_tryFirst_4 : decode cX5_tryFirst 4 = .ok (.ifCond .ne 5, 3) := by decide +kernel
theorem dX5_tryFirst_7 : decode cX5_tryFirst 7 = .ok (.iconst 0, 1) := by decide +kernel
theorem dX5_tryFirst_8 : decode cX5_tryFirst 8 = .ok (.ireturn, 1) := by decide +kernel
theorem dX5_tryFirst_9 : decode cX5_tryFirst 9 = .ok (.aload_n 0, 1) := by decide +kernel
theorem dX5_tryFirst_10 : decode cX5_tryFirst 10 = .ok (.getfield 18, 3) := by decide +kernel
theorem dX5_tryFirst_13 : decode cX5_tryFirst 13 = .ok (.iconst 0, 1) := by decide +kernel
theorem dX5_tryFirst_14 : decode cX5_tryFirst 14 = .ok (.dup2, 1) := by decide +kernel
theorem dX5_tryFirst_15 : decode cX5_tryFirst 15 = .ok (.iaload, 1) := by decide +kernel
theorem dX5_tryFirst_16 : decode cX5_tryFirst 16 = .ok (.iconst 1, 1) := by decide +kernel
theorem dX5_tryFirst_17 : decode cX5_tryFirst 17 = .ok (.iadd, 1) := by decide +kernel
theorem dX5_tryFirst_18 : decode cX5_tryFirst 18 = .ok (.iastore, 1) := by decide +kernel
theorem dX5_tryFirst_19 : decode cX5_tryFirst 19 = .ok (.aload_n 0, 1) := by decide +kernel
theorem dX5_tryFirst_20 : decode cX5_tryFirst 20 = .ok (.getfield 18, 3) := by decide +kernel
theorem dX5_tryFirst_23 : decode cX5_tryFirst 23 = .ok (.iconst 0, 1) := by decide +kernel
theorem dX5_tryFirst_24 : decode cX5_tryFirst 24 = .ok (.iaload, 1) := by decide +kernel
theorem dX5_tryFirst_25 : decode cX5_tryFirst 25 = .ok (.ireturn, 1) := by decide +kernel
theorem dX5_dropFirst_0 : decode cX5_dropFirst 0 = .ok (.aload_n 0, 1) := by decide +kernel
theorem dX5_dropFirst_1 : decode cX5_dropFirst 1 = .ok (.getfield 25, 3) := by decide +kernel
theorem dX5_dropFirst_4 : decode cX5_dropFirst 4 = .ok (.ifCond .ne 4, 3) := by decide +kernel
theorem dX5_dropFirst_7 : decode cX5_dropFirst 7 = .ok (.return_, 1) := by decide +kernel
theorem dX5_dropFirst_8 : decode cX5_dropFirst 8 = .ok (.iconst 1, 1) := by decide +kernel
theorem dX5_dropFirst_9 : decode cX5_dropFirst 9 = .ok (.istore_n 1, 1) := by decide +kernel
theorem dX5_dropFirst_10 : decode cX5_dropFirst 10 = .ok (.iload_n 1, 1) := by decide +kernel
theorem dX5_dropFirst_11 : decode cX5_dropFirst 11 = .ok (.aload_n 0, 1) := by decide +kernel
theorem dX5_dropFirst_12 : decode cX5_dropFirst 12 = .ok (.getfield 25, 3) := by decide +kernel
theorem dX5_dropFirst_15 : decode cX5_dropFirst 15 = .ok (.if_icmp .ge 51, 3) := by decide +kernel
theorem dX5_dropFirst_18 : decode cX5_dropFirst 18 = .ok (.aload_n 0, 1) := by decide +kernel
theorem dX5_dropFirst_19 : decode cX5_dropFirst 19 = .ok (.getfield 9, 3) := by decide +kernel
theorem dX5_dropFirst_22 : decode cX5_dropFirst 22 = .ok (.iload_n 1, 1) := by decide +kernel
theorem dX5_dropFirst_23 : decode cX5_dropFirst 23 = .ok (.iconst 1, 1) := by decide +kernel
theorem dX5_dropFirst_24 : decode cX5_dropFirst 24 = .ok (.isub, 1) := by decide +kernel
theorem dX5_dropFirst_25 : decode cX5_dropFirst 25 = .ok (.aload_n 0, 1) := by decide +kernel
theorem dX5_dropFirst_26 : decode cX5_dropFirst 26 = .ok (.getfield 9, 3) := by decide +kernel
theorem dX5_dropFirst_29 : decode cX5_dropFirst 29 = .ok (.iload_n 1, 1) := by decide +kernel
theorem dX5_dropFirst_30 : decode cX5_dropFirst 30 = .ok (.iaload, 1) := by decide +kernel
theorem dX5_dropFirst_31 : decode cX5_dropFirst 31 = .ok (.iastore, 1) := by decide +kernel
theorem dX5_dropFirst_32 : decode cX5_dropFirst 32 = .ok (.aload_n 0, 1) := by decide +kernel
theorem dX5_dropFirst_33 : decode cX5_dropFirst 33 = .ok (.getfield 15, 3) := by decide +kernel
theorem dX5_dropFirst_36 : decode cX5_dropFirst 36 = .ok (.iload_n 1, 1) := by decide +kernel
theorem dX5_dropFirst_37 : decode cX5_dropFirst 37 = .ok (.iconst 1, 1) := by decide +kernel
theorem dX5_dropFirst_38 : decode cX5_dropFirst 38 = .ok (.isub, 1) := by decide +kernel
theorem dX5_dropFirst_39 : decode cX5_dropFirst 39 = .ok (.aload_n 0, 1) := by decide +kernel
theorem dX5_dropFirst_40 : decode cX5_dropFirst 40 = .ok (.getfield 15, 3) := by decide +kernel
theorem dX5_dropFirst_43 : decode cX5_dropFirst 43 = .ok (.iload_n 1, 1) := by decide +kernel
theorem dX5_dropFirst_44 : decode cX5_dropFirst 44 = .ok (.iaload, 1) := by decide +kernel
theorem dX5_dropFirst_45 : decode cX5_dropFirst 45 = .ok (.iastore, 1) := by decide +kernel
theorem dX5_dropFirst_46 : decode cX5_dropFirst 46 = .ok (.aload_n 0, 1) := by decide +kernel
theorem dX5_dropFirst_47 : decode cX5_dropFirst 47 = .ok (.getfield 18, 3) := by decide +kernel
theorem dX5_dropFirst_50 : decode cX5_dropFirst 50 = .ok (.iload_n 1, 1) := by decide +kernel
theorem dX5_dropFirst_51 : decode cX5_dropFirst 51 = .ok (.iconst 1, 1) := by decide +kernel
theorem dX5_dropFirst_52 : decode cX5_dropFirst 52 = .ok (.isub, 1) := by decide +kernel
theorem dX5_dropFirst_53 : decode cX5_dropFirst 53 = .ok (.aload_n 0, 1) := by decide +kernel
theorem dX5_dropFirst_54 : decode cX5_dropFirst 54 = .ok (.getfield 18, 3) := by decide +kernel
theorem dX5_dropFirst_57 : decode cX5_dropFirst 57 = .ok (.iload_n 1, 1) := by decide +kernel
theorem dX5_dropFirst_58 : decode cX5_dropFirst 58 = .ok (.iaload, 1) := by decide +kernel
theorem dX5_dropFirst_59 : decode cX5_dropFirst 59 = .ok (.iastore, 1) := by decide +kernel
theorem dX5_dropFirst_60 : decode cX5_dropFirst 60 = .ok (.iinc 1 1, 3) := by decide +kernel
theorem dX5_dropFirst_63 : decode cX5_dropFirst 63 = .ok (.goto (-53), 3) := by decide +kernel
theorem dX5_dropFirst_66 : decode cX5_dropFirst 66 = .ok (.aload_n 0, 1) := by decide +kernel
theorem dX5_dropFirst_67 : decode cX5_dropFirst 67 = .ok (.dup, 1) := by decide +kernel
theorem dX5_dropFirst_68 : decode cX5_dropFirst 68 = .ok (.getfield 25, 3) := by decide +kernel
theorem dX5_dropFirst_71 : decode cX5_dropFirst 71 = .ok (.iconst 1, 1) := by decide +kernel
theorem dX5_dropFirst_72 : decode cX5_dropFirst 72 = .ok (.isub, 1) := by decide +kernel
theorem dX5_dropFirst_73 : decode cX5_dropFirst 73 = .ok (.putfield 25, 3) := by decide +kernel
theorem dX5_dropFirst_76 : decode cX5_dropFirst 76 = .ok (.return_, 1) := by decide +kernel
theorem dX6_init_0 : decode cX6_init 0 = .ok (.aload_n 0, 1) := by decide +kernel
theorem dX6_init_1 : decode cX6_init 1 = .ok (.invokespecial 3, 3) := by decide +kernel
theorem dX6_init_4 : decode cX6_init 4 = .ok (.aload_n 0, 1) := by decide +kernel
theorem dX6_init_5 : decode cX6_init 5 = .ok (.new 9, 3) := by decide +kernel
theorem dX6_init_8 : decode cX6_init 8 = .ok (.dup, 1) := by decide +kernel
theorem dX6_init_9 : decode cX6_init 9 = .ok (.invokespecial 11, 3) := by decide +kernel
theorem dX6_init_12 : decode cX6_init 12 = .ok (.putfield 12, 3) := by decide +kernel
theorem dX6_init_15 : decode cX6_init 15 = .ok (.aload_n 0, 1) := by decide +kernel
theorem dX6_init_16 : decode cX6_init 16 = .ok (.new 18, 3) := by decide +kernel
theorem dX6_init_19 : decode cX6_init 19 = .ok (.dup, 1) := by decide +kernel
theorem dX6_init_20 : decode cX6_init 20 = .ok (.invokespecial 20, 3) := by decide +kernel
theorem dX6_init_23 : decode cX6_init 23 = .ok (.putfield 21, 3) := by decide +kernel
theorem dX6_init_26 : decode cX6_init 26 = .ok (.aload_n 0, 1) := by decide +kernel
theorem dX6_init_27 : decode cX6_init 27 = .ok (.iconst (-1), 1) := by decide +kernel
theorem dX6_init_28 : decode cX6_init 28 = .ok (.putfield 25, 3) := by decide +kernel
theorem dX6_init_31 : decode cX6_init 31 = .ok (.aload_n 0, 1) := by decide +kernel
theorem dX6_init_32 : decode cX6_init 32 = .ok (.iload_n 1, 1) := by decide +kernel
theorem dX6_init_33 : decode cX6_init 33 = .ok (.putfield 29, 3) := by decide +kernel
theorem dX6_init_36 : decode cX6_init 36 = .ok (.return_, 1) := by decide +kernel
theorem dX6_copyFrom_0 : decode cX6_copyFrom 0 = .ok (.aload_n 0, 1) := by decide +kernel
theorem dX6_copyFrom_1 : decode cX6_copyFrom 1 = .ok (.getfield 12, 3) := by decide +kernel
theorem dX6_copyFrom_4 : decode cX6_copyFrom 4 = .ok (.aload_n 1, 1) := by decide +kernel
theorem dX6_copyFrom_5 : decode cX6_copyFrom 5 = .ok (.getfield 12, 3) := by decide +kernel
theorem dX6_copyFrom_8 : decode cX6_copyFrom 8 = .ok (.invokevirtual 32, 3) := by decide +kernel
theorem dX6_copyFrom_11 : decode cX6_copyFrom 11 = .ok (.aload_n 0, 1) := by decide +kernel
theorem dX6_copyFrom_12 : decode cX6_copyFrom 12 = .ok (.getfield 21, 3) := by decide +kernel
theorem dX6_copyFrom_15 : decode cX6_copyFrom 15 = .ok (.aload_n 1, 1) := by decide +kernel
theorem dX6_copyFrom_16 : decode cX6_copyFrom 16 = .ok (.getfield 21, 3) := by decide +kernel
theorem dX6_copyFrom_19 : decode cX6_copyFrom 19 = .ok (.invokevirtual 36, 3) := by decide +kernel
theorem dX6_copyFrom_22 : decode cX6_copyFrom 22 = .ok (.aload_n 0, 1) := by decide +kernel
theorem dX6_copyFrom_23 : decode cX6_copyFrom 23 = .ok (.aload_n 1, 1) := by decide +kernel
theorem dX6_copyFrom_24 : decode cX6_copyFrom 24 = .ok (.getfield 39, 3) := by decide +kernel
theorem dX6_copyFrom_27 : decode cX6_copyFrom 27 = .ok (.putfield 39, 3) := by decide +kernel
theorem dX6_copyFrom_30 : decode cX6_copyFrom 30 = .ok (.aload_n 0, 1) := by decide +kernel
theorem dX6_copyFrom_31 : decode cX6_copyFrom 31 = .ok (.aload_n 1, 1) := by decide +kernel
theorem dX6_copyFrom_32 : decode cX6_copyFrom 32 = .ok (.getfield 42, 3) := by decide +kernel
theorem dX6_copyFrom_35 : decode cX6_copyFrom 35 = .ok (.putfield 42, 3) := by decide +kernel
theorem dX6_copyFrom_38 : decode cX6_copyFrom 38 = .ok (.aload_n 0, 1) := by decide +kernel
theorem dX6_copyFrom_39 : decode cX6_copyFrom 39 = .ok (.aload_n 1, 1) := by decide +kernel
theorem dX6_copyFrom_40 : decode cX6_copyFrom 40 = .ok (.getfield 45, 3) := by decide +kernel
theorem dX6_copyFrom_43 : decode cX6_copyFrom 43 = .ok (.putfield 45, 3) := by decide +kernel
theorem dX6_copyFrom_46 : decode cX6_copyFrom 46 = .ok (.aload_n 0, 1) := by decide +kernel
theorem dX6_copyFrom_47 : decode cX6_copyFrom 47 = .ok (.aload_n 1, 1) := by decide +kernel
theorem dX6_copyFrom_48 : decode cX6_copyFrom 48 = .ok (.getfield 49, 3) := by decide +kernel
theorem dX6_copyFrom_51 : decode cX6_copyFrom 51 = .ok (.putfield 49, 3) := by decide +kernel
theorem dX6_copyFrom_54 : decode cX6_copyFrom 54 = .ok (.aload_n 0, 1) := by decide +kernel
theorem dX6_copyFrom_55 : decode cX6_copyFrom 55 = .ok (.aload_n 1, 1) := by decide +kernel
theorem dX6_copyFrom_56 : decode cX6_copyFrom 56 = .ok (.getfield 25, 3) := by decide +kernel
theorem dX6_copyFrom_59 : decode cX6_copyFrom 59 = .ok (.putfield 25, 3) := by decide +kernel
theorem dX6_copyFrom_62 : decode cX6_copyFrom 62 = .ok (.aload_n 0, 1) := by decide +kernel
theorem dX6_copyFrom_63 : decode cX6_copyFrom 63 = .ok (.aload_n 1, 1) := by decide +kernel
theorem dX6_copyFrom_64 : decode cX6_copyFrom 64 = .ok (.getfield 52, 3) := by decide +kernel
theorem dX6_copyFrom_67 : decode cX6_copyFrom 67 = .ok (.putfield 52, 3) := by decide +kernel
theorem dX6_copyFrom_70 : decode cX6_copyFrom 70 = .ok (.aload_n 0, 1) := by decide +kernel
theorem dX6_copyFrom_71 : decode cX6_copyFrom 71 = .ok (.aload_n 1, 1) := by decide +kernel
theorem dX6_copyFrom_72 : decode cX6_copyFrom 72 = .ok (.getfield 55, 3) := by decide +kernel
theorem dX6_copyFrom_75 : decode cX6_copyFrom 75 = .ok (.putfield 55, 3) := by decide +kernel
theorem dX6_copyFrom_78 : decode cX6_copyFrom 78 = .ok (.aload_n 0, 1) := by decide +kernel
theorem dX6_copyFrom_79 : decode cX6_copyFrom 79 = .ok (.aload_n 1, 1) := by decide +kernel
theorem dX6_copyFrom_80 : decode cX6_copyFrom 80 = .ok (.getfield 58, 3) := by decide +kernel
theorem dX6_copyFrom_83 : decode cX6_copyFrom 83 = .ok (.putfield 58, 3) := by decide +kernel
theorem dX6_copyFrom_86 : decode cX6_copyFrom 86 = .ok (.aload_n 0, 1) := by decide +kernel
theorem dX6_copyFrom_87 : decode cX6_copyFrom 87 = .ok (.aload_n 1, 1) := by decide +kernel
theorem dX6_copyFrom_88 : decode cX6_copyFrom 88 = .ok (.getfield 61, 3) := by decide +kernel
theorem dX6_copyFrom_91 : decode cX6_copyFrom 91 = .ok (.putfield 61, 3) := by decide +kernel
theorem dX6_copyFrom_94 : decode cX6_copyFrom 94 = .ok (.aload_n 0, 1) := by decide +kernel
theorem dX6_copyFrom_95 : decode cX6_copyFrom 95 = .ok (.aload_n 1, 1) := by decide +kernel
theorem dX6_copyFrom_96 : decode cX6_copyFrom 96 = .ok (.getfield 64, 3) := by decide +kernel
theorem dX6_copyFrom_99 : decode cX6_copyFrom 99 = .ok (.putfield 64, 3) := by decide +kernel
theorem dX6_copyFrom_102 : decode cX6_copyFrom 102 = .ok (.aload_n 0, 1) := by decide +kernel
theorem dX6_copyFrom_103 : decode cX6_copyFrom 103 = .ok (.aload_n 1, 1) := by decide +kernel
theorem dX6_copyFrom_104 : decode cX6_copyFrom 104 = .ok (.getfield 67, 3) := by decide +kernel
theorem dX6_copyFrom_107 : decode cX6_copyFrom 107 = .ok (.putfield 67, 3) := by decide +kernel
theorem dX6_copyFrom_110 : decode cX6_copyFrom 110 = .ok (.aload_n 0, 1) := by decide +kernel
theorem dX6_copyFrom_111 : decode cX6_copyFrom 111 = .ok (.aload_n 1, 1) := by decide +kernel
theorem dX6_copyFrom_112 : decode cX6_copyFrom 112 = .ok (.getfield 70, 3) := by decide +kernel
theorem dX6_copyFrom_115 : decode cX6_copyFrom 115 = .ok (.putfield 70, 3) := by decide +kernel
theorem dX6_copyFrom_118 : decode cX6_copyFrom 118 = .ok (.return_, 1) := by decide +kernel
theorem dX6_isAt_0 : decode cX6_isAt 0 = .ok (.aload_n 0, 1) := by decide +kernel
theorem dX6_isAt_1 : decode cX6_isAt 1 = .ok (.getfield 39, 3) := by decide +kernel
theorem dX6_isAt_4 : decode cX6_isAt 4 = .ok (.iload_n 1, 1) := by decide +kernel
theorem dX6_isAt_5 : decode cX6_isAt 5 = .ok (.ishr, 1) := by decide +kernel
theorem dX6_isAt_6 : decode cX6_isAt 6 = .ok (.iconst 1, 1) := by decide +kernel
theorem dX6_isAt_7 : decode cX6_isAt 7 = .ok (.iand, 1) := by decide +kernel
theorem dX6_isAt_8 : decode cX6_isAt 8 = .ok (.iconst 1, 1) := by decide +kernel
theorem dX6_isAt_9 : decode cX6_isAt 9 = .ok (.if_icmp .ne 7, 3) := by decide +kernel
theorem dX6_isAt_12 : decode cX6_isAt 12 = .ok (.iconst 1, 1) := by decide +kernel
theorem dX6_isAt_13 : decode cX6_isAt 13 = .ok (.goto 4, 3) := by decide +kernel
theorem dX6_isAt_16 : decode cX6_isAt 16 = .ok (.iconst 0, 1) := by decide +kernel
theorem dX6_isAt_17 : decode cX6_isAt 17 = .ok (.ireturn, 1) := by decide +kernel
theorem dX6_isAwake_0 : decode cX6_isAwake 0 = .ok (.aload_n 0, 1) := by decide +kernel
theorem dX6_isAwake_1 : decode cX6_isAwake 1 = .ok (.getfield 45, 3) := by decide +kernel
theorem dX6_isAwake_4 : decode cX6_isAwake 4 = .ok (.ifCond .ne 14, 3) := by decide +kernel
theorem dX6_isAwake_7 : decode cX6_isAwake 7 = .ok (.aload_n 0, 1) := by decide +kernel
theorem dX6_isAwake_8 : decode cX6_isAwake 8 = .ok (.getfield 49, 3) := by decide +kernel
theorem dX6_isAwake_11 : decode cX6_isAwake 11 = .ok (.ifCond .ne 7, 3) := by decide +kernel
theorem dX6_isAwake_14 : decode cX6_isAwake 14 = .ok (.iconst 1, 1) := by decide +kernel
theorem dX6_isAwake_15 : decode cX6_isAwake 15 = .ok (.goto 4, 3) := by decide +kernel
theorem dX6_isAwake_18 : decode cX6_isAwake 18 = .ok (.iconst 0, 1) := by decide +kernel
theorem dX6_isAwake_19 : decode cX6_isAwake 19 = .ok (.ireturn, 1) := by decide +kernel
theorem dX6_isSpeaking_0 : decode cX6_isSpeaking 0 = .ok (.aload_n 0, 1) := by decide +kernel
theorem dX6_isSpeaking_1 : decode cX6_isSpeaking 1 = .ok (.getfield 25, 3) := by decide +kernel
theorem dX6_isSpeaking_4 : decode cX6_isSpeaking 4 = .ok (.iconst (-1), 1) := by decide +kernel
theorem dX6_isSpeaking_5 : decode cX6_isSpeaking 5 = .ok (.if_icmp .eq 7, 3) := by decide +kernel
theorem dX6_isSpeaking_8 : decode cX6_isSpeaking 8 = .ok (.iconst 1, 1) := by decide +kernel
theorem dX6_isSpeaking_9 : decode cX6_isSpeaking 9 = .ok (.goto 4, 3) := by decide +kernel
theorem dX6_isSpeaking_12 : decode cX6_isSpeaking 12 = .ok (.iconst 0, 1) := by decide +kernel
theorem dX6_isSpeaking_13 : decode cX6_isSpeaking 13 = .ok (.ireturn, 1) := by decide +kernel
theorem dX6_letsGo_0 : decode cX6_letsGo 0 = .ok (.aload_n 0, 1) := by decide +kernel
theorem dX6_letsGo_1 : decode cX6_letsGo 1 = .ok (.getfield 55, 3) := by decide +kernel
theorem dX6_letsGo_4 : decode cX6_letsGo 4 = .ok (.bipush 10, 2) := by decide +kernel
theorem dX6_letsGo_6 : decode cX6_letsGo 6 = .ok (.aload_n 0, 1) := by decide +kernel
theorem dX6_letsGo_7 : decode cX6_letsGo 7 = .ok (.getfield 25, 3) := by decide +kernel
theorem dX6_letsGo_10 : decode cX6_letsGo 10 = .ok (.isub, 1) := by decide +kernel
theorem dX6_letsGo_11 : decode cX6_letsGo 11 = .ok (.ishr, 1) := by decide +kernel
theorem dX6_letsGo_12 : decode cX6_letsGo 12 = .ok (.iconst 1, 1) := by decide +kernel
theorem dX6_letsGo_13 : decode cX6_letsGo 13 = .ok (.iand, 1) := by decide +kernel
theorem dX6_letsGo_14 : decode cX6_letsGo 14 = .ok (.iconst 1, 1) := by decide +kernel
theorem dX6_letsGo_15 : decode cX6_letsGo 15 = .ok (.if_icmp .ne 7, 3) := by decide +kernel
theorem dX6_letsGo_18 : decode cX6_letsGo 18 = .ok (.iconst 1, 1) := by decide +kernel
theorem dX6_letsGo_19 : decode cX6_letsGo 19 = .ok (.goto 4, 3) := by decide +kernel
theorem dX6_letsGo_22 : decode cX6_letsGo 22 = .ok (.iconst 0, 1) := by decide +kernel
theorem dX6_letsGo_23 : decode cX6_letsGo 23 = .ok (.ireturn, 1) := by decide +kernel
theorem dX6_begin_0 : decode cX6_begin 0 = .ok (.aload_n 0, 1) := by decide +kernel
theorem dX6_begin_1 : decode cX6_begin 1 = .ok (.iconst 0, 1) := by decide +kernel
theorem dX6_begin_2 : decode cX6_begin 2 = .ok (.putfield 25, 3) := by decide +kernel
theorem dX6_begin_5 : decode cX6_begin 5 = .ok (.aload_n 0, 1) := by decide +kernel
theorem dX6_begin_6 : decode cX6_begin 6 = .ok (.iconst 1, 1) := by decide +kernel
theorem dX6_begin_7 : decode cX6_begin 7 = .ok (.iload_n 1, 1) := by decide +kernel
theorem dX6_begin_8 : decode cX6_begin 8 = .ok (.ishl, 1) := by decide +kernel
theorem dX6_begin_9 : decode cX6_begin 9 = .ok (.putfield 52, 3) := by decide +kernel
theorem dX6_begin_12 : decode cX6_begin 12 = .ok (.aload_n 0, 1) := by decide +kernel
theorem dX6_begin_13 : decode cX6_begin 13 = .ok (.aload_n 0, 1) := by decide +kernel
theorem dX6_begin_14 : decode cX6_begin 14 = .ok (.getfield 29, 3) := by decide +kernel
theorem dX6_begin_17 : decode cX6_begin 17 = .ok (.bipush 8, 2) := by decide +kernel
theorem dX6_begin_19 : decode cX6_begin 19 = .ok (.ishl, 1) := by decide +kernel
theorem dX6_begin_20 : decode cX6_begin 20 = .ok (.aload_n 0, 1) := by decide +kernel
theorem dX6_begin_21 : decode cX6_begin 21 = .ok (.getfield 12, 3) := by decide +kernel
theorem dX6_begin_24 : decode cX6_begin 24 = .ok (.iconst 0, 1) := by decide +kernel
theorem dX6_begin_25 : decode cX6_begin 25 = .ok (.invokevirtual 73, 3) := by decide +kernel
theorem dX6_begin_28 : decode cX6_begin 28 = .ok (.ior, 1) := by decide +kernel
theorem dX6_begin_29 : decode cX6_begin 29 = .ok (.putfield 55, 3) := by decide +kernel
theorem dX6_begin_32 : decode cX6_begin 32 = .ok (.aload_n 0, 1) := by decide +kernel
theorem dX6_begin_33 : decode cX6_begin 33 = .ok (.iload_n 2, 1) := by decide +kernel
theorem dX6_begin_34 : decode cX6_begin 34 = .ok (.putfield 58, 3) := by decide +kernel
theorem dX6_begin_37 : decode cX6_begin 37 = .ok (.return_, 1) := by decide +kernel
theorem dX6_fallSilent_0 : decode cX6_fallSilent 0 = .ok (.aload_n 0, 1) := by decide +kernel
theorem dX6_fallSilent_1 : decode cX6_fallSilent 1 = .ok (.iconst (-1), 1) := by decide +kernel
theorem dX6_fallSilent_2 : decode cX6_fallSilent 2 = .ok (.putfield 25, 3) := by decide +kernel
theorem dX6_fallSilent_5 : decode cX6_fallSilent 5 = .ok (.aload_n 0, 1) := by decide +kernel
theorem dX6_fallSilent_6 : decode cX6_fallSilent 6 = .ok (.iconst 0, 1) := by decide +kernel
theorem dX6_fallSilent_7 : decode cX6_fallSilent 7 = .ok (.putfield 52, 3) := by decide +kernel
theorem dX6_fallSilent_10 : decode cX6_fallSilent 10 = .ok (.aload_n 0, 1) := by decide +kernel
theorem dX6_fallSilent_11 : decode cX6_fallSilent 11 = .ok (.iconst 0, 1) := by decide +kernel
theorem dX6_fallSilent_12 : decode cX6_fallSilent 12 = .ok (.putfield 55, 3) := by decide +kernel
theorem dX6_fallSilent_15 : decode cX6_fallSilent 15 = .ok (.aload_n 0, 1) := by decide +kernel
theorem dX6_fallSilent_16 : decode cX6_fallSilent 16 = .ok (.iconst 0, 1) := by decide +kernel
theorem dX6_fallSilent_17 : decode cX6_fallSilent 17 = .ok (.putfield 58, 3) := by decide +kernel
theorem dX6_fallSilent_20 : decode cX6_fallSilent 20 = .ok (.return_, 1) := by decide +kernel
theorem dX6_fact_0 : decode cX6_fact 0 = .ok (.iload_n 1, 1) := by decide +kernel
theorem dX6_fact_1 : decode cX6_fact 1 = .ok (.tableswitch 139 0 9 #[55, 60, 65, 89, 97, 114, 119, 124, 129, 134], 55) := by decide +kernel
theorem dX6_fact_56 : decode cX6_fact 56 = .ok (.aload_n 0, 1) := by decide +kernel
theorem dX6_fact_57 : decode cX6_fact 57 = .ok (.getfield 39, 3) := by decide +kernel
theorem dX6_fact_60 : decode cX6_fact 60 = .ok (.ireturn, 1) := by decide +kernel
theorem dX6_fact_61 : decode cX6_fact 61 = .ok (.aload_n 0, 1) := by decide +kernel
theorem dX6_fact_62 : decode cX6_fact 62 = .ok (.getfield 42, 3) := by decide +kernel
theorem dX6_fact_65 : decode cX6_fact 65 = .ok (.ireturn, 1) := by decide +kernel
theorem dX6_fact_66 : decode cX6_fact 66 = .ok (.aload_n 0, 1) := by decide +kernel
theorem dX6_fact_67 : decode cX6_fact 67 = .ok (.getfield 49, 3) := by decide +kernel
theorem dX6_fact_70 : decode cX6_fact 70 = .ok (.ifCond .eq 7, 3) := by decide +kernel
theorem dX6_fact_73 : decode cX6_fact 73 = .ok (.iconst 2, 1) := by decide +kernel
theorem dX6_fact_74 : decode cX6_fact 74 = .ok (.goto 15, 3) := by decide +kernel
theorem dX6_fact_77 : decode cX6_fact 77 = .ok (.aload_n 0, 1) := by decide +kernel
theorem dX6_fact_78 : decode cX6_fact 78 = .ok (.getfield 45, 3) := by decide +kernel
theorem dX6_fact_81 : decode cX6_fact 81 = .ok (.ifCond .eq 7, 3) := by decide +kernel
theorem dX6_fact_84 : decode cX6_fact 84 = .ok (.iconst 1, 1) := by decide +kernel
theorem dX6_fact_85 : decode cX6_fact 85 = .ok (.goto 4, 3) := by decide +kernel
theorem dX6_fact_88 : decode cX6_fact 88 = .ok (.iconst 0, 1) := by decide +kernel
theorem dX6_fact_89 : decode cX6_fact 89 = .ok (.ireturn, 1) := by decide +kernel
theorem dX6_fact_90 : decode cX6_fact 90 = .ok (.aload_n 0, 1) := by decide +kernel
theorem dX6_fact_91 : decode cX6_fact 91 = .ok (.getfield 12, 3) := by decide +kernel
theorem dX6_fact_94 : decode cX6_fact 94 = .ok (.getfield 77, 3) := by decide +kernel
theorem dX6_fact_97 : decode cX6_fact 97 = .ok (.ireturn, 1) := by decide +kernel
theorem dX6_fact_98 : decode cX6_fact 98 = .ok (.aload_n 0, 1) := by decide +kernel
theorem dX6_fact_99 : decode cX6_fact 99 = .ok (.invokevirtual 80, 3) := by decide +kernel
theorem dX6_fact_102 : decode cX6_fact 102 = .ok (.ifCond .eq 10, 3) := by decide +kernel
theorem dX6_fact_105 : decode cX6_fact 105 = .ok (.aload_n 0, 1) := by decide +kernel
theorem dX6_fact_106 : decode cX6_fact 106 = .ok (.getfield 25, 3) := by decide +kernel
theorem dX6_fact_109 : decode cX6_fact 109 = .ok (.goto 5, 3) := by decide +kernel
theorem dX6_fact_112 : decode cX6_fact 112 = .ok (.bipush (-6), 2) := by decide +kernel
theorem dX6_fact_114 : decode cX6_fact 114 = .ok (.ireturn, 1) := by decide +kernel
theorem dX6_fact_115 : decode cX6_fact 115 = .ok (.aload_n 0, 1) := by decide +kernel
theorem dX6_fact_116 : decode cX6_fact 116 = .ok (.getfield 58, 3) := by decide +kernel
theorem dX6_fact_119 : decode cX6_fact 119 = .ok (.ireturn, 1) := by decide +kernel
theorem dX6_fact_120 : decode cX6_fact 120 = .ok (.aload_n 0, 1) := by decide +kernel
theorem dX6_fact_121 : decode cX6_fact 121 = .ok (.getfield 61, 3) := by decide +kernel
theorem dX6_fact_124 : decode cX6_fact 124 = .ok (.ireturn, 1) := by decide +kernel
theorem dX6_fact_125 : decode cX6_fact 125 = .ok (.aload_n 0, 1) := by decide +kernel
theorem dX6_fact_126 : decode cX6_fact 126 = .ok (.getfield 64, 3) := by decide +kernel
theorem dX6_fact_129 : decode cX6_fact 129 = .ok (.ireturn, 1) := by decide +kernel
theorem dX6_fact_130 : decode cX6_fact 130 = .ok (.aload_n 0, 1) := by decide +kernel
theorem dX6_fact_131 : decode cX6_fact 131 = .ok (.getfield 67, 3) := by decide +kernel
theorem dX6_fact_134 : decode cX6_fact 134 = .ok (.ireturn, 1) := by decide +kernel
theorem dX6_fact_135 : decode cX6_fact 135 = .ok (.aload_n 0, 1) := by decide +kernel
theorem dX6_fact_136 : decode cX6_fact 136 = .ok (.getfield 70, 3) := by decide +kernel
theorem dX6_fact_139 : decode cX6_fact 139 = .ok (.ireturn, 1) := by decide +kernel
theorem dX6_fact_140 : decode cX6_fact 140 = .ok (.bipush (-2), 2) := by decide +kernel
theorem dX6_fact_142 : decode cX6_fact 142 = .ok (.ireturn, 1) := by decide +kernel
theorem dX7_init_0 : decode cX7_init 0 = .ok (.aload_n 0, 1) := by decide +kernel
theorem dX7_init_1 : decode cX7_init 1 = .ok (.invokespecial 1, 3) := by decide +kernel
theorem dX7_init_4 : decode cX7_init 4 = .ok (.aload_n 0, 1) := by decide +kernel
theorem dX7_init_5 : decode cX7_init 5 = .ok (.new 7, 3) := by decide +kernel
theorem dX7_init_8 : decode cX7_init 8 = .ok (.dup, 1) := by decide +kernel
theorem dX7_init_9 : decode cX7_init 9 = .ok (.invokespecial 9, 3) := by decide +kernel
theorem dX7_init_12 : decode cX7_init 12 = .ok (.putfield 10, 3) := by decide +kernel
theorem dX7_init_15 : decode cX7_init 15 = .ok (.aload_n 0, 1) := by decide +kernel
theorem dX7_init_16 : decode cX7_init 16 = .ok (.new 7, 3) := by decide +kernel
theorem dX7_init_19 : decode cX7_init 19 = .ok (.dup, 1) := by decide +kernel
theorem dX7_init_20 : decode cX7_init 20 = .ok (.invokespecial 9, 3) := by decide +kernel
theorem dX7_init_23 : decode cX7_init 23 = .ok (.putfield 16, 3) := by decide +kernel
theorem dX7_init_26 : decode cX7_init 26 = .ok (.aload_n 0, 1) := by decide +kernel
theorem dX7_init_27 : decode cX7_init 27 = .ok (.new 19, 3) := by decide +kernel
theorem dX7_init_30 : decode cX7_init 30 = .ok (.dup, 1) := by decide +kernel
theorem dX7_init_31 : decode cX7_init 31 = .ok (.invokespecial 21, 3) := by decide +kernel
theorem dX7_init_34 : decode cX7_init 34 = .ok (.putfield 22, 3) := by decide +kernel
theorem dX7_init_37 : decode cX7_init 37 = .ok (.aload_n 0, 1) := by decide +kernel
theorem dX7_init_38 : decode cX7_init 38 = .ok (.iconst 2, 1) := by decide +kernel
theorem dX7_init_39 : decode cX7_init 39 = .ok (.anewarray 7, 3) := by decide +kernel
theorem dX7_init_42 : decode cX7_init 42 = .ok (.putfield 26, 3) := by decide +kernel
theorem dX7_init_45 : decode cX7_init 45 = .ok (.aload_n 0, 1) := by decide +kernel
theorem dX7_init_46 : decode cX7_init 46 = .ok (.new 30, 3) := by decide +kernel
theorem dX7_init_49 : decode cX7_init 49 = .ok (.dup, 1) := by decide +kernel
theorem dX7_init_50 : decode cX7_init 50 = .ok (.invokespecial 32, 3) := by decide +kernel
theorem dX7_init_53 : decode cX7_init 53 = .ok (.putfield 33, 3) := by decide +kernel
theorem dX7_init_56 : decode cX7_init 56 = .ok (.aload_n 0, 1) := by decide +kernel
theorem dX7_init_57 : decode cX7_init 57 = .ok (.new 37, 3) := by decide +kernel
theorem dX7_init_60 : decode cX7_init 60 = .ok (.dup, 1) := by decide +kernel
theorem dX7_init_61 : decode cX7_init 61 = .ok (.aload_n 0, 1) := by decide +kernel
theorem dX7_init_62 : decode cX7_init 62 = .ok (.getfield 33, 3) := by decide +kernel
theorem dX7_init_65 : decode cX7_init 65 = .ok (.invokespecial 39, 3) := by decide +kernel
theorem dX7_init_68 : decode cX7_init 68 = .ok (.putfield 42, 3) := by decide +kernel
theorem dX7_init_71 : decode cX7_init 71 = .ok (.return_, 1) := by decide +kernel
theorem dX7_set_0 : decode cX7_set 0 = .ok (.aload_n 0, 1) := by decide +kernel
theorem dX7_set_1 : decode cX7_set 1 = .ok (.getfield 22, 3) := by decide +kernel
theorem dX7_set_4 : decode cX7_set 4 = .ok (.aload_n 0, 1) := by decide +kernel
theorem dX7_set_5 : decode cX7_set 5 = .ok (.getfield 10, 3) := by decide +kernel
theorem dX7_set_8 : decode cX7_set 8 = .ok (.invokevirtual 46, 3) := by decide +kernel
theorem dX7_set_11 : decode cX7_set 11 = .ok (.aload_n 0, 1) := by decide +kernel
theorem dX7_set_12 : decode cX7_set 12 = .ok (.getfield 22, 3) := by decide +kernel
theorem dX7_set_15 : decode cX7_set 15 = .ok (.aload_n 0, 1) := by decide +kernel
theorem dX7_set_16 : decode cX7_set 16 = .ok (.getfield 10, 3) := by decide +kernel
theorem dX7_set_19 : decode cX7_set 19 = .ok (.iload_n 1, 1) := by decide +kernel
theorem dX7_set_20 : decode cX7_set 20 = .ok (.iload_n 2, 1) := by decide +kernel
theorem dX7_set_21 : decode cX7_set 21 = .ok (.invokevirtual 50, 3) := by decide +kernel
theorem dX7_set_24 : decode cX7_set 24 = .ok (.invokevirtual 54, 3) := by decide +kernel
theorem dX7_set_27 : decode cX7_set 27 = .ok (.ireturn, 1) := by decide +kernel
theorem dX7_station_0 : decode cX7_station 0 = .ok (.aload_n 0, 1) := by decide +kernel
theorem dX7_station_1 : decode cX7_station 1 = .ok (.getfield 22, 3) := by decide +kernel
theorem dX7_station_4 : decode cX7_station 4 = .ok (.aload_n 0, 1) := by decide +kernel
theorem dX7_station_5 : decode cX7_station 5 = .ok (.getfield 10, 3) := by decide +kernel
theorem dX7_station_8 : decode cX7_station 8 = .ok (.invokevirtual 46, 3) := by decide +kernel
theorem dX7_station_11 : decode cX7_station 11 = .ok (.aload_n 0, 1) := by decide +kernel
theorem dX7_station_12 : decode cX7_station 12 = .ok (.getfield 22, 3) := by decide +kernel
theorem dX7_station_15 : decode cX7_station 15 = .ok (.aload_n 0, 1) := by decide +kernel
theorem dX7_station_16 : decode cX7_station 16 = .ok (.getfield 10, 3) := by decide +kernel
theorem dX7_station_19 : decode cX7_station 19 = .ok (.iload_n 1, 1) := by decide +kernel
theorem dX7_station_20 : decode cX7_station 20 = .ok (.invokevirtual 58, 3) := by decide +kernel
theorem dX7_station_23 : decode cX7_station 23 = .ok (.invokevirtual 54, 3) := by decide +kernel
theorem dX7_station_26 : decode cX7_station 26 = .ok (.ireturn, 1) := by decide +kernel
theorem dX7_word_0 : decode cX7_word 0 = .ok (.aload_n 0, 1) := by decide +kernel
theorem dX7_word_1 : decode cX7_word 1 = .ok (.getfield 22, 3) := by decide +kernel
theorem dX7_word_4 : decode cX7_word 4 = .ok (.aload_n 0, 1) := by decide +kernel
theorem dX7_word_5 : decode cX7_word 5 = .ok (.getfield 10, 3) := by decide +kernel
theorem dX7_word_8 : decode cX7_word 8 = .ok (.invokevirtual 46, 3) := by decide +kernel
theorem dX7_word_11 : decode cX7_word 11 = .ok (.aload_n 0, 1) := by decide +kernel
theorem dX7_word_12 : decode cX7_word 12 = .ok (.getfield 22, 3) := by decide +kernel
theorem dX7_word_15 : decode cX7_word 15 = .ok (.aload_n 0, 1) := by decide +kernel
theorem dX7_word_16 : decode cX7_word 16 = .ok (.getfield 10, 3) := by decide +kernel
theorem dX7_word_19 : decode cX7_word 19 = .ok (.iload_n 1, 1) := by decide +kernel
theorem dX7_word_20 : decode cX7_word 20 = .ok (.iload_n 2, 1) := by decide +kernel
theorem dX7_word_21 : decode cX7_word 21 = .ok (.iload_n 3, 1) := by decide +kernel
theorem dX7_word_22 : decode cX7_word 22 = .ok (.invokevirtual 61, 3) := by decide +kernel
theorem dX7_word_25 : decode cX7_word 25 = .ok (.invokevirtual 54, 3) := by decide +kernel
theorem dX7_word_28 : decode cX7_word 28 = .ok (.ireturn, 1) := by decide +kernel
theorem dX7_forget_0 : decode cX7_forget 0 = .ok (.aload_n 0, 1) := by decide +kernel
theorem dX7_forget_1 : decode cX7_forget 1 = .ok (.getfield 22, 3) := by decide +kernel
theorem dX7_forget_4 : decode cX7_forget 4 = .ok (.aload_n 0, 1) := by decide +kernel
theorem dX7_forget_5 : decode cX7_forget 5 = .ok (.getfield 10, 3) := by decide +kernel
theorem dX7_forget_8 : decode cX7_forget 8 = .ok (.invokevirtual 46, 3) := by decide +kernel
theorem dX7_forget_11 : decode cX7_forget 11 = .ok (.aload_n 0, 1) := by decide +kernel
theorem dX7_forget_12 : decode cX7_forget 12 = .ok (.getfield 22, 3) := by decide +kernel
theorem dX7_forget_15 : decode cX7_forget 15 = .ok (.aload_n 0, 1) := by decide +kernel
theorem dX7_forget_16 : decode cX7_forget 16 = .ok (.getfield 10, 3) := by decide +kernel
theorem dX7_forget_19 : decode cX7_forget 19 = .ok (.iload_n 1, 1) := by decide +kernel
theorem dX7_forget_20 : decode cX7_forget 20 = .ok (.invokevirtual 65, 3) := by decide +kernel
theorem dX7_forget_23 : decode cX7_forget 23 = .ok (.invokevirtual 54, 3) := by decide +kernel
theorem dX7_forget_26 : decode cX7_forget 26 = .ok (.ireturn, 1) := by decide +kernel
theorem dX7_stick_0 : decode cX7_stick 0 = .ok (.aload_n 0, 1) := by decide +kernel
theorem dX7_stick_1 : decode cX7_stick 1 = .ok (.getfield 22, 3) := by decide +kernel
theorem dX7_stick_4 : decode cX7_stick 4 = .ok (.aload_n 0, 1) := by decide +kernel
theorem dX7_stick_5 : decode cX7_stick 5 = .ok (.getfield 10, 3) := by decide +kernel
theorem dX7_stick_8 : decode cX7_stick 8 = .ok (.invokevirtual 46, 3) := by decide +kernel
theorem dX7_stick_11 : decode cX7_stick 11 = .ok (.aload_n 0, 1) := by decide +kernel
theorem dX7_stick_12 : decode cX7_stick 12 = .ok (.getfield 22, 3) := by decide +kernel
theorem dX7_stick_15 : decode cX7_stick 15 = .ok (.aload_n 0, 1) := by decide +kernel
theorem dX7_stick_16 : decode cX7_stick 16 = .ok (.getfield 10, 3) := by decide +kernel
theorem dX7_stick_19 : decode cX7_stick 19 = .ok (.iload_n 1, 1) := by decide +kernel
theorem dX7_stick_20 : decode cX7_stick 20 = .ok (.invokevirtual 68, 3) := by decide +kernel
theorem dX7_stick_23 : decode cX7_stick 23 = .ok (.invokevirtual 54, 3) := by decide +kernel
theorem dX7_stick_26 : decode cX7_stick 26 = .ok (.ireturn, 1) := by decide +kernel
theorem dX7_doze_0 : decode cX7_doze 0 = .ok (.aload_n 0, 1) := by decide +kernel
theorem dX7_doze_1 : decode cX7_doze 1 = .ok (.getfield 22, 3) := by decide +kernel
theorem dX7_doze_4 : decode cX7_doze 4 = .ok (.aload_n 0, 1) := by decide +kernel
theorem dX7_doze_5 : decode cX7_doze 5 = .ok (.getfield 10, 3) := by decide +kernel
theorem dX7_doze_8 : decode cX7_doze 8 = .ok (.invokevirtual 46, 3) := by decide +kernel
theorem dX7_doze_11 : decode cX7_doze 11 = .ok (.aload_n 0, 1) := by decide +kernel
theorem dX7_doze_12 : decode cX7_doze 12 = .ok (.getfield 22, 3) := by decide +kernel
theorem dX7_doze_15 : decode cX7_doze 15 = .ok (.aload_n 0, 1) := by decide +kernel
theorem dX7_doze_16 : decode cX7_doze 16 = .ok (.getfield 10, 3) := by decide +kernel
theorem dX7_doze_19 : decode cX7_doze 19 = .ok (.iload_n 1, 1) := by decide +kernel
theorem dX7_doze_20 : decode cX7_doze 20 = .ok (.invokevirtual 71, 3) := by decide +kernel
theorem dX7_doze_23 : decode cX7_doze 23 = .ok (.invokevirtual 54, 3) := by decide +kernel
theorem dX7_doze_26 : decode cX7_doze 26 = .ok (.ireturn, 1) := by decide +kernel
theorem dX7_pass_0 : decode cX7_pass 0 = .ok (.aload_n 0, 1) := by decide +kernel
theorem dX7_pass_1 : decode cX7_pass 1 = .ok (.getfield 22, 3) := by decide +kernel
theorem dX7_pass_4 : decode cX7_pass 4 = .ok (.aload_n 0, 1) := by decide +kernel
theorem dX7_pass_5 : decode cX7_pass 5 = .ok (.getfield 10, 3) := by decide +kernel
theorem dX7_pass_8 : decode cX7_pass 8 = .ok (.invokevirtual 46, 3) := by decide +kernel
theorem dX7_pass_11 : decode cX7_pass 11 = .ok (.aload_n 0, 1) := by decide +kernel
theorem dX7_pass_12 : decode cX7_pass 12 = .ok (.getfield 22, 3) := by decide +kernel
theorem dX7_pass_15 : decode cX7_pass 15 = .ok (.aload_n 0, 1) := by decide +kernel
theorem dX7_pass_16 : decode cX7_pass 16 = .ok (.getfield 10, 3) := by decide +kernel
theorem dX7_pass_19 : decode cX7_pass 19 = .ok (.iload_n 1, 1) := by decide +kernel
theorem dX7_pass_20 : decode cX7_pass 20 = .ok (.invokevirtual 74, 3) := by decide +kernel
theorem dX7_pass_23 : decode cX7_pass 23 = .ok (.invokevirtual 54, 3) := by decide +kernel
theorem dX7_pass_26 : decode cX7_pass 26 = .ok (.ireturn, 1) := by decide +kernel
theorem dX7_ofWire_0 : decode cX7_ofWire 0 = .ok (.iload_n 1, 1) := by decide +kernel
theorem dX7_ofWire_1 : decode cX7_ofWire 1 = .ok (.invokestatic 77, 3) := by decide +kernel
theorem dX7_ofWire_4 : decode cX7_ofWire 4 = .ok (.ifCond .ne 5, 3) := by decide +kernel
theorem dX7_ofWire_7 : decode cX7_ofWire 7 = .ok (.iconst (-1), 1) := by decide +kernel
theorem dX7_ofWire_8 : decode cX7_ofWire 8 = .ok (.ireturn, 1) := by decide +kernel
theorem dX7_ofWire_9 : decode cX7_ofWire 9 = .ok (.iload_n 2, 1) := by decide +kernel
theorem dX7_ofWire_10 : decode cX7_ofWire 10 = .ok (.tableswitch 118 0 6 #[42, 52, 69, 78, 89, 98, 108], 42) := by decide +kernel
theorem dX7_ofWire_52 : decode cX7_ofWire 52 = .ok (.aload_n 0, 1) := by decide +kernel
theorem dX7_ofWire_53 : decode cX7_ofWire 53 = .ok (.getfield 10, 3) := by decide +kernel
theorem dX7_ofWire_56 : decode cX7_ofWire 56 = .ok (.getfield 81, 3) := by decide +kernel
theorem dX7_ofWire_59 : decode cX7_ofWire 59 = .ok (.iload_n 1, 1) := by decide +kernel
theorem dX7_ofWire_60 : decode cX7_ofWire 60 = .ok (.iaload, 1) := by decide +kernel
theorem dX7_ofWire_61 : decode cX7_ofWire 61 = .ok (.ireturn, 1) := by decide +kernel
theorem dX7_ofWire_62 : decode cX7_ofWire 62 = .ok (.aload_n 0, 1) := by decide +kernel
theorem dX7_ofWire_63 : decode cX7_ofWire 63 = .ok (.getfield 10, 3) := by decide +kernel
theorem dX7_ofWire_66 : decode cX7_ofWire 66 = .ok (.iload_n 1, 1) := by decide +kernel
theorem dX7_ofWire_67 : decode cX7_ofWire 67 = .ok (.invokevirtual 85, 3) := by decide +kernel
theorem dX7_ofWire_70 : decode cX7_ofWire 70 = .ok (.ifCond .eq 7, 3) := by decide +kernel
theorem dX7_ofWire_73 : decode cX7_ofWire 73 = .ok (.iconst 1, 1) := by decide +kernel
theorem dX7_ofWire_74 : decode cX7_ofWire 74 = .ok (.goto 4, 3) := by decide +kernel
theorem dX7_ofWire_77 : decode cX7_ofWire 77 = .ok (.iconst 0, 1) := by decide +kernel
theorem dX7_ofWire_78 : decode cX7_ofWire 78 = .ok (.ireturn, 1) := by decide +kernel
theorem dX7_ofWire_79 : decode cX7_ofWire 79 = .ok (.aload_n 0, 1) := by decide +kernel
theorem dX7_ofWire_80 : decode cX7_ofWire 80 = .ok (.getfield 10, 3) := by decide +kernel
theorem dX7_ofWire_83 : decode cX7_ofWire 83 = .ok (.iload_n 1, 1) := by decide +kernel
theorem dX7_ofWire_84 : decode cX7_ofWire 84 = .ok (.invokevirtual 88, 3) := by decide +kernel
theorem dX7_ofWire_87 : decode cX7_ofWire 87 = .ok (.ireturn, 1) := by decide +kernel
theorem dX7_ofWire_88 : decode cX7_ofWire 88 = .ok (.aload_n 0, 1) := by decide +kernel
theorem dX7_ofWire_89 : decode cX7_ofWire 89 = .ok (.getfield 10, 3) := by decide +kernel
theorem dX7_ofWire_92 : decode cX7_ofWire 92 = .ok (.iconst 1, 1) := by decide +kernel
theorem dX7_ofWire_93 : decode cX7_ofWire 93 = .ok (.iload_n 1, 1) := by decide +kernel
theorem dX7_ofWire_94 : decode cX7_ofWire 94 = .ok (.ishl, 1) := by decide +kernel
theorem dX7_ofWire_95 : decode cX7_ofWire 95 = .ok (.invokevirtual 91, 3) := by decide +kernel
theorem dX7_ofWire_98 : decode cX7_ofWire 98 = .ok (.ireturn, 1) := by decide +kernel
theorem dX7_ofWire_99 : decode cX7_ofWire 99 = .ok (.aload_n 0, 1) := by decide +kernel
theorem dX7_ofWire_100 : decode cX7_ofWire 100 = .ok (.getfield 10, 3) := by decide +kernel
theorem dX7_ofWire_103 : decode cX7_ofWire 103 = .ok (.iload_n 1, 1) := by decide +kernel
theorem dX7_ofWire_104 : decode cX7_ofWire 104 = .ok (.invokevirtual 94, 3) := by decide +kernel
theorem dX7_ofWire_107 : decode cX7_ofWire 107 = .ok (.ireturn, 1) := by decide +kernel
theorem dX7_ofWire_108 : decode cX7_ofWire 108 = .ok (.aload_n 0, 1) := by decide +kernel
theorem dX7_ofWire_109 : decode cX7_ofWire 109 = .ok (.getfield 10, 3) := by decide +kernel
theorem dX7_ofWire_112 : decode cX7_ofWire 112 = .ok (.getfield 97, 3) := by decide +kernel
theorem dX7_ofWire_115 : decode cX7_ofWire 115 = .ok (.iload_n 1, 1) := by decide +kernel
theorem dX7_ofWire_116 : decode cX7_ofWire 116 = .ok (.iaload, 1) := by decide +kernel
theorem dX7_ofWire_117 : decode cX7_ofWire 117 = .ok (.ireturn, 1) := by decide +kernel
theorem dX7_ofWire_118 : decode cX7_ofWire 118 = .ok (.aload_n 0, 1) := by decide +kernel
theorem dX7_ofWire_119 : decode cX7_ofWire 119 = .ok (.getfield 10, 3) := by decide +kernel
theorem dX7_ofWire_122 : decode cX7_ofWire 122 = .ok (.getfield 100, 3) := by decide +kernel
theorem dX7_ofWire_125 : decode cX7_ofWire 125 = .ok (.iload_n 1, 1) := by decide +kernel
theorem dX7_ofWire_126 : decode cX7_ofWire 126 = .ok (.iaload, 1) := by decide +kernel
theorem dX7_ofWire_127 : decode cX7_ofWire 127 = .ok (.ireturn, 1) := by decide +kernel
theorem dX7_ofWire_128 : decode cX7_ofWire 128 = .ok (.bipush (-2), 2) := by decide +kernel
theorem dX7_ofWire_130 : decode cX7_ofWire 130 = .ok (.ireturn, 1) := by decide +kernel
theorem dX7_of_0 : decode cX7_of 0 = .ok (.aload_n 0, 1) := by decide +kernel
theorem dX7_of_1 : decode cX7_of 1 = .ok (.getfield 10, 3) := by decide +kernel
theorem dX7_of_4 : decode cX7_of 4 = .ok (.iload_n 1, 1) := by decide +kernel
theorem dX7_of_5 : decode cX7_of 5 = .ok (.invokevirtual 103, 3) := by decide +kernel
theorem dX7_of_8 : decode cX7_of 8 = .ok (.astore_n 3, 1) := by decide +kernel
theorem dX7_of_9 : decode cX7_of 9 = .ok (.aload_n 3, 1) := by decide +kernel
theorem dX7_of_10 : decode cX7_of 10 = .ok (.ifnonnull 7, 3) := by decide +kernel
theorem dX7_of_13 : decode cX7_of 13 = .ok (.iconst (-1), 1) := by decide +kernel
theorem dX7_of_14 : decode cX7_of 14 = .ok (.goto 8, 3) := by decide +kernel
theorem dX7_of_17 : decode cX7_of 17 = .ok (.aload_n 3, 1) := by decide +kernel
theorem dX7_of_18 : decode cX7_of 18 = .ok (.iload_n 2, 1) := by decide +kernel
theorem dX7_of_19 : decode cX7_of 19 = .ok (.invokevirtual 107, 3) := by decide +kernel
theorem dX7_of_22 : decode cX7_of 22 = .ok (.ireturn, 1) := by decide +kernel
theorem dX7_row_0 : decode cX7_row 0 = .ok (.aload_n 0, 1) := by decide +kernel
theorem dX7_row_1 : decode cX7_row 1 = .ok (.getfield 10, 3) := by decide +kernel
theorem dX7_row_4 : decode cX7_row 4 = .ok (.iload_n 1, 1) := by decide +kernel
theorem dX7_row_5 : decode cX7_row 5 = .ok (.invokevirtual 103, 3) := by decide +kernel
theorem dX7_row_8 : decode cX7_row 8 = .ok (.astore 4, 2) := by decide +kernel
theorem dX7_row_10 : decode cX7_row 10 = .ok (.aload 4, 2) := by decide +kernel
theorem dX7_row_12 : decode cX7_row 12 = .ok (.ifnull 15, 3) := by decide +kernel
theorem dX7_row_15 : decode cX7_row 15 = .ok (.aload 4, 2) := by decide +kernel
theorem dX7_row_17 : decode cX7_row 17 = .ok (.getfield 112, 3) := by decide +kernel
theorem dX7_row_20 : decode cX7_row 20 = .ok (.iload_n 2, 1) := by decide +kernel
theorem dX7_row_21 : decode cX7_row 21 = .ok (.invokevirtual 116, 3) := by decide +kernel
theorem dX7_row_24 : decode cX7_row 24 = .ok (.ifCond .ne 5, 3) := by decide +kernel
theorem dX7_row_27 : decode cX7_row 27 = .ok (.iconst (-1), 1) := by decide +kernel
theorem dX7_row_28 : decode cX7_row 28 = .ok (.ireturn, 1) := by decide +kernel
theorem dX7_row_29 : decode cX7_row 29 = .ok (.iload_n 3, 1) := by decide +kernel
theorem dX7_row_30 : decode cX7_row 30 = .ok (.tableswitch 56 0 2 #[26, 36, 46], 26) := by decide +kernel
theorem dX7_row_56 : decode cX7_row 56 = .ok (.aload 4, 2) := by decide +kernel
theorem dX7_row_58 : decode cX7_row 58 = .ok (.getfield 112, 3) := by decide +kernel
theorem dX7_row_61 : decode cX7_row 61 = .ok (.iload_n 2, 1) := by decide +kernel
theorem dX7_row_62 : decode cX7_row 62 = .ok (.invokevirtual 121, 3) := by decide +kernel
theorem dX7_row_65 : decode cX7_row 65 = .ok (.ireturn, 1) := by decide +kernel
theorem dX7_row_66 : decode cX7_row 66 = .ok (.aload 4, 2) := by decide +kernel
theorem dX7_row_68 : decode cX7_row 68 = .ok (.getfield 112, 3) := by decide +kernel
theorem dX7_row_71 : decode cX7_row 71 = .ok (.iload_n 2, 1) := by decide +kernel
theorem dX7_row_72 : decode cX7_row 72 = .ok (.invokevirtual 124, 3) := by decide +kernel
theorem dX7_row_75 : decode cX7_row 75 = .ok (.ireturn, 1) := by decide +kernel
theorem dX7_row_76 : decode cX7_row 76 = .ok (.aload 4, 2) := by decide +kernel
theorem dX7_row_78 : decode cX7_row 78 = .ok (.getfield 112, 3) := by decide +kernel
theorem dX7_row_81 : decode cX7_row 81 = .ok (.iload_n 2, 1) := by decide +kernel
theorem dX7_row_82 : decode cX7_row 82 = .ok (.invokevirtual 127, 3) := by decide +kernel
theorem dX7_row_85 : decode cX7_row 85 = .ok (.ireturn, 1) := by decide +kernel
theorem dX7_row_86 : decode cX7_row 86 = .ok (.bipush (-2), 2) := by decide +kernel
theorem dX7_row_88 : decode cX7_row 88 = .ok (.ireturn, 1) := by decide +kernel
theorem dX7_heard_0 : decode cX7_heard 0 = .ok (.aload_n 0, 1) := by decide +kernel
theorem dX7_heard_1 : decode cX7_heard 1 = .ok (.getfield 10, 3) := by decide +kernel
theorem dX7_heard_4 : decode cX7_heard 4 = .ok (.iload_n 1, 1) := by decide +kernel
theorem dX7_heard_5 : decode cX7_heard 5 = .ok (.invokevirtual 103, 3) := by decide +kernel
theorem dX7_heard_8 : decode cX7_heard 8 = .ok (.astore 4, 2) := by decide +kernel
theorem dX7_heard_10 : decode cX7_heard 10 = .ok (.aload 4, 2) := by decide +kernel
theorem dX7_heard_12 : decode cX7_heard 12 = .ok (.ifnull 15, 3) := by decide +kernel
theorem dX7_heard_15 : decode cX7_heard 15 = .ok (.aload 4, 2) := by decide +kernel
theorem dX7_heard_17 : decode cX7_heard 17 = .ok (.getfield 130, 3) := by decide +kernel
theorem dX7_heard_20 : decode cX7_heard 20 = .ok (.iload_n 2, 1) := by decide +kernel
theorem dX7_heard_21 : decode cX7_heard 21 = .ok (.invokevirtual 134, 3) := by decide +kernel
theorem dX7_heard_24 : decode cX7_heard 24 = .ok (.ifCond .ne 5, 3) := by decide +kernel
theorem dX7_heard_27 : decode cX7_heard 27 = .ok (.iconst (-1), 1) := by decide +kernel
theorem dX7_heard_28 : decode cX7_heard 28 = .ok (.ireturn, 1) := by decide +kernel
theorem dX7_heard_29 : decode cX7_heard 29 = .ok (.aload 4, 2) := by decide +kernel
theorem dX7_heard_31 : decode cX7_heard 31 = .ok (.getfield 130, 3) := by decide +kernel
theorem dX7_heard_34 : decode cX7_heard 34 = .ok (.iload_n 2, 1) := by decide +kernel
theorem dX7_heard_35 : decode cX7_heard 35 = .ok (.iload_n 3, 1) := by decide +kernel
theorem dX7_heard_36 : decode cX7_heard 36 = .ok (.invokevirtual 137, 3) := by decide +kernel
theorem dX7_heard_39 : decode cX7_heard 39 = .ok (.ireturn, 1) := by decide +kernel
theorem dX7_count_0 : decode cX7_count 0 = .ok (.iload_n 1, 1) := by decide +kernel
theorem dX7_count_1 : decode cX7_count 1 = .ok (.tableswitch 202 0 16 #[83, 91, 99, 109, 117, 126, 136, 146, 156, 164, 173, 173, 173, 173, 173, 186, 194], 83) := by decide +kernel
theorem dX7_count_84 : decode cX7_count 84 = .ok (.aload_n 0, 1) := by decide +kernel
theorem dX7_count_85 : decode cX7_count 85 = .ok (.getfield 10, 3) := by decide +kernel
theorem dX7_count_88 : decode cX7_count 88 = .ok (.getfield 139, 3) := by decide +kernel
theorem dX7_count_91 : decode cX7_count 91 = .ok (.ireturn, 1) := by decide +kernel
theorem dX7_count_92 : decode cX7_count 92 = .ok (.aload_n 0, 1) := by decide +kernel
theorem dX7_count_93 : decode cX7_count 93 = .ok (.getfield 10, 3) := by decide +kernel
theorem dX7_count_96 : decode cX7_count 96 = .ok (.getfield 143, 3) := by decide +kernel
theorem dX7_count_99 : decode cX7_count 99 = .ok (.ireturn, 1) := by decide +kernel
theorem dX7_count_100 : decode cX7_count 100 = .ok (.aload_n 0, 1) := by decide +kernel
theorem dX7_count_101 : decode cX7_count 101 = .ok (.getfield 10, 3) := by decide +kernel
theorem dX7_count_104 : decode cX7_count 104 = .ok (.bipush 63, 2) := by decide +kernel
theorem dX7_count_106 : decode cX7_count 106 = .ok (.invokevirtual 91, 3) := by decide +kernel
theorem dX7_count_109 : decode cX7_count 109 = .ok (.ireturn, 1) := by decide +kernel
theorem dX7_count_110 : decode cX7_count 110 = .ok (.aload_n 0, 1) := by decide +kernel
theorem dX7_count_111 : decode cX7_count 111 = .ok (.getfield 10, 3) := by decide +kernel
theorem dX7_count_114 : decode cX7_count 114 = .ok (.invokevirtual 146, 3) := by decide +kernel
theorem dX7_count_117 : decode cX7_count 117 = .ok (.ireturn, 1) := by decide +kernel
theorem dX7_count_118 : decode cX7_count 118 = .ok (.aload_n 0, 1) := by decide +kernel
theorem dX7_count_119 : decode cX7_count 119 = .ok (.getfield 10, 3) := by decide +kernel
theorem dX7_count_122 : decode cX7_count 122 = .ok (.iconst 3, 1) := by decide +kernel
theorem dX7_count_123 : decode cX7_count 123 = .ok (.invokevirtual 150, 3) := by decide +kernel
theorem dX7_count_126 : decode cX7_count 126 = .ok (.ireturn, 1) := by decide +kernel
theorem dX7_count_127 : decode cX7_count 127 = .ok (.aload_n 0, 1) := by decide +kernel
theorem dX7_count_128 : decode cX7_count 128 = .ok (.getfield 10, 3) := by decide +kernel
theorem dX7_count_131 : decode cX7_count 131 = .ok (.bipush 6, 2) := by decide +kernel
theorem dX7_count_133 : decode cX7_count 133 = .ok (.invokevirtual 150, 3) := by decide +kernel
theorem dX7_count_136 : decode cX7_count 136 = .ok (.ireturn, 1) := by decide +kernel
theorem dX7_count_137 : decode cX7_count 137 = .ok (.aload_n 0, 1) := by decide +kernel
theorem dX7_count_138 : decode cX7_count 138 = .ok (.getfield 10, 3) := by decide +kernel
theorem dX7_count_141 : decode cX7_count 141 = .ok (.bipush 7, 2) := by decide +kernel
theorem dX7_count_143 : decode cX7_count 143 = .ok (.invokevirtual 150, 3) := by decide +kernel
theorem dX7_count_146 : decode cX7_count 146 = .ok (.ireturn, 1) := by decide +kernel
theorem dX7_count_147 : decode cX7_count 147 = .ok (.aload_n 0, 1) := by decide +kernel
theorem dX7_count_148 : decode cX7_count 148 = .ok (.getfield 10, 3) := by decide +kernel
theorem dX7_count_151 : decode cX7_count 151 = .ok (.bipush 9, 2) := by decide +kernel
theorem dX7_count_153 : decode cX7_count 153 = .ok (.invokevirtual 150, 3) := by decide +kernel
theorem dX7_count_156 : decode cX7_count 156 = .ok (.ireturn, 1) := by decide +kernel
theorem dX7_count_157 : decode cX7_count 157 = .ok (.aload_n 0, 1) := by decide +kernel
theorem dX7_count_158 : decode cX7_count 158 = .ok (.getfield 10, 3) := by decide +kernel
theorem dX7_count_161 : decode cX7_count 161 = .ok (.getfield 153, 3) := by decide +kernel
theorem dX7_count_164 : decode cX7_count 164 = .ok (.ireturn, 1) := by decide +kernel
theorem dX7_count_165 : decode cX7_count 165 = .ok (.aload_n 0, 1) := by decide +kernel
theorem dX7_count_166 : decode cX7_count 166 = .ok (.getfield 10, 3) := by decide +kernel
theorem dX7_count_169 : decode cX7_count 169 = .ok (.iconst 1, 1) := by decide +kernel
theorem dX7_count_170 : decode cX7_count 170 = .ok (.invokevirtual 150, 3) := by decide +kernel
theorem dX7_count_173 : decode cX7_count 173 = .ok (.ireturn, 1) := by decide +kernel
theorem dX7_count_174 : decode cX7_count 174 = .ok (.aload_n 0, 1) := by decide +kernel
theorem dX7_count_175 : decode cX7_count 175 = .ok (.getfield 10, 3) := by decide +kernel
theorem dX7_count_178 : decode cX7_count 178 = .ok (.getfield 156, 3) := by decide +kernel
theorem dX7_count_181 : decode cX7_count 181 = .ok (.iload_n 1, 1) := by decide +kernel
theorem dX7_count_182 : decode cX7_count 182 = .ok (.bipush 10, 2) := by decide +kernel
theorem dX7_count_184 : decode cX7_count 184 = .ok (.isub, 1) := by decide +kernel
theorem dX7_count_185 : decode cX7_count 185 = .ok (.iaload, 1) := by decide +kernel
theorem dX7_count_186 : decode cX7_count 186 = .ok (.ireturn, 1) := by decide +kernel
theorem dX7_count_187 : decode cX7_count 187 = .ok (.aload_n 0, 1) := by decide +kernel
theorem dX7_count_188 : decode cX7_count 188 = .ok (.getfield 33, 3) := by decide +kernel
theorem dX7_count_191 : decode cX7_count 191 = .ok (.getfield 159, 3) := by decide +kernel
theorem dX7_count_194 : decode cX7_count 194 = .ok (.ireturn, 1) := by decide +kernel
theorem dX7_count_195 : decode cX7_count 195 = .ok (.aload_n 0, 1) := by decide +kernel
theorem dX7_count_196 : decode cX7_count 196 = .ok (.getfield 22, 3) := by decide +kernel
theorem dX7_count_199 : decode cX7_count 199 = .ok (.getfield 162, 3) := by decide +kernel
theorem dX7_count_202 : decode cX7_count 202 = .ok (.ireturn, 1) := by decide +kernel
theorem dX7_count_203 : decode cX7_count 203 = .ok (.bipush (-2), 2) := by decide +kernel
theorem dX7_count_205 : decode cX7_count 205 = .ok (.ireturn, 1) := by decide +kernel
theorem dX7_why_0 : decode cX7_why 0 = .ok (.aload_n 0, 1) := by decide +kernel
theorem dX7_why_1 : decode cX7_why 1 = .ok (.getfield 10, 3) := by decide +kernel
theorem dX7_why_4 : decode cX7_why 4 = .ok (.iload_n 1, 1) := by decide +kernel
theorem dX7_why_5 : decode cX7_why 5 = .ok (.invokevirtual 103, 3) := by decide +kernel
theorem dX7_why_8 : decode cX7_why 8 = .ok (.astore_n 2, 1) := by decide +kernel
theorem dX7_why_9 : decode cX7_why 9 = .ok (.aload_n 2, 1) := by decide +kernel
theorem dX7_why_10 : decode cX7_why 10 = .ok (.ifnonnull 5, 3) := by decide +kernel
theorem dX7_why_13 : decode cX7_why 13 = .ok (.iconst (-1), 1) := by decide +kernel
theorem dX7_why_14 : decode cX7_why 14 = .ok (.ireturn, 1) := by decide +kernel
theorem dX7_why_15 : decode cX7_why 15 = .ok (.aload_n 2, 1) := by decide +kernel
theorem dX7_why_16 : decode cX7_why 16 = .ok (.invokevirtual 163, 3) := by decide +kernel
theorem dX7_why_19 : decode cX7_why 19 = .ok (.ifCond .eq 5, 3) := by decide +kernel
theorem dX7_why_22 : decode cX7_why 22 = .ok (.iconst 1, 1) := by decide +kernel
theorem dX7_why_23 : decode cX7_why 23 = .ok (.ireturn, 1) := by decide +kernel
theorem dX7_why_24 : decode cX7_why 24 = .ok (.aload_n 2, 1) := by decide +kernel
theorem dX7_why_25 : decode cX7_why 25 = .ok (.getfield 167, 3) := by decide +kernel
theorem dX7_why_28 : decode cX7_why 28 = .ok (.ifCond .eq 5, 3) := by decide +kernel
theorem dX7_why_31 : decode cX7_why 31 = .ok (.iconst 2, 1) := by decide +kernel
theorem dX7_why_32 : decode cX7_why 32 = .ok (.ireturn, 1) := by decide +kernel
theorem dX7_why_33 : decode cX7_why 33 = .ok (.aload_n 2, 1) := by decide +kernel
theorem dX7_why_34 : decode cX7_why 34 = .ok (.getfield 171, 3) := by decide +kernel
theorem dX7_why_37 : decode cX7_why 37 = .ok (.ifCond .eq 5, 3) := by decide +kernel
theorem dX7_why_40 : decode cX7_why 40 = .ok (.iconst 3, 1) := by decide +kernel
theorem dX7_why_41 : decode cX7_why 41 = .ok (.ireturn, 1) := by decide +kernel
theorem dX7_why_42 : decode cX7_why 42 = .ok (.aload_n 2, 1) := by decide +kernel
theorem dX7_why_43 : decode cX7_why 43 = .ok (.getfield 112, 3) := by decide +kernel
theorem dX7_why_46 : decode cX7_why 46 = .ok (.getfield 174, 3) := by decide +kernel
theorem dX7_why_49 : decode cX7_why 49 = .ok (.ifCond .ne 5, 3) := by decide +kernel
theorem dX7_why_52 : decode cX7_why 52 = .ok (.iconst 4, 1) := by decide +kernel
theorem dX7_why_53 : decode cX7_why 53 = .ok (.ireturn, 1) := by decide +kernel
theorem dX7_why_54 : decode cX7_why 54 = .ok (.aload_n 2, 1) := by decide +kernel
theorem dX7_why_55 : decode cX7_why 55 = .ok (.getfield 112, 3) := by decide +kernel
theorem dX7_why_58 : decode cX7_why 58 = .ok (.iconst 0, 1) := by decide +kernel
theorem dX7_why_59 : decode cX7_why 59 = .ok (.invokevirtual 124, 3) := by decide +kernel
theorem dX7_why_62 : decode cX7_why 62 = .ok (.istore_n 3, 1) := by decide +kernel
theorem dX7_why_63 : decode cX7_why 63 = .ok (.aload_n 0, 1) := by decide +kernel
theorem dX7_why_64 : decode cX7_why 64 = .ok (.getfield 10, 3) := by decide +kernel
theorem dX7_why_67 : decode cX7_why 67 = .ok (.iload_n 3, 1) := by decide +kernel
theorem dX7_why_68 : decode cX7_why 68 = .ok (.invokevirtual 175, 3) := by decide +kernel
theorem dX7_why_71 : decode cX7_why 71 = .ok (.ifCond .eq 5, 3) := by decide +kernel
theorem dX7_why_74 : decode cX7_why 74 = .ok (.iconst 0, 1) := by decide +kernel
theorem dX7_why_75 : decode cX7_why 75 = .ok (.ireturn, 1) := by decide +kernel
theorem dX7_why_76 : decode cX7_why 76 = .ok (.aload_n 0, 1) := by decide +kernel
theorem dX7_why_77 : decode cX7_why 77 = .ok (.getfield 10, 3) := by decide +kernel
theorem dX7_why_80 : decode cX7_why 80 = .ok (.iload_n 3, 1) := by decide +kernel
theorem dX7_why_81 : decode cX7_why 81 = .ok (.invokevirtual 85, 3) := by decide +kernel
theorem dX7_why_84 : decode cX7_why 84 = .ok (.ifCond .eq 7, 3) := by decide +kernel
theorem dX7_why_87 : decode cX7_why 87 = .ok (.iconst 5, 1) := by decide +kernel
theorem dX7_why_88 : decode cX7_why 88 = .ok (.goto 5, 3) := by decide +kernel
theorem dX7_why_91 : decode cX7_why 91 = .ok (.bipush 6, 2) := by decide +kernel
theorem dX7_why_93 : decode cX7_why 93 = .ok (.ireturn, 1) := by decide +kernel
theorem dX7_endsIn_0 : decode cX7_endsIn 0 = .ok (.aload_n 0, 1) := by decide +kernel
theorem dX7_endsIn_1 : decode cX7_endsIn 1 = .ok (.getfield 10, 3) := by decide +kernel
theorem dX7_endsIn_4 : decode cX7_endsIn 4 = .ok (.iload_n 1, 1) := by decide +kernel
theorem dX7_endsIn_5 : decode cX7_endsIn 5 = .ok (.invokevirtual 103, 3) := by decide +kernel
theorem dX7_endsIn_8 : decode cX7_endsIn 8 = .ok (.astore_n 3, 1) := by decide +kernel
theorem dX7_endsIn_9 : decode cX7_endsIn 9 = .ok (.aload_n 3, 1) := by decide +kernel
theorem dX7_endsIn_10 : decode cX7_endsIn 10 = .ok (.ifnonnull 5, 3) := by decide +kernel
theorem dX7_endsIn_13 : decode cX7_endsIn 13 = .ok (.iconst (-1), 1) := by decide +kernel
theorem dX7_endsIn_14 : decode cX7_endsIn 14 = .ok (.ireturn, 1) := by decide +kernel
theorem dX7_endsIn_15 : decode cX7_endsIn 15 = .ok (.iload_n 2, 1) := by decide +kernel
theorem dX7_endsIn_16 : decode cX7_endsIn 16 = .ok (.ifCond .lt 8, 3) := by decide +kernel
theorem dX7_endsIn_19 : decode cX7_endsIn 19 = .ok (.iload_n 2, 1) := by decide +kernel
theorem dX7_endsIn_20 : decode cX7_endsIn 20 = .ok (.iconst 1, 1) := by decide +kernel
theorem dX7_endsIn_21 : decode cX7_endsIn 21 = .ok (.if_icmp .le 6, 3) := by decide +kernel
theorem dX7_endsIn_24 : decode cX7_endsIn 24 = .ok (.bipush (-2), 2) := by decide +kernel
theorem dX7_endsIn_26 : decode cX7_endsIn 26 = .ok (.ireturn, 1) := by decide +kernel
theorem dX7_endsIn_27 : decode cX7_endsIn 27 = .ok (.aload_n 3, 1) := by decide +kernel
theorem dX7_endsIn_28 : decode cX7_endsIn 28 = .ok (.getfield 112, 3) := by decide +kernel
theorem dX7_endsIn_31 : decode cX7_endsIn 31 = .ok (.getfield 174, 3) := by decide +kernel
theorem dX7_endsIn_34 : decode cX7_endsIn 34 = .ok (.ifCond .ne 6, 3) := by decide +kernel
theorem dX7_endsIn_37 : decode cX7_endsIn 37 = .ok (.bipush (-5), 2) := by decide +kernel
theorem dX7_endsIn_39 : decode cX7_endsIn 39 = .ok (.ireturn, 1) := by decide +kernel
theorem dX7_endsIn_40 : decode cX7_endsIn 40 = .ok (.aload_n 0, 1) := by decide +kernel
theorem dX7_endsIn_41 : decode cX7_endsIn 41 = .ok (.getfield 16, 3) := by decide +kernel
theorem dX7_endsIn_44 : decode cX7_endsIn 44 = .ok (.aload_n 0, 1) := by decide +kernel
theorem dX7_endsIn_45 : decode cX7_endsIn 45 = .ok (.getfield 10, 3) := by decide +kernel
theorem dX7_endsIn_48 : decode cX7_endsIn 48 = .ok (.invokevirtual 178, 3) := by decide +kernel
theorem dX7_endsIn_51 : decode cX7_endsIn 51 = .ok (.aload_n 0, 1) := by decide +kernel
theorem dX7_endsIn_52 : decode cX7_endsIn 52 = .ok (.getfield 16, 3) := by decide +kernel
theorem dX7_endsIn_55 : decode cX7_endsIn 55 = .ok (.iload_n 1, 1) := by decide +kernel
theorem dX7_endsIn_56 : decode cX7_endsIn 56 = .ok (.invokevirtual 103, 3) := by decide +kernel
theorem dX7_endsIn_59 : decode cX7_endsIn 59 = .ok (.astore 4, 2) := by decide +kernel
theorem dX7_endsIn_61 : decode cX7_endsIn 61 = .ok (.aload 4, 2) := by decide +kernel
theorem dX7_endsIn_63 : decode cX7_endsIn 63 = .ok (.ifnonnull 5, 3) := by decide +kernel
theorem dX7_endsIn_66 : decode cX7_endsIn 66 = .ok (.iconst (-1), 1) := by decide +kernel
theorem dX7_endsIn_67 : decode cX7_endsIn 67 = .ok (.ireturn, 1) := by decide +kernel
theorem dX7_endsIn_68 : decode cX7_endsIn 68 = .ok (.iconst 1, 1) := by decide +kernel
theorem dX7_endsIn_69 : decode cX7_endsIn 69 = .ok (.istore 5, 2) := by decide +kernel
theorem dX7_endsIn_71 : decode cX7_endsIn 71 = .ok (.iload 5, 2) := by decide +kernel
theorem dX7_endsIn_73 : decode cX7_endsIn 73 = .ok (.sipush 600, 3) := by decide +kernel
theorem dX7_endsIn_76 : decode cX7_endsIn 76 = .ok (.if_icmp .gt 63, 3) := by decide +kernel
theorem dX7_endsIn_79 : decode cX7_endsIn 79 = .ok (.aload_n 0, 1) := by decide +kernel
theorem dX7_endsIn_80 : decode cX7_endsIn 80 = .ok (.getfield 16, 3) := by decide +kernel
theorem dX7_endsIn_83 : decode cX7_endsIn 83 = .ok (.invokevirtual 181, 3) := by decide +kernel
theorem dX7_endsIn_86 : decode cX7_endsIn 86 = .ok (.pop, 1) := by decide +kernel
theorem dX7_endsIn_87 : decode cX7_endsIn 87 = .ok (.aload 4, 2) := by decide +kernel
theorem dX7_endsIn_89 : decode cX7_endsIn 89 = .ok (.getfield 184, 3) := by decide +kernel
theorem dX7_endsIn_92 : decode cX7_endsIn 92 = .ok (.aload_n 3, 1) := by decide +kernel
theorem dX7_endsIn_93 : decode cX7_endsIn 93 = .ok (.getfield 184, 3) := by decide +kernel
theorem dX7_endsIn_96 : decode cX7_endsIn 96 = .ok (.if_icmp .eq 14, 3) := by decide +kernel
theorem dX7_endsIn_99 : decode cX7_endsIn 99 = .ok (.iload_n 2, 1) := by decide +kernel
theorem dX7_endsIn_100 : decode cX7_endsIn 100 = .ok (.ifCond .ne 8, 3) := by decide +kernel
theorem dX7_endsIn_103 : decode cX7_endsIn 103 = .ok (.iload 5, 2) := by decide +kernel
theorem dX7_endsIn_105 : decode cX7_endsIn 105 = .ok (.goto 4, 3) := by decide +kernel
theorem dX7_endsIn_108 : decode cX7_endsIn 108 = .ok (.iconst 1, 1) := by decide +kernel
theorem dX7_endsIn_109 : decode cX7_endsIn 109 = .ok (.ireturn, 1) := by decide +kernel
theorem dX7_endsIn_110 : decode cX7_endsIn 110 = .ok (.aload 4, 2) := by decide +kernel
theorem dX7_endsIn_112 : decode cX7_endsIn 112 = .ok (.getfield 187, 3) := by decide +kernel
theorem dX7_endsIn_115 : decode cX7_endsIn 115 = .ok (.aload_n 3, 1) := by decide +kernel
theorem dX7_endsIn_116 : decode cX7_endsIn 116 = .ok (.getfield 187, 3) := by decide +kernel
theorem dX7_endsIn_119 : decode cX7_endsIn 119 = .ok (.if_icmp .eq 14, 3) := by decide +kernel
theorem dX7_endsIn_122 : decode cX7_endsIn 122 = .ok (.iload_n 2, 1) := by decide +kernel
theorem dX7_endsIn_123 : decode cX7_endsIn 123 = .ok (.ifCond .ne 8, 3) := by decide +kernel
theorem dX7_endsIn_126 : decode cX7_endsIn 126 = .ok (.iload 5, 2) := by decide +kernel
theorem dX7_endsIn_128 : decode cX7_endsIn 128 = .ok (.goto 4, 3) := by decide +kernel
theorem dX7_endsIn_131 : decode cX7_endsIn 131 = .ok (.iconst 2, 1) := by decide +kernel
theorem dX7_endsIn_132 : decode cX7_endsIn 132 = .ok (.ireturn, 1) := by decide +kernel
theorem dX7_endsIn_133 : decode cX7_endsIn 133 = .ok (.iinc 5 1, 3) := by decide +kernel
theorem dX7_endsIn_136 : decode cX7_endsIn 136 = .ok (.goto (-65), 3) := by decide +kernel
theorem dX7_endsIn_139 : decode cX7_endsIn 139 = .ok (.bipush (-6), 2) := by decide +kernel
theorem dX7_endsIn_141 : decode cX7_endsIn 141 = .ok (.ireturn, 1) := by decide +kernel
theorem dX7_quietIn_0 : decode cX7_quietIn 0 = .ok (.aload_n 0, 1) := by decide +kernel
theorem dX7_quietIn_1 : decode cX7_quietIn 1 = .ok (.getfield 16, 3) := by decide +kernel
theorem dX7_quietIn_4 : decode cX7_quietIn 4 = .ok (.aload_n 0, 1) := by decide +kernel
theorem dX7_quietIn_5 : decode cX7_quietIn 5 = .ok (.getfield 10, 3) := by decide +kernel
theorem dX7_quietIn_8 : decode cX7_quietIn 8 = .ok (.invokevirtual 178, 3) := by decide +kernel
theorem dX7_quietIn_11 : decode cX7_quietIn 11 = .ok (.iconst 0, 1) := by decide +kernel
theorem dX7_quietIn_12 : decode cX7_quietIn 12 = .ok (.istore_n 1, 1) := by decide +kernel
theorem dX7_quietIn_13 : decode cX7_quietIn 13 = .ok (.iload_n 1, 1) := by decide +kernel
theorem dX7_quietIn_14 : decode cX7_quietIn 14 = .ok (.sipush 900, 3) := by decide +kernel
theorem dX7_quietIn_17 : decode cX7_quietIn 17 = .ok (.if_icmp .gt 29, 3) := by decide +kernel
theorem dX7_quietIn_20 : decode cX7_quietIn 20 = .ok (.aload_n 0, 1) := by decide +kernel
theorem dX7_quietIn_21 : decode cX7_quietIn 21 = .ok (.getfield 16, 3) := by decide +kernel
theorem dX7_quietIn_24 : decode cX7_quietIn 24 = .ok (.invokevirtual 190, 3) := by decide +kernel
theorem dX7_quietIn_27 : decode cX7_quietIn 27 = .ok (.ifCond .ne 5, 3) := by decide +kernel
theorem dX7_quietIn_30 : decode cX7_quietIn 30 = .ok (.iload_n 1, 1) := by decide +kernel
theorem dX7_quietIn_31 : decode cX7_quietIn 31 = .ok (.ireturn, 1) := by decide +kernel
theorem dX7_quietIn_32 : decode cX7_quietIn 32 = .ok (.aload_n 0, 1) := by decide +kernel
theorem dX7_quietIn_33 : decode cX7_quietIn 33 = .ok (.getfield 16, 3) := by decide +kernel
theorem dX7_quietIn_36 : decode cX7_quietIn 36 = .ok (.invokevirtual 181, 3) := by decide +kernel
theorem dX7_quietIn_39 : decode cX7_quietIn 39 = .ok (.pop, 1) := by decide +kernel
theorem dX7_quietIn_40 : decode cX7_quietIn 40 = .ok (.iinc 1 1, 3) := by decide +kernel
theorem dX7_quietIn_43 : decode cX7_quietIn 43 = .ok (.goto (-30), 3) := by decide +kernel
theorem dX7_quietIn_46 : decode cX7_quietIn 46 = .ok (.bipush (-6), 2) := by decide +kernel
theorem dX7_quietIn_48 : decode cX7_quietIn 48 = .ok (.ireturn, 1) := by decide +kernel
theorem dX7_bestRest_0 : decode cX7_bestRest 0 = .ok (.iload_n 1, 1) := by decide +kernel
theorem dX7_bestRest_1 : decode cX7_bestRest 1 = .ok (.iconst 1, 1) := by decide +kernel
theorem dX7_bestRest_2 : decode cX7_bestRest 2 = .ok (.if_icmp .lt 19, 3) := by decide +kernel
theorem dX7_bestRest_5 : decode cX7_bestRest 5 = .ok (.iload_n 1, 1) := by decide +kernel
theorem dX7_bestRest_6 : decode cX7_bestRest 6 = .ok (.sipush 200, 3) := by decide +kernel
theorem dX7_bestRest_9 : decode cX7_bestRest 9 = .ok (.if_icmp .gt 12, 3) := by decide +kernel
theorem dX7_bestRest_12 : decode cX7_bestRest 12 = .ok (.iload_n 2, 1) := by decide +kernel
theorem dX7_bestRest_13 : decode cX7_bestRest 13 = .ok (.ifCond .lt 8, 3) := by decide +kernel
theorem dX7_bestRest_16 : decode cX7_bestRest 16 = .ok (.iload_n 2, 1) := by decide +kernel
theorem dX7_bestRest_17 : decode cX7_bestRest 17 = .ok (.iconst 1, 1) := by decide +kernel
theorem dX7_bestRest_18 : decode cX7_bestRest 18 = .ok (.if_icmp .le 6, 3) := by decide +kernel
theorem dX7_bestRest_21 : decode cX7_bestRest 21 = .ok (.bipush (-2), 2) := by decide +kernel
theorem dX7_bestRest_23 : decode cX7_bestRest 23 = .ok (.ireturn, 1) := by decide +kernel
theorem dX7_bestRest_24 : decode cX7_bestRest 24 = .ok (.getstatic 193, 3) := by decide +kernel
theorem dX7_bestRest_27 : decode cX7_bestRest 27 = .ok (.iconst 0, 1) := by decide +kernel
theorem dX7_bestRest_28 : decode cX7_bestRest 28 = .ok (.iaload, 1) := by decide +kernel
theorem dX7_bestRest_29 : decode cX7_bestRest 29 = .ok (.istore_n 3, 1) := by decide +kernel
theorem dX7_bestRest_30 : decode cX7_bestRest 30 = .ok (.iconst 0, 1) := by decide +kernel
theorem dX7_bestRest_31 : decode cX7_bestRest 31 = .ok (.istore 4, 2) := by decide +kernel
theorem dX7_bestRest_33 : decode cX7_bestRest 33 = .ok (.getstatic 193, 3) := by decide +kernel
theorem dX7_bestRest_36 : decode cX7_bestRest 36 = .ok (.iconst 0, 1) := by decide +kernel
theorem dX7_bestRest_37 : decode cX7_bestRest 37 = .ok (.iaload, 1) := by decide +kernel
theorem dX7_bestRest_38 : decode cX7_bestRest 38 = .ok (.istore 5, 2) := by decide +kernel
theorem dX7_bestRest_40 : decode cX7_bestRest 40 = .ok (.iload 5, 2) := by decide +kernel
theorem dX7_bestRest_42 : decode cX7_bestRest 42 = .ok (.getstatic 196, 3) := by decide +kernel
theorem dX7_bestRest_45 : decode cX7_bestRest 45 = .ok (.iconst 0, 1) := by decide +kernel
theorem dX7_bestRest_46 : decode cX7_bestRest 46 = .ok (.iaload, 1) := by decide +kernel
theorem dX7_bestRest_47 : decode cX7_bestRest 47 = .ok (.if_icmp .gt 32, 3) := by decide +kernel
theorem dX7_bestRest_50 : decode cX7_bestRest 50 = .ok (.aload_n 0, 1) := by decide +kernel
theorem dX7_bestRest_51 : decode cX7_bestRest 51 = .ok (.iload 5, 2) := by decide +kernel
theorem dX7_bestRest_53 : decode cX7_bestRest 53 = .ok (.iload_n 1, 1) := by decide +kernel
theorem dX7_bestRest_54 : decode cX7_bestRest 54 = .ok (.invokevirtual 199, 3) := by decide +kernel
theorem dX7_bestRest_57 : decode cX7_bestRest 57 = .ok (.istore 6, 2) := by decide +kernel
theorem dX7_bestRest_59 : decode cX7_bestRest 59 = .ok (.iload 6, 2) := by decide +kernel
theorem dX7_bestRest_61 : decode cX7_bestRest 61 = .ok (.iload 4, 2) := by decide +kernel
theorem dX7_bestRest_63 : decode cX7_bestRest 63 = .ok (.if_icmp .lt 10, 3) := by decide +kernel
theorem dX7_bestRest_66 : decode cX7_bestRest 66 = .ok (.iload 5, 2) := by decide +kernel
theorem dX7_bestRest_68 : decode cX7_bestRest 68 = .ok (.istore_n 3, 1) := by decide +kernel
theorem dX7_bestRest_69 : decode cX7_bestRest 69 = .ok (.iload 6, 2) := by decide +kernel
theorem dX7_bestRest_71 : decode cX7_bestRest 71 = .ok (.istore 4, 2) := by decide +kernel
theorem dX7_bestRest_73 : decode cX7_bestRest 73 = .ok (.iinc 5 1, 3) := by decide +kernel
theorem dX7_bestRest_76 : decode cX7_bestRest 76 = .ok (.goto (-36), 3) := by decide +kernel
theorem dX7_bestRest_79 : decode cX7_bestRest 79 = .ok (.iload_n 2, 1) := by decide +kernel
theorem dX7_bestRest_80 : decode cX7_bestRest 80 = .ok (.ifCond .ne 7, 3) := by decide +kernel
theorem dX7_bestRest_83 : decode cX7_bestRest 83 = .ok (.iload_n 3, 1) := by decide +kernel
theorem dX7_bestRest_84 : decode cX7_bestRest 84 = .ok (.goto 5, 3) := by decide +kernel
theorem dX7_bestRest_87 : decode cX7_bestRest 87 = .ok (.iload 4, 2) := by decide +kernel
theorem dX7_bestRest_89 : decode cX7_bestRest 89 = .ok (.ireturn, 1) := by decide +kernel
theorem dX7_heardWithRest_0 : decode cX7_heardWithRest 0 = .ok (.aload_n 0, 1) := by decide +kernel
theorem dX7_heardWithRest_1 : decode cX7_heardWithRest 1 = .ok (.getfield 16, 3) := by decide +kernel
theorem dX7_heardWithRest_4 : decode cX7_heardWithRest 4 = .ok (.aload_n 0, 1) := by decide +kernel
theorem dX7_heardWithRest_5 : decode cX7_heardWithRest 5 = .ok (.getfield 10, 3) := by decide +kernel
theorem dX7_heardWithRest_8 : decode cX7_heardWithRest 8 = .ok (.invokevirtual 178, 3) := by decide +kernel
theorem dX7_heardWithRest_11 : decode cX7_heardWithRest 11 = .ok (.aload_n 0, 1) := by decide +kernel
theorem dX7_heardWithRest_12 : decode cX7_heardWithRest 12 = .ok (.getfield 16, 3) := by decide +kernel
theorem dX7_heardWithRest_15 : decode cX7_heardWithRest 15 = .ok (.iconst 0, 1) := by decide +kernel
theorem dX7_heardWithRest_16 : decode cX7_heardWithRest 16 = .ok (.iload_n 1, 1) := by decide +kernel
theorem dX7_heardWithRest_17 : decode cX7_heardWithRest 17 = .ok (.invokevirtual 50, 3) := by decide +kernel
theorem dX7_heardWithRest_20 : decode cX7_heardWithRest 20 = .ok (.pop, 1) := by decide +kernel
theorem dX7_heardWithRest_21 : decode cX7_heardWithRest 21 = .ok (.iconst 0, 1) := by decide +kernel
theorem dX7_heardWithRest_22 : decode cX7_heardWithRest 22 = .ok (.istore_n 3, 1) := by decide +kernel
theorem dX7_heardWithRest_23 : decode cX7_heardWithRest 23 = .ok (.iconst 0, 1) := by decide +kernel
theorem dX7_heardWithRest_24 : decode cX7_heardWithRest 24 = .ok (.istore 4, 2) := by decide +kernel
theorem dX7_heardWithRest_26 : decode cX7_heardWithRest 26 = .ok (.iload 4, 2) := by decide +kernel
theorem dX7_heardWithRest_28 : decode cX7_heardWithRest 28 = .ok (.iload_n 2, 1) := by decide +kernel
theorem dX7_heardWithRest_29 : decode cX7_heardWithRest 29 = .ok (.if_icmp .ge 29, 3) := by decide +kernel
theorem dX7_heardWithRest_32 : decode cX7_heardWithRest 32 = .ok (.aload_n 0, 1) := by decide +kernel
theorem dX7_heardWithRest_33 : decode cX7_heardWithRest 33 = .ok (.getfield 16, 3) := by decide +kernel
theorem dX7_heardWithRest_36 : decode cX7_heardWithRest 36 = .ok (.invokevirtual 190, 3) := by decide +kernel
theorem dX7_heardWithRest_39 : decode cX7_heardWithRest 39 = .ok (.ifCond .eq 19, 3) := by decide +kernel
theorem dX7_heardWithRest_42 : decode cX7_heardWithRest 42 = .ok (.iload_n 3, 1) := by decide +kernel
theorem dX7_heardWithRest_43 : decode cX7_heardWithRest 43 = .ok (.aload_n 0, 1) := by decide +kernel
theorem dX7_heardWithRest_44 : decode cX7_heardWithRest 44 = .ok (.getfield 16, 3) := by decide +kernel
theorem dX7_heardWithRest_47 : decode cX7_heardWithRest 47 = .ok (.invokevirtual 181, 3) := by decide +kernel
theorem dX7_heardWithRest_50 : decode cX7_heardWithRest 50 = .ok (.iadd, 1) := by decide +kernel
theorem dX7_heardWithRest_51 : decode cX7_heardWithRest 51 = .ok (.istore_n 3, 1) := by decide +kernel
theorem dX7_heardWithRest_52 : decode cX7_heardWithRest 52 = .ok (.iinc 4 1, 3) := by decide +kernel
theorem dX7_heardWithRest_55 : decode cX7_heardWithRest 55 = .ok (.goto (-29), 3) := by decide +kernel
theorem dX7_heardWithRest_58 : decode cX7_heardWithRest 58 = .ok (.iload_n 3, 1) := by decide +kernel
theorem dX7_heardWithRest_59 : decode cX7_heardWithRest 59 = .ok (.ireturn, 1) := by decide +kernel
theorem dX7_busiest_0 : decode cX7_busiest 0 = .ok (.bipush (-6), 2) := by decide +kernel
theorem dX7_busiest_2 : decode cX7_busiest 2 = .ok (.istore_n 1, 1) := by decide +kernel
theorem dX7_busiest_3 : decode cX7_busiest 3 = .ok (.iconst 0, 1) := by decide +kernel
theorem dX7_busiest_4 : decode cX7_busiest 4 = .ok (.istore_n 2, 1) := by decide +kernel
theorem dX7_busiest_5 : decode cX7_busiest 5 = .ok (.iconst 0, 1) := by decide +kernel
theorem dX7_busiest_6 : decode cX7_busiest 6 = .ok (.istore_n 3, 1) := by decide +kernel
theorem dX7_busiest_7 : decode cX7_busiest 7 = .ok (.iload_n 3, 1) := by decide +kernel
theorem dX7_busiest_8 : decode cX7_busiest 8 = .ok (.bipush 6, 2) := by decide +kernel
theorem dX7_busiest_10 : decode cX7_busiest 10 = .ok (.if_icmp .ge 30, 3) := by decide +kernel
theorem dX7_busiest_13 : decode cX7_busiest 13 = .ok (.aload_n 0, 1) := by decide +kernel
theorem dX7_busiest_14 : decode cX7_busiest 14 = .ok (.getfield 10, 3) := by decide +kernel
theorem dX7_busiest_17 : decode cX7_busiest 17 = .ok (.iload_n 3, 1) := by decide +kernel
theorem dX7_busiest_18 : decode cX7_busiest 18 = .ok (.invokevirtual 94, 3) := by decide +kernel
theorem dX7_busiest_21 : decode cX7_busiest 21 = .ok (.istore 4, 2) := by decide +kernel
theorem dX7_busiest_23 : decode cX7_busiest 23 = .ok (.iload 4, 2) := by decide +kernel
theorem dX7_busiest_25 : decode cX7_busiest 25 = .ok (.iload_n 2, 1) := by decide +kernel
theorem dX7_busiest_26 : decode cX7_busiest 26 = .ok (.if_icmp .le 8, 3) := by decide +kernel
theorem dX7_busiest_29 : decode cX7_busiest 29 = .ok (.iload_n 3, 1) := by decide +kernel
theorem dX7_busiest_30 : decode cX7_busiest 30 = .ok (.istore_n 1, 1) := by decide +kernel
theorem dX7_busiest_31 : decode cX7_busiest 31 = .ok (.iload 4, 2) := by decide +kernel
theorem dX7_busiest_33 : decode cX7_busiest 33 = .ok (.istore_n 2, 1) := by decide +kernel
theorem dX7_busiest_34 : decode cX7_busiest 34 = .ok (.iinc 3 1, 3) := by decide +kernel
theorem dX7_busiest_37 : decode cX7_busiest 37 = .ok (.goto (-30), 3) := by decide +kernel
theorem dX7_busiest_40 : decode cX7_busiest 40 = .ok (.iload_n 1, 1) := by decide +kernel
theorem dX7_busiest_41 : decode cX7_busiest 41 = .ok (.ireturn, 1) := by decide +kernel
theorem dX7_sleepsIn_0 : decode cX7_sleepsIn 0 = .ok (.aload_n 0, 1) := by decide +kernel
theorem dX7_sleepsIn_1 : decode cX7_sleepsIn 1 = .ok (.getfield 16, 3) := by decide +kernel
theorem dX7_sleepsIn_4 : decode cX7_sleepsIn 4 = .ok (.aload_n 0, 1) := by decide +kernel
theorem dX7_sleepsIn_5 : decode cX7_sleepsIn 5 = .ok (.getfield 10, 3) := by decide +kernel
theorem dX7_sleepsIn_8 : decode cX7_sleepsIn 8 = .ok (.invokevirtual 178, 3) := by decide +kernel
theorem dX7_sleepsIn_11 : decode cX7_sleepsIn 11 = .ok (.aload_n 0, 1) := by decide +kernel
theorem dX7_sleepsIn_12 : decode cX7_sleepsIn 12 = .ok (.getfield 16, 3) := by decide +kernel
theorem dX7_sleepsIn_15 : decode cX7_sleepsIn 15 = .ok (.iload_n 1, 1) := by decide +kernel
theorem dX7_sleepsIn_16 : decode cX7_sleepsIn 16 = .ok (.invokevirtual 103, 3) := by decide +kernel
theorem dX7_sleepsIn_19 : decode cX7_sleepsIn 19 = .ok (.astore_n 2, 1) := by decide +kernel
theorem dX7_sleepsIn_20 : decode cX7_sleepsIn 20 = .ok (.aload_n 2, 1) := by decide +kernel
theorem dX7_sleepsIn_21 : decode cX7_sleepsIn 21 = .ok (.ifnonnull 5, 3) := by decide +kernel
theorem dX7_sleepsIn_24 : decode cX7_sleepsIn 24 = .ok (.iconst (-1), 1) := by decide +kernel
theorem dX7_sleepsIn_25 : decode cX7_sleepsIn 25 = .ok (.ireturn, 1) := by decide +kernel
theorem dX7_sleepsIn_26 : decode cX7_sleepsIn 26 = .ok (.iconst 0, 1) := by decide +kernel
theorem dX7_sleepsIn_27 : decode cX7_sleepsIn 27 = .ok (.istore_n 3, 1) := by decide +kernel
theorem dX7_sleepsIn_28 : decode cX7_sleepsIn 28 = .ok (.iload_n 3, 1) := by decide +kernel
theorem dX7_sleepsIn_29 : decode cX7_sleepsIn 29 = .ok (.sipush 600, 3) := by decide +kernel
theorem dX7_sleepsIn_32 : decode cX7_sleepsIn 32 = .ok (.if_icmp .gt 26, 3) := by decide +kernel
theorem dX7_sleepsIn_35 : decode cX7_sleepsIn 35 = .ok (.aload_n 2, 1) := by decide +kernel
theorem dX7_sleepsIn_36 : decode cX7_sleepsIn 36 = .ok (.getfield 171, 3) := by decide +kernel
theorem dX7_sleepsIn_39 : decode cX7_sleepsIn 39 = .ok (.ifCond .eq 5, 3) := by decide +kernel
theorem dX7_sleepsIn_42 : decode cX7_sleepsIn 42 = .ok (.iload_n 3, 1) := by decide +kernel
theorem dX7_sleepsIn_43 : decode cX7_sleepsIn 43 = .ok (.ireturn, 1) := by decide +kernel
theorem dX7_sleepsIn_44 : decode cX7_sleepsIn 44 = .ok (.aload_n 0, 1) := by decide +kernel
theorem dX7_sleepsIn_45 : decode cX7_sleepsIn 45 = .ok (.getfield 16, 3) := by decide +kernel
theorem dX7_sleepsIn_48 : decode cX7_sleepsIn 48 = .ok (.invokevirtual 181, 3) := by decide +kernel
theorem dX7_sleepsIn_51 : decode cX7_sleepsIn 51 = .ok (.pop, 1) := by decide +kernel
theorem dX7_sleepsIn_52 : decode cX7_sleepsIn 52 = .ok (.iinc 3 1, 3) := by decide +kernel
theorem dX7_sleepsIn_55 : decode cX7_sleepsIn 55 = .ok (.goto (-27), 3) := by decide +kernel
theorem dX7_sleepsIn_58 : decode cX7_sleepsIn 58 = .ok (.bipush (-6), 2) := by decide +kernel
theorem dX7_sleepsIn_60 : decode cX7_sleepsIn 60 = .ok (.ireturn, 1) := by decide +kernel
theorem dX7_put_0 : decode cX7_put 0 = .ok (.aload_n 0, 1) := by decide +kernel
theorem dX7_put_1 : decode cX7_put 1 = .ok (.getfield 33, 3) := by decide +kernel
theorem dX7_put_4 : decode cX7_put 4 = .ok (.lload_n 1, 1) := by decide +kernel
theorem dX7_put_5 : decode cX7_put 5 = .ok (.invokevirtual 202, 3) := by decide +kernel
theorem dX7_put_8 : decode cX7_put 8 = .ok (.ireturn, 1) := by decide +kernel
theorem dX7_wipe_0 : decode cX7_wipe 0 = .ok (.aload_n 0, 1) := by decide +kernel
theorem dX7_wipe_1 : decode cX7_wipe 1 = .ok (.getfield 33, 3) := by decide +kernel
theorem dX7_wipe_4 : decode cX7_wipe 4 = .ok (.invokevirtual 206, 3) := by decide +kernel
theorem dX7_wipe_7 : decode cX7_wipe 7 = .ok (.ireturn, 1) := by decide +kernel
theorem dX7_fault_0 : decode cX7_fault 0 = .ok (.aload_n 0, 1) := by decide +kernel
theorem dX7_fault_1 : decode cX7_fault 1 = .ok (.getfield 42, 3) := by decide +kernel
theorem dX7_fault_4 : decode cX7_fault 4 = .ok (.invokevirtual 209, 3) := by decide +kernel
theorem dX7_fault_7 : decode cX7_fault 7 = .ok (.ireturn, 1) := by decide +kernel
theorem dX7_carryOut_0 : decode cX7_carryOut 0 = .ok (.aload_n 0, 1) := by decide +kernel
theorem dX7_carryOut_1 : decode cX7_carryOut 1 = .ok (.getfield 42, 3) := by decide +kernel
theorem dX7_carryOut_4 : decode cX7_carryOut 4 = .ok (.invokevirtual 209, 3) := by decide +kernel
theorem dX7_carryOut_7 : decode cX7_carryOut 7 = .ok (.bipush (-6), 2) := by decide +kernel
theorem dX7_carryOut_9 : decode cX7_carryOut 9 = .ok (.if_icmp .eq 6, 3) := by decide +kernel
theorem dX7_carryOut_12 : decode cX7_carryOut 12 = .ok (.bipush (-3), 2) := by decide +kernel
theorem dX7_carryOut_14 : decode cX7_carryOut 14 = .ok (.ireturn, 1) := by decide +kernel
theorem dX7_carryOut_15 : decode cX7_carryOut 15 = .ok (.aload_n 0, 1) := by decide +kernel
theorem dX7_carryOut_16 : decode cX7_carryOut 16 = .ok (.getfield 22, 3) := by decide +kernel
theorem dX7_carryOut_19 : decode cX7_carryOut 19 = .ok (.aload_n 0, 1) := by decide +kernel
theorem dX7_carryOut_20 : decode cX7_carryOut 20 = .ok (.getfield 10, 3) := by decide +kernel
theorem dX7_carryOut_23 : decode cX7_carryOut 23 = .ok (.invokevirtual 46, 3) := by decide +kernel
theorem dX7_carryOut_26 : decode cX7_carryOut 26 = .ok (.iconst 0, 1) := by decide +kernel
theorem dX7_carryOut_27 : decode cX7_carryOut 27 = .ok (.istore_n 1, 1) := by decide +kernel
theorem dX7_carryOut_28 : decode cX7_carryOut 28 = .ok (.aload_n 0, 1) := by decide +kernel
theorem dX7_carryOut_29 : decode cX7_carryOut 29 = .ok (.getfield 42, 3) := by decide +kernel
theorem dX7_carryOut_32 : decode cX7_carryOut 32 = .ok (.iconst 0, 1) := by decide +kernel
theorem dX7_carryOut_33 : decode cX7_carryOut 33 = .ok (.putfield 212, 3) := by decide +kernel
theorem dX7_carryOut_36 : decode cX7_carryOut 36 = .ok (.iload_n 1, 1) := by decide +kernel
theorem dX7_carryOut_37 : decode cX7_carryOut 37 = .ok (.bipush 80, 2) := by decide +kernel
theorem dX7_carryOut_39 : decode cX7_carryOut 39 = .ok (.if_icmp .ge 39, 3) := by decide +kernel
theorem dX7_carryOut_42 : decode cX7_carryOut 42 = .ok (.aload_n 0, 1) := by decide +kernel
theorem dX7_carryOut_43 : decode cX7_carryOut 43 = .ok (.getfield 42, 3) := by decide +kernel
theorem dX7_carryOut_46 : decode cX7_carryOut 46 = .ok (.invokevirtual 215, 3) := by decide +kernel
theorem dX7_carryOut_49 : decode cX7_carryOut 49 = .ok (.ifCond .eq 29, 3) := by decide +kernel
theorem dX7_carryOut_52 : decode cX7_carryOut 52 = .ok (.aload_n 0, 1) := by decide +kernel
theorem dX7_carryOut_53 : decode cX7_carryOut 53 = .ok (.invokevirtual 218, 3) := by decide +kernel
theorem dX7_carryOut_56 : decode cX7_carryOut 56 = .ok (.ifCond .lt 22, 3) := by decide +kernel
theorem dX7_carryOut_59 : decode cX7_carryOut 59 = .ok (.iinc 1 1, 3) := by decide +kernel
theorem dX7_carryOut_62 : decode cX7_carryOut 62 = .ok (.aload_n 0, 1) := by decide +kernel
theorem dX7_carryOut_63 : decode cX7_carryOut 63 = .ok (.getfield 42, 3) := by decide +kernel
theorem dX7_carryOut_66 : decode cX7_carryOut 66 = .ok (.dup, 1) := by decide +kernel
theorem dX7_carryOut_67 : decode cX7_carryOut 67 = .ok (.getfield 212, 3) := by decide +kernel
theorem dX7_carryOut_70 : decode cX7_carryOut 70 = .ok (.iconst 1, 1) := by decide +kernel
theorem dX7_carryOut_71 : decode cX7_carryOut 71 = .ok (.iadd, 1) := by decide +kernel
theorem dX7_carryOut_72 : decode cX7_carryOut 72 = .ok (.putfield 212, 3) := by decide +kernel
theorem dX7_carryOut_75 : decode cX7_carryOut 75 = .ok (.goto (-39), 3) := by decide +kernel
theorem dX7_carryOut_78 : decode cX7_carryOut 78 = .ok (.aload_n 0, 1) := by decide +kernel
theorem dX7_carryOut_79 : decode cX7_carryOut 79 = .ok (.getfield 33, 3) := by decide +kernel
theorem dX7_carryOut_82 : decode cX7_carryOut 82 = .ok (.invokevirtual 206, 3) := by decide +kernel
theorem dX7_carryOut_85 : decode cX7_carryOut 85 = .ok (.pop, 1) := by decide +kernel
theorem dX7_carryOut_86 : decode cX7_carryOut 86 = .ok (.aload_n 0, 1) := by decide +kernel
theorem dX7_carryOut_87 : decode cX7_carryOut 87 = .ok (.getfield 22, 3) := by decide +kernel
theorem dX7_carryOut_90 : decode cX7_carryOut 90 = .ok (.iload_n 1, 1) := by decide +kernel
theorem dX7_carryOut_91 : decode cX7_carryOut 91 = .ok (.invokevirtual 54, 3) := by decide +kernel
theorem dX7_carryOut_94 : decode cX7_carryOut 94 = .ok (.ireturn, 1) := by decide +kernel
theorem dX7_carryOrder_0 : decode cX7_carryOrder 0 = .ok (.aload_n 0, 1) := by decide +kernel
theorem dX7_carryOrder_1 : decode cX7_carryOrder 1 = .ok (.getfield 42, 3) := by decide +kernel
theorem dX7_carryOrder_4 : decode cX7_carryOrder 4 = .ok (.getfield 221, 3) := by decide +kernel
theorem dX7_carryOrder_7 : decode cX7_carryOrder 7 = .ok (.lookupswitch 138 #[(33, 93), (98, 123), (115, 49), (119, 64), (122, 108)], 49) := by decide +kernel
theorem dX7_carryOrder_56 : decode cX7_carryOrder 56 = .ok (.aload_n 0, 1) := by decide +kernel
theorem dX7_carryOrder_57 : decode cX7_carryOrder 57 = .ok (.getfield 10, 3) := by decide +kernel
theorem dX7_carryOrder_60 : decode cX7_carryOrder 60 = .ok (.aload_n 0, 1) := by decide +kernel
theorem dX7_carryOrder_61 : decode cX7_carryOrder 61 = .ok (.getfield 42, 3) := by decide +kernel
theorem dX7_carryOrder_64 : decode cX7_carryOrder 64 = .ok (.getfield 224, 3) := by decide +kernel
theorem dX7_carryOrder_67 : decode cX7_carryOrder 67 = .ok (.invokevirtual 58, 3) := by decide +kernel
theorem dX7_carryOrder_70 : decode cX7_carryOrder 70 = .ok (.ireturn, 1) := by decide +kernel
theorem dX7_carryOrder_71 : decode cX7_carryOrder 71 = .ok (.aload_n 0, 1) := by decide +kernel
theorem dX7_carryOrder_72 : decode cX7_carryOrder 72 = .ok (.getfield 10, 3) := by decide +kernel
theorem dX7_carryOrder_75 : decode cX7_carryOrder 75 = .ok (.aload_n 0, 1) := by decide +kernel
theorem dX7_carryOrder_76 : decode cX7_carryOrder 76 = .ok (.getfield 42, 3) := by decide +kernel
theorem dX7_carryOrder_79 : decode cX7_carryOrder 79 = .ok (.getfield 227, 3) := by decide +kernel
theorem dX7_carryOrder_82 : decode cX7_carryOrder 82 = .ok (.aload_n 0, 1) := by decide +kernel
theorem dX7_carryOrder_83 : decode cX7_carryOrder 83 = .ok (.getfield 42, 3) := by decide +kernel
theorem dX7_carryOrder_86 : decode cX7_carryOrder 86 = .ok (.getfield 230, 3) := by decide +kernel
theorem dX7_carryOrder_89 : decode cX7_carryOrder 89 = .ok (.aload_n 0, 1) := by decide +kernel
theorem dX7_carryOrder_90 : decode cX7_carryOrder 90 = .ok (.getfield 42, 3) := by decide +kernel
theorem dX7_carryOrder_93 : decode cX7_carryOrder 93 = .ok (.getfield 233, 3) := by decide +kernel
theorem dX7_carryOrder_96 : decode cX7_carryOrder 96 = .ok (.invokevirtual 61, 3) := by decide +kernel
theorem dX7_carryOrder_99 : decode cX7_carryOrder 99 = .ok (.ireturn, 1) := by decide +kernel
theorem dX7_carryOrder_100 : decode cX7_carryOrder 100 = .ok (.aload_n 0, 1) := by decide +kernel
theorem dX7_carryOrder_101 : decode cX7_carryOrder 101 = .ok (.getfield 10, 3) := by decide +kernel
theorem dX7_carryOrder_104 : decode cX7_carryOrder 104 = .ok (.aload_n 0, 1) := by decide +kernel
theorem dX7_carryOrder_105 : decode cX7_carryOrder 105 = .ok (.getfield 42, 3) := by decide +kernel
theorem dX7_carryOrder_108 : decode cX7_carryOrder 108 = .ok (.getfield 230, 3) := by decide +kernel
theorem dX7_carryOrder_111 : decode cX7_carryOrder 111 = .ok (.invokevirtual 68, 3) := by decide +kernel
theorem dX7_carryOrder_114 : decode cX7_carryOrder 114 = .ok (.ireturn, 1) := by decide +kernel
theorem dX7_carryOrder_115 : decode cX7_carryOrder 115 = .ok (.aload_n 0, 1) := by decide +kernel
theorem dX7_carryOrder_116 : decode cX7_carryOrder 116 = .ok (.getfield 10, 3) := by decide +kernel
theorem dX7_carryOrder_119 : decode cX7_carryOrder 119 = .ok (.aload_n 0, 1) := by decide +kernel
theorem dX7_carryOrder_120 : decode cX7_carryOrder 120 = .ok (.getfield 42, 3) := by decide +kernel
theorem dX7_carryOrder_123 : decode cX7_carryOrder 123 = .ok (.getfield 227, 3) := by decide +kernel
theorem dX7_carryOrder_126 : decode cX7_carryOrder 126 = .ok (.invokevirtual 71, 3) := by decide +kernel
theorem dX7_carryOrder_129 : decode cX7_carryOrder 129 = .ok (.ireturn, 1) := by decide +kernel
theorem dX7_carryOrder_130 : decode cX7_carryOrder 130 = .ok (.aload_n 0, 1) := by decide +kernel
theorem dX7_carryOrder_131 : decode cX7_carryOrder 131 = .ok (.getfield 10, 3) := by decide +kernel
theorem dX7_carryOrder_134 : decode cX7_carryOrder 134 = .ok (.aload_n 0, 1) := by decide +kernel
theorem dX7_carryOrder_135 : decode cX7_carryOrder 135 = .ok (.getfield 42, 3) := by decide +kernel
theorem dX7_carryOrder_138 : decode cX7_carryOrder 138 = .ok (.getfield 233, 3) := by decide +kernel
theorem dX7_carryOrder_141 : decode cX7_carryOrder 141 = .ok (.invokevirtual 74, 3) := by decide +kernel
theorem dX7_carryOrder_144 : decode cX7_carryOrder 144 = .ok (.ireturn, 1) := by decide +kernel
theorem dX7_carryOrder_145 : decode cX7_carryOrder 145 = .ok (.bipush (-3), 2) := by decide +kernel
theorem dX7_carryOrder_147 : decode cX7_carryOrder 147 = .ok (.ireturn, 1) := by decide +kernel
theorem dX7_undo_0 : decode cX7_undo 0 = .ok (.aload_n 0, 1) := by decide +kernel
theorem dX7_undo_1 : decode cX7_undo 1 = .ok (.getfield 22, 3) := by decide +kernel
theorem dX7_undo_4 : decode cX7_undo 4 = .ok (.aload_n 0, 1) := by decide +kernel
theorem dX7_undo_5 : decode cX7_undo 5 = .ok (.getfield 10, 3) := by decide +kernel
theorem dX7_undo_8 : decode cX7_undo 8 = .ok (.invokevirtual 236, 3) := by decide +kernel
theorem dX7_undo_11 : decode cX7_undo 11 = .ok (.ireturn, 1) := by decide +kernel
theorem dX7_save_0 : decode cX7_save 0 = .ok (.iload_n 1, 1) := by decide +kernel
theorem dX7_save_1 : decode cX7_save 1 = .ok (.invokestatic 240, 3) := by decide +kernel
theorem dX7_save_4 : decode cX7_save 4 = .ok (.ifCond .ne 6, 3) := by decide +kernel
theorem dX7_save_7 : decode cX7_save 7 = .ok (.bipush (-2), 2) := by decide +kernel
theorem dX7_save_9 : decode cX7_save 9 = .ok (.ireturn, 1) := by decide +kernel
theorem dX7_save_10 : decode cX7_save 10 = .ok (.aload_n 0, 1) := by decide +kernel
theorem dX7_save_11 : decode cX7_save 11 = .ok (.getfield 26, 3) := by decide +kernel
theorem dX7_save_14 : decode cX7_save 14 = .ok (.iload_n 1, 1) := by decide +kernel
theorem dX7_save_15 : decode cX7_save 15 = .ok (.aaload, 1) := by decide +kernel
theorem dX7_save_16 : decode cX7_save 16 = .ok (.ifnonnull 16, 3) := by decide +kernel
theorem dX7_save_19 : decode cX7_save 19 = .ok (.aload_n 0, 1) := by decide +kernel
theorem dX7_save_20 : decode cX7_save 20 = .ok (.getfield 26, 3) := by decide +kernel
theorem dX7_save_23 : decode cX7_save 23 = .ok (.iload_n 1, 1) := by decide +kernel
theorem dX7_save_24 : decode cX7_save 24 = .ok (.new 7, 3) := by decide +kernel
theorem dX7_save_27 : decode cX7_save 27 = .ok (.dup, 1) := by decide +kernel
theorem dX7_save_28 : decode cX7_save 28 = .ok (.invokespecial 9, 3) := by decide +kernel
theorem dX7_save_31 : decode cX7_save 31 = .ok (.aastore, 1) := by decide +kernel
theorem dX7_save_32 : decode cX7_save 32 = .ok (.aload_n 0, 1) := by decide +kernel
theorem dX7_save_33 : decode cX7_save 33 = .ok (.getfield 26, 3) := by decide +kernel
theorem dX7_save_36 : decode cX7_save 36 = .ok (.iload_n 1, 1) := by decide +kernel
theorem dX7_save_37 : decode cX7_save 37 = .ok (.aaload, 1) := by decide +kernel
theorem dX7_save_38 : decode cX7_save 38 = .ok (.aload_n 0, 1) := by decide +kernel
theorem dX7_save_39 : decode cX7_save 39 = .ok (.getfield 10, 3) := by decide +kernel
theorem dX7_save_42 : decode cX7_save 42 = .ok (.invokevirtual 178, 3) := by decide +kernel
theorem dX7_save_45 : decode cX7_save 45 = .ok (.aload_n 0, 1) := by decide +kernel
theorem dX7_save_46 : decode cX7_save 46 = .ok (.getfield 10, 3) := by decide +kernel
theorem dX7_save_49 : decode cX7_save 49 = .ok (.getfield 143, 3) := by decide +kernel
theorem dX7_save_52 : decode cX7_save 52 = .ok (.ireturn, 1) := by decide +kernel
theorem dX7_restore_0 : decode cX7_restore 0 = .ok (.iload_n 1, 1) := by decide +kernel
theorem dX7_restore_1 : decode cX7_restore 1 = .ok (.invokestatic 240, 3) := by decide +kernel
theorem dX7_restore_4 : decode cX7_restore 4 = .ok (.ifCond .ne 6, 3) := by decide +kernel
theorem dX7_restore_7 : decode cX7_restore 7 = .ok (.bipush (-2), 2) := by decide +kernel
theorem dX7_restore_9 : decode cX7_restore 9 = .ok (.ireturn, 1) := by decide +kernel
theorem dX7_restore_10 : decode cX7_restore 10 = .ok (.aload_n 0, 1) := by decide +kernel
theorem dX7_restore_11 : decode cX7_restore 11 = .ok (.getfield 26, 3) := by decide +kernel
theorem dX7_restore_14 : decode cX7_restore 14 = .ok (.iload_n 1, 1) := by decide +kernel
theorem dX7_restore_15 : decode cX7_restore 15 = .ok (.aaload, 1) := by decide +kernel
theorem dX7_restore_16 : decode cX7_restore 16 = .ok (.astore_n 2, 1) := by decide +kernel
theorem dX7_restore_17 : decode cX7_restore 17 = .ok (.aload_n 2, 1) := by decide +kernel
theorem dX7_restore_18 : decode cX7_restore 18 = .ok (.ifnonnull 6, 3) := by decide +kernel
theorem dX7_restore_21 : decode cX7_restore 21 = .ok (.bipush (-5), 2) := by decide +kernel
theorem dX7_restore_23 : decode cX7_restore 23 = .ok (.ireturn, 1) := by decide +kernel
theorem dX7_restore_24 : decode cX7_restore 24 = .ok (.aload_n 0, 1) := by decide +kernel
theorem dX7_restore_25 : decode cX7_restore 25 = .ok (.getfield 22, 3) := by decide +kernel
theorem dX7_restore_28 : decode cX7_restore 28 = .ok (.aload_n 0, 1) := by decide +kernel
theorem dX7_restore_29 : decode cX7_restore 29 = .ok (.getfield 10, 3) := by decide +kernel
theorem dX7_restore_32 : decode cX7_restore 32 = .ok (.invokevirtual 46, 3) := by decide +kernel
theorem dX7_restore_35 : decode cX7_restore 35 = .ok (.aload_n 0, 1) := by decide +kernel
theorem dX7_restore_36 : decode cX7_restore 36 = .ok (.getfield 10, 3) := by decide +kernel
theorem dX7_restore_39 : decode cX7_restore 39 = .ok (.aload_n 2, 1) := by decide +kernel
theorem dX7_restore_40 : decode cX7_restore 40 = .ok (.invokevirtual 178, 3) := by decide +kernel
theorem dX7_restore_43 : decode cX7_restore 43 = .ok (.aload_n 0, 1) := by decide +kernel
theorem dX7_restore_44 : decode cX7_restore 44 = .ok (.getfield 22, 3) := by decide +kernel
theorem dX7_restore_47 : decode cX7_restore 47 = .ok (.aload_n 0, 1) := by decide +kernel
theorem dX7_restore_48 : decode cX7_restore 48 = .ok (.getfield 10, 3) := by decide +kernel
theorem dX7_restore_51 : decode cX7_restore 51 = .ok (.getfield 143, 3) := by decide +kernel
theorem dX7_restore_54 : decode cX7_restore 54 = .ok (.invokevirtual 54, 3) := by decide +kernel
theorem dX7_restore_57 : decode cX7_restore 57 = .ok (.ireturn, 1) := by decide +kernel
theorem dX7_isSlot_0 : decode cX7_isSlot 0 = .ok (.iload_n 0, 1) := by decide +kernel
theorem dX7_isSlot_1 : decode cX7_isSlot 1 = .ok (.ifCond .lt 12, 3) := by decide +kernel
theorem dX7_isSlot_4 : decode cX7_isSlot 4 = .ok (.iload_n 0, 1) := by decide +kernel
theorem dX7_isSlot_5 : decode cX7_isSlot 5 = .ok (.iconst 2, 1) := by decide +kernel
theorem dX7_isSlot_6 : decode cX7_isSlot 6 = .ok (.if_icmp .ge 7, 3) := by decide +kernel
theorem dX7_isSlot_9 : decode cX7_isSlot 9 = .ok (.iconst 1, 1) := by decide +kernel
theorem dX7_isSlot_10 : decode cX7_isSlot 10 = .ok (.goto 4, 3) := by decide +kernel
theorem dX7_isSlot_13 : decode cX7_isSlot 13 = .ok (.iconst 0, 1) := by decide +kernel
theorem dX7_isSlot_14 : decode cX7_isSlot 14 = .ok (.ireturn, 1) := by decide +kernel
theorem dX7_isWire_0 : decode cX7_isWire 0 = .ok (.iload_n 0, 1) := by decide +kernel
theorem dX7_isWire_1 : decode cX7_isWire 1 = .ok (.ifCond .lt 13, 3) := by decide +kernel
theorem dX7_isWire_4 : decode cX7_isWire 4 = .ok (.iload_n 0, 1) := by decide +kernel
theorem dX7_isWire_5 : decode cX7_isWire 5 = .ok (.bipush 6, 2) := by decide +kernel
theorem dX7_isWire_7 : decode cX7_isWire 7 = .ok (.if_icmp .ge 7, 3) := by decide +kernel
theorem dX7_isWire_10 : decode cX7_isWire 10 = .ok (.iconst 1, 1) := by decide +kernel
theorem dX7_isWire_11 : decode cX7_isWire 11 = .ok (.goto 4, 3) := by decide +kernel
theorem dX7_isWire_14 : decode cX7_isWire 14 = .ok (.iconst 0, 1) := by decide +kernel
theorem dX7_isWire_15 : decode cX7_isWire 15 = .ok (.ireturn, 1) := by decide +kernel
theorem dX7_copyNumbers_0 : decode cX7_copyNumbers 0 = .ok (.aload_n 0, 1) := by decide +kernel
theorem dX7_copyNumbers_1 : decode cX7_copyNumbers 1 = .ok (.iconst 0, 1) := by decide +kernel
theorem dX7_copyNumbers_2 : decode cX7_copyNumbers 2 = .ok (.aload_n 1, 1) := by decide +kernel
theorem dX7_copyNumbers_3 : decode cX7_copyNumbers 3 = .ok (.iconst 0, 1) := by decide +kernel
theorem dX7_copyNumbers_4 : decode cX7_copyNumbers 4 = .ok (.aload_n 0, 1) := by decide +kernel
theorem dX7_copyNumbers_5 : decode cX7_copyNumbers 5 = .ok (.arraylength, 1) := by decide +kernel
theorem dX7_copyNumbers_6 : decode cX7_copyNumbers 6 = .ok (.aload_n 1, 1) := by decide +kernel
theorem dX7_copyNumbers_7 : decode cX7_copyNumbers 7 = .ok (.arraylength, 1) := by decide +kernel
theorem dX7_copyNumbers_8 : decode cX7_copyNumbers 8 = .ok (.invokestatic 243, 3) := by decide +kernel
theorem dX7_copyNumbers_11 : decode cX7_copyNumbers 11 = .ok (.invokestatic 248, 3) := by decide +kernel
theorem dX7_copyNumbers_14 : decode cX7_copyNumbers 14 = .ok (.return_, 1) := by decide +kernel
theorem dX8_init_0 : decode cX8_init 0 = .ok (.aload_n 0, 1) := by decide +kernel
theorem dX8_init_1 : decode cX8_init 1 = .ok (.invokespecial 1, 3) := by decide +kernel
theorem dX8_init_4 : decode cX8_init 4 = .ok (.aload_n 0, 1) := by decide +kernel
theorem dX8_init_5 : decode cX8_init 5 = .ok (.sipush 351, 3) := by decide +kernel
theorem dX8_init_8 : decode cX8_init 8 = .ok (.newarray .int, 2) := by decide +kernel
theorem dX8_init_10 : decode cX8_init 10 = .ok (.putfield 7, 3) := by decide +kernel
theorem dX8_init_13 : decode cX8_init 13 = .ok (.aload_n 0, 1) := by decide +kernel
theorem dX8_init_14 : decode cX8_init 14 = .ok (.sipush 2106, 3) := by decide +kernel
theorem dX8_init_17 : decode cX8_init 17 = .ok (.newarray .int, 2) := by decide +kernel
theorem dX8_init_19 : decode cX8_init 19 = .ok (.putfield 13, 3) := by decide +kernel
theorem dX8_init_22 : decode cX8_init 22 = .ok (.aload_n 0, 1) := by decide +kernel
theorem dX8_init_23 : decode cX8_init 23 = .ok (.sipush 702, 3) := by decide +kernel
theorem dX8_init_26 : decode cX8_init 26 = .ok (.newarray .int, 2) := by decide +kernel
theorem dX8_init_28 : decode cX8_init 28 = .ok (.putfield 16, 3) := by decide +kernel
theorem dX8_init_31 : decode cX8_init 31 = .ok (.aload_n 0, 1) := by decide +kernel
theorem dX8_init_32 : decode cX8_init 32 = .ok (.iconst 2, 1) := by decide +kernel
theorem dX8_init_33 : decode cX8_init 33 = .ok (.newarray .boolean, 2) := by decide +kernel
theorem dX8_init_35 : decode cX8_init 35 = .ok (.putfield 19, 3) := by decide +kernel
theorem dX8_init_38 : decode cX8_init 38 = .ok (.aload_n 0, 1) := by decide +kernel
theorem dX8_init_39 : decode cX8_init 39 = .ok (.sipush 351, 3) := by decide +kernel
theorem dX8_init_42 : decode cX8_init 42 = .ok (.newarray .int, 2) := by decide +kernel
theorem dX8_init_44 : decode cX8_init 44 = .ok (.putfield 23, 3) := by decide +kernel
theorem dX8_init_47 : decode cX8_init 47 = .ok (.aload_n 0, 1) := by decide +kernel
theorem dX8_init_48 : decode cX8_init 48 = .ok (.bipush 80, 2) := by decide +kernel
theorem dX8_init_50 : decode cX8_init 50 = .ok (.newarray .char, 2) := by decide +kernel
theorem dX8_init_52 : decode cX8_init 52 = .ok (.putfield 26, 3) := by decide +kernel
theorem dX8_init_55 : decode cX8_init 55 = .ok (.aload_n 0, 1) := by decide +kernel
theorem dX8_init_56 : decode cX8_init 56 = .ok (.bipush 6, 2) := by decide +kernel
theorem dX8_init_58 : decode cX8_init 58 = .ok (.newarray .boolean, 2) := by decide +kernel
theorem dX8_init_60 : decode cX8_init 60 = .ok (.putfield 30, 3) := by decide +kernel
theorem dX8_init_63 : decode cX8_init 63 = .ok (.aload_n 0, 1) := by decide +kernel
theorem dX8_init_64 : decode cX8_init 64 = .ok (.sipush 168, 3) := by decide +kernel
theorem dX8_init_67 : decode cX8_init 67 = .ok (.newarray .int, 2) := by decide +kernel
theorem dX8_init_69 : decode cX8_init 69 = .ok (.putfield 33, 3) := by decide +kernel
theorem dX8_init_72 : decode cX8_init 72 = .ok (.aload_n 0, 1) := by decide +kernel
theorem dX8_init_73 : decode cX8_init 73 = .ok (.getfield 7, 3) := by decide +kernel
theorem dX8_init_76 : decode cX8_init 76 = .ok (.iconst 0, 1) := by decide +kernel
theorem dX8_init_77 : decode cX8_init 77 = .ok (.iconst 3, 1) := by decide +kernel
theorem dX8_init_78 : decode cX8_init 78 = .ok (.iastore, 1) := by decide +kernel
theorem dX8_init_79 : decode cX8_init 79 = .ok (.aload_n 0, 1) := by decide +kernel
theorem dX8_init_80 : decode cX8_init 80 = .ok (.getfield 7, 3) := by decide +kernel
theorem dX8_init_83 : decode cX8_init 83 = .ok (.iconst 1, 1) := by decide +kernel
theorem dX8_init_84 : decode cX8_init 84 = .ok (.bipush 40, 2) := by decide +kernel
theorem dX8_init_86 : decode cX8_init 86 = .ok (.iastore, 1) := by decide +kernel
theorem dX8_init_87 : decode cX8_init 87 = .ok (.aload_n 0, 1) := by decide +kernel
theorem dX8_init_88 : decode cX8_init 88 = .ok (.getfield 7, 3) := by decide +kernel
theorem dX8_init_91 : decode cX8_init 91 = .ok (.iconst 2, 1) := by decide +kernel
theorem dX8_init_92 : decode cX8_init 92 = .ok (.iconst 1, 1) := by decide +kernel
theorem dX8_init_93 : decode cX8_init 93 = .ok (.iastore, 1) := by decide +kernel
theorem dX8_init_94 : decode cX8_init 94 = .ok (.aload_n 0, 1) := by decide +kernel
theorem dX8_init_95 : decode cX8_init 95 = .ok (.getfield 7, 3) := by decide +kernel
theorem dX8_init_98 : decode cX8_init 98 = .ok (.iconst 3, 1) := by decide +kernel
theorem dX8_init_99 : decode cX8_init 99 = .ok (.iconst 1, 1) := by decide +kernel
theorem dX8_init_100 : decode cX8_init 100 = .ok (.iastore, 1) := by decide +kernel
theorem dX8_init_101 : decode cX8_init 101 = .ok (.aload_n 0, 1) := by decide +kernel
theorem dX8_init_102 : decode cX8_init 102 = .ok (.getfield 7, 3) := by decide +kernel
theorem dX8_init_105 : decode cX8_init 105 = .ok (.iconst 4, 1) := by decide +kernel
theorem dX8_init_106 : decode cX8_init 106 = .ok (.iconst 4, 1) := by decide +kernel
theorem dX8_init_107 : decode cX8_init 107 = .ok (.iastore, 1) := by decide +kernel
theorem dX8_init_108 : decode cX8_init 108 = .ok (.return_, 1) := by decide +kernel
theorem dX8_in_0 : decode cX8_in 0 = .ok (.iload_n 0, 1) := by decide +kernel
theorem dX8_in_1 : decode cX8_in 1 = .ok (.iload_n 1, 1) := by decide +kernel
theorem dX8_in_2 : decode cX8_in 2 = .ok (.if_icmp .lt 12, 3) := by decide +kernel
theorem dX8_in_5 : decode cX8_in 5 = .ok (.iload_n 0, 1) := by decide +kernel
theorem dX8_in_6 : decode cX8_in 6 = .ok (.iload_n 2, 1) := by decide +kernel
theorem dX8_in_7 : decode cX8_in 7 = .ok (.if_icmp .gt 7, 3) := by decide +kernel
theorem dX8_in_10 : decode cX8_in 10 = .ok (.iconst 1, 1) := by decide +kernel
theorem dX8_in_11 : decode cX8_in 11 = .ok (.goto 4, 3) := by decide +kernel
theorem dX8_in_14 : decode cX8_in 14 = .ok (.iconst 0, 1) := by decide +kernel
theorem dX8_in_15 : decode cX8_in 15 = .ok (.ireturn, 1) := by decide +kernel
theorem dX8_isStation_0 : decode cX8_isStation 0 = .ok (.iload_n 1, 1) := by decide +kernel
theorem dX8_isStation_1 : decode cX8_isStation 1 = .ok (.ifCond .lt 18, 3) := by decide +kernel
theorem dX8_isStation_4 : decode cX8_isStation 4 = .ok (.iload_n 1, 1) := by decide +kernel
theorem dX8_isStation_5 : decode cX8_isStation 5 = .ok (.aload_n 0, 1) := by decide +kernel
theorem dX8_isStation_6 : decode cX8_isStation 6 = .ok (.getfield 7, 3) := by decide +kernel
theorem dX8_isStation_9 : decode cX8_isStation 9 = .ok (.bipush 6, 2) := by decide +kernel
theorem dX8_isStation_11 : decode cX8_isStation 11 = .ok (.iaload, 1) := by decide +kernel
theorem dX8_isStation_12 : decode cX8_isStation 12 = .ok (.if_icmp .ge 7, 3) := by decide +kernel
theorem dX8_isStation_15 : decode cX8_isStation 15 = .ok (.iconst 1, 1) := by decide +kernel
theorem dX8_isStation_16 : decode cX8_isStation 16 = .ok (.goto 4, 3) := by decide +kernel
theorem dX8_isStation_19 : decode cX8_isStation 19 = .ok (.iconst 0, 1) := by decide +kernel
theorem dX8_isStation_20 : decode cX8_isStation 20 = .ok (.ireturn, 1) := by decide +kernel
theorem dX8_isWire_0 : decode cX8_isWire 0 = .ok (.iload_n 0, 1) := by decide +kernel
theorem dX8_isWire_1 : decode cX8_isWire 1 = .ok (.iconst 0, 1) := by decide +kernel
theorem dX8_isWire_2 : decode cX8_isWire 2 = .ok (.iconst 5, 1) := by decide +kernel
theorem dX8_isWire_3 : decode cX8_isWire 3 = .ok (.invokestatic 36, 3) := by decide +kernel
theorem dX8_isWire_6 : decode cX8_isWire 6 = .ok (.ireturn, 1) := by decide +kernel
theorem dX8_at_0 : decode cX8_at 0 = .ok (.aload_n 0, 1) := by decide +kernel
theorem dX8_at_1 : decode cX8_at 1 = .ok (.getfield 7, 3) := by decide +kernel
theorem dX8_at_4 : decode cX8_at 4 = .ok (.bipush 31, 2) := by decide +kernel
theorem dX8_at_6 : decode cX8_at 6 = .ok (.bipush 40, 2) := by decide +kernel
theorem dX8_at_8 : decode cX8_at 8 = .ok (.iload_n 1, 1) := by decide +kernel
theorem dX8_at_9 : decode cX8_at 9 = .ok (.imul, 1) := by decide +kernel
theorem dX8_at_10 : decode cX8_at 10 = .ok (.iadd, 1) := by decide +kernel
theorem dX8_at_11 : decode cX8_at 11 = .ok (.iload_n 2, 1) := by decide +kernel
theorem dX8_at_12 : decode cX8_at 12 = .ok (.iadd, 1) := by decide +kernel
theorem dX8_at_13 : decode cX8_at 13 = .ok (.iaload, 1) := by decide +kernel
theorem dX8_at_14 : decode cX8_at 14 = .ok (.ireturn, 1) := by decide +kernel
theorem dX8_lay_0 : decode cX8_lay 0 = .ok (.aload_n 0, 1) := by decide +kernel
theorem dX8_lay_1 : decode cX8_lay 1 = .ok (.getfield 7, 3) := by decide +kernel
theorem dX8_lay_4 : decode cX8_lay 4 = .ok (.bipush 31, 2) := by decide +kernel
theorem dX8_lay_6 : decode cX8_lay 6 = .ok (.bipush 40, 2) := by decide +kernel
theorem dX8_lay_8 : decode cX8_lay 8 = .ok (.iload_n 1, 1) := by decide +kernel
theorem dX8_lay_9 : decode cX8_lay 9 = .ok (.imul, 1) := by decide +kernel
theorem dX8_lay_10 : decode cX8_lay 10 = .ok (.iadd, 1) := by decide +kernel
theorem dX8_lay_11 : decode cX8_lay 11 = .ok (.iload_n 2, 1) := by decide +kernel
theorem dX8_lay_12 : decode cX8_lay 12 = .ok (.iadd, 1) := by decide +kernel
theorem dX8_lay_13 : decode cX8_lay 13 = .ok (.iload_n 3, 1) := by decide +kernel
theorem dX8_lay_14 : decode cX8_lay 14 = .ok (.iastore, 1) := by decide +kernel
theorem dX8_lay_15 : decode cX8_lay 15 = .ok (.return_, 1) := by decide +kernel
theorem dX8_add_0 : decode cX8_add 0 = .ok (.aload_n 0, 1) := by decide +kernel
theorem dX8_add_1 : decode cX8_add 1 = .ok (.getfield 7, 3) := by decide +kernel
theorem dX8_add_4 : decode cX8_add 4 = .ok (.bipush 31, 2) := by decide +kernel
theorem dX8_add_6 : decode cX8_add 6 = .ok (.bipush 40, 2) := by decide +kernel
theorem dX8_add_8 : decode cX8_add 8 = .ok (.iload_n 1, 1) := by decide +kernel
theorem dX8_add_9 : decode cX8_add 9 = .ok (.imul, 1) := by decide +kernel
theorem dX8_add_10 : decode cX8_add 10 = .ok (.iadd, 1) := by decide +kernel
theorem dX8_add_11 : decode cX8_add 11 = .ok (.iload_n 2, 1) := by decide +kernel
theorem dX8_add_12 : decode cX8_add 12 = .ok (.iadd, 1) := by decide +kernel
theorem dX8_add_13 : decode cX8_add 13 = .ok (.dup2, 1) := by decide +kernel
theorem dX8_add_14 : decode cX8_add 14 = .ok (.iaload, 1) := by decide +kernel
theorem dX8_add_15 : decode cX8_add 15 = .ok (.iload_n 3, 1) := by decide +kernel
theorem dX8_add_16 : decode cX8_add 16 = .ok (.iadd, 1) := by decide +kernel
theorem dX8_add_17 : decode cX8_add 17 = .ok (.iastore, 1) := by decide +kernel
theorem dX8_add_18 : decode cX8_add 18 = .ok (.return_, 1) := by decide +kernel
theorem dX8_wire_0 : decode cX8_wire 0 = .ok (.aload_n 0, 1) := by decide +kernel
theorem dX8_wire_1 : decode cX8_wire 1 = .ok (.getfield 7, 3) := by decide +kernel
theorem dX8_wire_4 : decode cX8_wire 4 = .ok (.bipush 7, 2) := by decide +kernel
theorem dX8_wire_6 : decode cX8_wire 6 = .ok (.iconst 4, 1) := by decide +kernel
theorem dX8_wire_7 : decode cX8_wire 7 = .ok (.iload_n 1, 1) := by decide +kernel
theorem dX8_wire_8 : decode cX8_wire 8 = .ok (.imul, 1) := by decide +kernel
theorem dX8_wire_9 : decode cX8_wire 9 = .ok (.iadd, 1) := by decide +kernel
theorem dX8_wire_10 : decode cX8_wire 10 = .ok (.iload_n 2, 1) := by decide +kernel
theorem dX8_wire_11 : decode cX8_wire 11 = .ok (.iadd, 1) := by decide +kernel
theorem dX8_wire_12 : decode cX8_wire 12 = .ok (.iaload, 1) := by decide +kernel
theorem dX8_wire_13 : decode cX8_wire 13 = .ok (.ireturn, 1) := by decide +kernel
theorem dX8_tally_0 : decode cX8_tally 0 = .ok (.aload_n 0, 1) := by decide +kernel
theorem dX8_tally_1 : decode cX8_tally 1 = .ok (.getfield 7, 3) := by decide +kernel
theorem dX8_tally_4 : decode cX8_tally 4 = .ok (.bipush 7, 2) := by decide +kernel
theorem dX8_tally_6 : decode cX8_tally 6 = .ok (.iconst 4, 1) := by decide +kernel
theorem dX8_tally_7 : decode cX8_tally 7 = .ok (.iload_n 1, 1) := by decide +kernel
theorem dX8_tally_8 : decode cX8_tally 8 = .ok (.imul, 1) := by decide +kernel
theorem dX8_tally_9 : decode cX8_tally 9 = .ok (.iadd, 1) := by decide +kernel
theorem dX8_tally_10 : decode cX8_tally 10 = .ok (.iload_n 2, 1) := by decide +kernel
theorem dX8_tally_11 : decode cX8_tally 11 = .ok (.iadd, 1) := by decide +kernel
theorem dX8_tally_12 : decode cX8_tally 12 = .ok (.dup2, 1) := by decide +kernel
theorem dX8_tally_13 : decode cX8_tally 13 = .ok (.iaload, 1) := by decide +kernel
theorem dX8_tally_14 : decode cX8_tally 14 = .ok (.iconst 1, 1) := by decide +kernel
theorem dX8_tally_15 : decode cX8_tally 15 = .ok (.iadd, 1) := by decide +kernel
theorem dX8_tally_16 : decode cX8_tally 16 = .ok (.iastore, 1) := by decide +kernel
theorem dX8_tally_17 : decode cX8_tally 17 = .ok (.return_, 1) := by decide +kernel
theorem dX8_isAwake_0 : decode cX8_isAwake 0 = .ok (.aload_n 0, 1) := by decide +kernel
theorem dX8_isAwake_1 : decode cX8_isAwake 1 = .ok (.iload_n 1, 1) := by decide +kernel
theorem dX8_isAwake_2 : decode cX8_isAwake 2 = .ok (.iconst 2, 1) := by decide +kernel
theorem dX8_isAwake_3 : decode cX8_isAwake 3 = .ok (.invokevirtual 40, 3) := by decide +kernel
theorem dX8_isAwake_6 : decode cX8_isAwake 6 = .ok (.ifCond .ne 16, 3) := by decide +kernel
theorem dX8_isAwake_9 : decode cX8_isAwake 9 = .ok (.aload_n 0, 1) := by decide +kernel
theorem dX8_isAwake_10 : decode cX8_isAwake 10 = .ok (.iload_n 1, 1) := by decide +kernel
theorem dX8_isAwake_11 : decode cX8_isAwake 11 = .ok (.iconst 3, 1) := by decide +kernel
theorem dX8_isAwake_12 : decode cX8_isAwake 12 = .ok (.invokevirtual 40, 3) := by decide +kernel
theorem dX8_isAwake_15 : decode cX8_isAwake 15 = .ok (.ifCond .ne 7, 3) := by decide +kernel
theorem dX8_isAwake_18 : decode cX8_isAwake 18 = .ok (.iconst 1, 1) := by decide +kernel
theorem dX8_isAwake_19 : decode cX8_isAwake 19 = .ok (.goto 4, 3) := by decide +kernel
theorem dX8_isAwake_22 : decode cX8_isAwake 22 = .ok (.iconst 0, 1) := by decide +kernel
theorem dX8_isAwake_23 : decode cX8_isAwake 23 = .ok (.ireturn, 1) := by decide +kernel
theorem dX8_speaks_0 : decode cX8_speaks 0 = .ok (.aload_n 0, 1) := by decide +kernel
theorem dX8_speaks_1 : decode cX8_speaks 1 = .ok (.iload_n 1, 1) := by decide +kernel
theorem dX8_speaks_2 : decode cX8_speaks 2 = .ok (.bipush 17, 2) := by decide +kernel
theorem dX8_speaks_4 : decode cX8_speaks 4 = .ok (.invokevirtual 40, 3) := by decide +kernel
theorem dX8_speaks_7 : decode cX8_speaks 7 = .ok (.bipush (-6), 2) := by decide +kernel
theorem dX8_speaks_9 : decode cX8_speaks 9 = .ok (.if_icmp .eq 7, 3) := by decide +kernel
theorem dX8_speaks_12 : decode cX8_speaks 12 = .ok (.iconst 1, 1) := by decide +kernel
theorem dX8_speaks_13 : decode cX8_speaks 13 = .ok (.goto 4, 3) := by decide +kernel
theorem dX8_speaks_16 : decode cX8_speaks 16 = .ok (.iconst 0, 1) := by decide +kernel
theorem dX8_speaks_17 : decode cX8_speaks 17 = .ok (.ireturn, 1) := by decide +kernel
theorem dX8_firstWire_0 : decode cX8_firstWire 0 = .ok (.aload_n 0, 1) := by decide +kernel
theorem dX8_firstWire_1 : decode cX8_firstWire 1 = .ok (.iload_n 1, 1) := by decide +kernel
theorem dX8_firstWire_2 : decode cX8_firstWire 2 = .ok (.bipush 6, 2) := by decide +kernel
theorem dX8_firstWire_4 : decode cX8_firstWire 4 = .ok (.invokevirtual 40, 3) := by decide +kernel
theorem dX8_firstWire_7 : decode cX8_firstWire 7 = .ok (.ireturn, 1) := by decide +kernel
theorem dX8_record_0 : decode cX8_record 0 = .ok (.aload_n 0, 1) := by decide +kernel
theorem dX8_record_1 : decode cX8_record 1 = .ok (.getfield 44, 3) := by decide +kernel
theorem dX8_record_4 : decode cX8_record 4 = .ok (.bipush 6, 2) := by decide +kernel
theorem dX8_record_6 : decode cX8_record 6 = .ok (.if_icmp .ne 44, 3) := by decide +kernel
theorem dX8_record_9 : decode cX8_record 9 = .ok (.iconst 0, 1) := by decide +kernel
theorem dX8_record_10 : decode cX8_record 10 = .ok (.istore_n 1, 1) := by decide +kernel
theorem dX8_record_11 : decode cX8_record 11 = .ok (.iload_n 1, 1) := by decide +kernel
theorem dX8_record_12 : decode cX8_record 12 = .ok (.sipush 1755, 3) := by decide +kernel
theorem dX8_record_15 : decode cX8_record 15 = .ok (.if_icmp .ge 25, 3) := by decide +kernel
theorem dX8_record_18 : decode cX8_record 18 = .ok (.aload_n 0, 1) := by decide +kernel
theorem dX8_record_19 : decode cX8_record 19 = .ok (.getfield 13, 3) := by decide +kernel
theorem dX8_record_22 : decode cX8_record 22 = .ok (.iload_n 1, 1) := by decide +kernel
theorem dX8_record_23 : decode cX8_record 23 = .ok (.aload_n 0, 1) := by decide +kernel
theorem dX8_record_24 : decode cX8_record 24 = .ok (.getfield 13, 3) := by decide +kernel
theorem dX8_record_27 : decode cX8_record 27 = .ok (.iload_n 1, 1) := by decide +kernel
theorem dX8_record_28 : decode cX8_record 28 = .ok (.sipush 351, 3) := by decide +kernel
theorem dX8_record_31 : decode cX8_record 31 = .ok (.iadd, 1) := by decide +kernel
theorem dX8_record_32 : decode cX8_record 32 = .ok (.iaload, 1) := by decide +kernel
theorem dX8_record_33 : decode cX8_record 33 = .ok (.iastore, 1) := by decide +kernel
theorem dX8_record_34 : decode cX8_record 34 = .ok (.iinc 1 1, 3) := by decide +kernel
theorem dX8_record_37 : decode cX8_record 37 = .ok (.goto (-26), 3) := by decide +kernel
theorem dX8_record_40 : decode cX8_record 40 = .ok (.aload_n 0, 1) := by decide +kernel
theorem dX8_record_41 : decode cX8_record 41 = .ok (.dup, 1) := by decide +kernel
theorem dX8_record_42 : decode cX8_record 42 = .ok (.getfield 44, 3) := by decide +kernel
theorem dX8_record_45 : decode cX8_record 45 = .ok (.iconst 1, 1) := by decide +kernel
theorem dX8_record_46 : decode cX8_record 46 = .ok (.isub, 1) := by decide +kernel
theorem dX8_record_47 : decode cX8_record 47 = .ok (.putfield 44, 3) := by decide +kernel
theorem dX8_record_50 : decode cX8_record 50 = .ok (.iconst 0, 1) := by decide +kernel
theorem dX8_record_51 : decode cX8_record 51 = .ok (.istore_n 1, 1) := by decide +kernel
theorem dX8_record_52 : decode cX8_record 52 = .ok (.iload_n 1, 1) := by decide +kernel
theorem dX8_record_53 : decode cX8_record 53 = .ok (.sipush 351, 3) := by decide +kernel
theorem dX8_record_56 : decode cX8_record 56 = .ok (.if_icmp .ge 30, 3) := by decide +kernel
theorem dX8_record_59 : decode cX8_record 59 = .ok (.aload_n 0, 1) := by decide +kernel
theorem dX8_record_60 : decode cX8_record 60 = .ok (.getfield 13, 3) := by decide +kernel
theorem dX8_record_63 : decode cX8_record 63 = .ok (.aload_n 0, 1) := by decide +kernel
theorem dX8_record_64 : decode cX8_record 64 = .ok (.getfield 44, 3) := by decide +kernel
theorem dX8_record_67 : decode cX8_record 67 = .ok (.sipush 351, 3) := by decide +kernel
theorem dX8_record_70 : decode cX8_record 70 = .ok (.imul, 1) := by decide +kernel
theorem dX8_record_71 : decode cX8_record 71 = .ok (.iload_n 1, 1) := by decide +kernel
theorem dX8_record_72 : decode cX8_record 72 = .ok (.iadd, 1) := by decide +kernel
theorem dX8_record_73 : decode cX8_record 73 = .ok (.aload_n 0, 1) := by decide +kernel
theorem dX8_record_74 : decode cX8_record 74 = .ok (.getfield 7, 3) := by decide +kernel
theorem dX8_record_77 : decode cX8_record 77 = .ok (.iload_n 1, 1) := by decide +kernel
theorem dX8_record_78 : decode cX8_record 78 = .ok (.iaload, 1) := by decide +kernel
theorem dX8_record_79 : decode cX8_record 79 = .ok (.iastore, 1) := by decide +kernel
theorem dX8_record_80 : decode cX8_record 80 = .ok (.iinc 1 1, 3) := by decide +kernel
theorem dX8_record_83 : decode cX8_record 83 = .ok (.goto (-31), 3) := by decide +kernel
theorem dX8_record_86 : decode cX8_record 86 = .ok (.aload_n 0, 1) := by decide +kernel
theorem dX8_record_87 : decode cX8_record 87 = .ok (.dup, 1) := by decide +kernel
theorem dX8_record_88 : decode cX8_record 88 = .ok (.getfield 44, 3) := by decide +kernel
theorem dX8_record_91 : decode cX8_record 91 = .ok (.iconst 1, 1) := by decide +kernel
theorem dX8_record_92 : decode cX8_record 92 = .ok (.iadd, 1) := by decide +kernel
theorem dX8_record_93 : decode cX8_record 93 = .ok (.putfield 44, 3) := by decide +kernel
theorem dX8_record_96 : decode cX8_record 96 = .ok (.return_, 1) := by decide +kernel
theorem dX8_undo_0 : decode cX8_undo 0 = .ok (.aload_n 0, 1) := by decide +kernel
theorem dX8_undo_1 : decode cX8_undo 1 = .ok (.getfield 44, 3) := by decide +kernel
theorem dX8_undo_4 : decode cX8_undo 4 = .ok (.ifCond .ne 6, 3) := by decide +kernel
theorem dX8_undo_7 : decode cX8_undo 7 = .ok (.bipush (-5), 2) := by decide +kernel
theorem dX8_undo_9 : decode cX8_undo 9 = .ok (.ireturn, 1) := by decide +kernel
theorem dX8_undo_10 : decode cX8_undo 10 = .ok (.aload_n 0, 1) := by decide +kernel
theorem dX8_undo_11 : decode cX8_undo 11 = .ok (.dup, 1) := by decide +kernel
theorem dX8_undo_12 : decode cX8_undo 12 = .ok (.getfield 44, 3) := by decide +kernel
theorem dX8_undo_15 : decode cX8_undo 15 = .ok (.iconst 1, 1) := by decide +kernel
theorem dX8_undo_16 : decode cX8_undo 16 = .ok (.isub, 1) := by decide +kernel
theorem dX8_undo_17 : decode cX8_undo 17 = .ok (.putfield 44, 3) := by decide +kernel
theorem dX8_undo_20 : decode cX8_undo 20 = .ok (.iconst 0, 1) := by decide +kernel
theorem dX8_undo_21 : decode cX8_undo 21 = .ok (.istore_n 1, 1) := by decide +kernel
theorem dX8_undo_22 : decode cX8_undo 22 = .ok (.iload_n 1, 1) := by decide +kernel
theorem dX8_undo_23 : decode cX8_undo 23 = .ok (.sipush 351, 3) := by decide +kernel
theorem dX8_undo_26 : decode cX8_undo 26 = .ok (.if_icmp .ge 30, 3) := by decide +kernel
theorem dX8_undo_29 : decode cX8_undo 29 = .ok (.aload_n 0, 1) := by decide +kernel
theorem dX8_undo_30 : decode cX8_undo 30 = .ok (.getfield 7, 3) := by decide +kernel
theorem dX8_undo_33 : decode cX8_undo 33 = .ok (.iload_n 1, 1) := by decide +kernel
theorem dX8_undo_34 : decode cX8_undo 34 = .ok (.aload_n 0, 1) := by decide +kernel
theorem dX8_undo_35 : decode cX8_undo 35 = .ok (.getfield 13, 3) := by decide +kernel
theorem dX8_undo_38 : decode cX8_undo 38 = .ok (.aload_n 0, 1) := by decide +kernel
theorem dX8_undo_39 : decode cX8_undo 39 = .ok (.getfield 44, 3) := by decide +kernel
theorem dX8_undo_42 : decode cX8_undo 42 = .ok (.sipush 351, 3) := by decide +kernel
theorem dX8_undo_45 : decode cX8_undo 45 = .ok (.imul, 1) := by decide +kernel
theorem dX8_undo_46 : decode cX8_undo 46 = .ok (.iload_n 1, 1) := by decide +kernel
theorem dX8_undo_47 : decode cX8_undo 47 = .ok (.iadd, 1) := by decide +kernel
theorem dX8_undo_48 : decode cX8_undo 48 = .ok (.iaload, 1) := by decide +kernel
theorem dX8_undo_49 : decode cX8_undo 49 = .ok (.iastore, 1) := by decide +kernel
theorem dX8_undo_50 : decode cX8_undo 50 = .ok (.iinc 1 1, 3) := by decide +kernel
theorem dX8_undo_53 : decode cX8_undo 53 = .ok (.goto (-31), 3) := by decide +kernel
theorem dX8_undo_56 : decode cX8_undo 56 = .ok (.aload_n 0, 1) := by decide +kernel
theorem dX8_undo_57 : decode cX8_undo 57 = .ok (.getfield 44, 3) := by decide +kernel
theorem dX8_undo_60 : decode cX8_undo 60 = .ok (.ireturn, 1) := by decide +kernel
theorem dX8_save_0 : decode cX8_save 0 = .ok (.iload_n 1, 1) := by decide +kernel
theorem dX8_save_1 : decode cX8_save 1 = .ok (.iconst 0, 1) := by decide +kernel
theorem dX8_save_2 : decode cX8_save 2 = .ok (.iconst 1, 1) := by decide +kernel
theorem dX8_save_3 : decode cX8_save 3 = .ok (.invokestatic 36, 3) := by decide +kernel
theorem dX8_save_6 : decode cX8_save 6 = .ok (.ifCond .ne 6, 3) := by decide +kernel
theorem dX8_save_9 : decode cX8_save 9 = .ok (.bipush (-2), 2) := by decide +kernel
theorem dX8_save_11 : decode cX8_save 11 = .ok (.ireturn, 1) := by decide +kernel
theorem dX8_save_12 : decode cX8_save 12 = .ok (.aload_n 0, 1) := by decide +kernel
theorem dX8_save_13 : decode cX8_save 13 = .ok (.getfield 19, 3) := by decide +kernel
theorem dX8_save_16 : decode cX8_save 16 = .ok (.iload_n 1, 1) := by decide +kernel
theorem dX8_save_17 : decode cX8_save 17 = .ok (.iconst 1, 1) := by decide +kernel
theorem dX8_save_18 : decode cX8_save 18 = .ok (.bastore, 1) := by decide +kernel
theorem dX8_save_19 : decode cX8_save 19 = .ok (.iconst 0, 1) := by decide +kernel
theorem dX8_save_20 : decode cX8_save 20 = .ok (.istore_n 2, 1) := by decide +kernel
theorem dX8_save_21 : decode cX8_save 21 = .ok (.iload_n 2, 1) := by decide +kernel
theorem dX8_save_22 : decode cX8_save 22 = .ok (.sipush 351, 3) := by decide +kernel
theorem dX8_save_25 : decode cX8_save 25 = .ok (.if_icmp .ge 27, 3) := by decide +kernel
theorem dX8_save_28 : decode cX8_save 28 = .ok (.aload_n 0, 1) := by decide +kernel
theorem dX8_save_29 : decode cX8_save 29 = .ok (.getfield 16, 3) := by decide +kernel
theorem dX8_save_32 : decode cX8_save 32 = .ok (.iload_n 1, 1) := by decide +kernel
theorem dX8_save_33 : decode cX8_save 33 = .ok (.sipush 351, 3) := by decide +kernel
theorem dX8_save_36 : decode cX8_save 36 = .ok (.imul, 1) := by decide +kernel
theorem dX8_save_37 : decode cX8_save 37 = .ok (.iload_n 2, 1) := by decide +kernel
theorem dX8_save_38 : decode cX8_save 38 = .ok (.iadd, 1) := by decide +kernel
theorem dX8_save_39 : decode cX8_save 39 = .ok (.aload_n 0, 1) := by decide +kernel
theorem dX8_save_40 : decode cX8_save 40 = .ok (.getfield 7, 3) := by decide +kernel
theorem dX8_save_43 : decode cX8_save 43 = .ok (.iload_n 2, 1) := by decide +kernel
theorem dX8_save_44 : decode cX8_save 44 = .ok (.iaload, 1) := by decide +kernel
theorem dX8_save_45 : decode cX8_save 45 = .ok (.iastore, 1) := by decide +kernel
theorem dX8_save_46 : decode cX8_save 46 = .ok (.iinc 2 1, 3) := by decide +kernel
theorem dX8_save_49 : decode cX8_save 49 = .ok (.goto (-28), 3) := by decide +kernel
theorem dX8_save_52 : decode cX8_save 52 = .ok (.aload_n 0, 1) := by decide +kernel
theorem dX8_save_53 : decode cX8_save 53 = .ok (.getfield 7, 3) := by decide +kernel
theorem dX8_save_56 : decode cX8_save 56 = .ok (.bipush 6, 2) := by decide +kernel
theorem dX8_save_58 : decode cX8_save 58 = .ok (.iaload, 1) := by decide +kernel
theorem dX8_save_59 : decode cX8_save 59 = .ok (.ireturn, 1) := by decide +kernel
theorem dX8_restore_0 : decode cX8_restore 0 = .ok (.iload_n 1, 1) := by decide +kernel
theorem dX8_restore_1 : decode cX8_restore 1 = .ok (.iconst 0, 1) := by decide +kernel
theorem dX8_restore_2 : decode cX8_restore 2 = .ok (.iconst 1, 1) := by decide +kernel
theorem dX8_restore_3 : decode cX8_restore 3 = .ok (.invokestatic 36, 3) := by decide +kernel
theorem dX8_restore_6 : decode cX8_restore 6 = .ok (.ifCond .ne 6, 3) := by decide +kernel
theorem dX8_restore_9 : decode cX8_restore 9 = .ok (.bipush (-2), 2) := by decide +kernel
theorem dX8_restore_11 : decode cX8_restore 11 = .ok (.ireturn, 1) := by decide +kernel
theorem dX8_restore_12 : decode cX8_restore 12 = .ok (.aload_n 0, 1) := by decide +kernel
theorem dX8_restore_13 : decode cX8_restore 13 = .ok (.getfield 19, 3) := by decide +kernel
theorem dX8_restore_16 : decode cX8_restore 16 = .ok (.iload_n 1, 1) := by decide +kernel
theorem dX8_restore_17 : decode cX8_restore 17 = .ok (.baload, 1) := by decide +kernel
theorem dX8_restore_18 : decode cX8_restore 18 = .ok (.ifCond .ne 6, 3) := by decide +kernel
theorem dX8_restore_21 : decode cX8_restore 21 = .ok (.bipush (-5), 2) := by decide +kernel
theorem dX8_restore_23 : decode cX8_restore 23 = .ok (.ireturn, 1) := by decide +kernel
theorem dX8_restore_24 : decode cX8_restore 24 = .ok (.aload_n 0, 1) := by decide +kernel
theorem dX8_restore_25 : decode cX8_restore 25 = .ok (.invokevirtual 48, 3) := by decide +kernel
theorem dX8_restore_28 : decode cX8_restore 28 = .ok (.iconst 0, 1) := by decide +kernel
theorem dX8_restore_29 : decode cX8_restore 29 = .ok (.istore_n 2, 1) := by decide +kernel
theorem dX8_restore_30 : decode cX8_restore 30 = .ok (.iload_n 2, 1) := by decide +kernel
theorem dX8_restore_31 : decode cX8_restore 31 = .ok (.sipush 351, 3) := by decide +kernel
theorem dX8_restore_34 : decode cX8_restore 34 = .ok (.if_icmp .ge 27, 3) := by decide +kernel
theorem dX8_restore_37 : decode cX8_restore 37 = .ok (.aload_n 0, 1) := by decide +kernel
theorem dX8_restore_38 : decode cX8_restore 38 = .ok (.getfield 7, 3) := by decide +kernel
theorem dX8_restore_41 : decode cX8_restore 41 = .ok (.iload_n 2, 1) := by decide +kernel
theorem dX8_restore_42 : decode cX8_restore 42 = .ok (.aload_n 0, 1) := by decide +kernel
theorem dX8_restore_43 : decode cX8_restore 43 = .ok (.getfield 16, 3) := by decide +kernel
theorem dX8_restore_46 : decode cX8_restore 46 = .ok (.iload_n 1, 1) := by decide +kernel
theorem dX8_restore_47 : decode cX8_restore 47 = .ok (.sipush 351, 3) := by decide +kernel
theorem dX8_restore_50 : decode cX8_restore 50 = .ok (.imul, 1) := by decide +kernel
theorem dX8_restore_51 : decode cX8_restore 51 = .ok (.iload_n 2, 1) := by decide +kernel
theorem dX8_restore_52 : decode cX8_restore 52 = .ok (.iadd, 1) := by decide +kernel
theorem dX8_restore_53 : decode cX8_restore 53 = .ok (.iaload, 1) := by decide +kernel
theorem dX8_restore_54 : decode cX8_restore 54 = .ok (.iastore, 1) := by decide +kernel
theorem dX8_restore_55 : decode cX8_restore 55 = .ok (.iinc 2 1, 3) := by decide +kernel
theorem dX8_restore_58 : decode cX8_restore 58 = .ok (.goto (-28), 3) := by decide +kernel
theorem dX8_restore_61 : decode cX8_restore 61 = .ok (.aload_n 0, 1) := by decide +kernel
theorem dX8_restore_62 : decode cX8_restore 62 = .ok (.getfield 7, 3) := by decide +kernel
theorem dX8_restore_65 : decode cX8_restore 65 = .ok (.bipush 6, 2) := by decide +kernel
theorem dX8_restore_67 : decode cX8_restore 67 = .ok (.iaload, 1) := by decide +kernel
theorem dX8_restore_68 : decode cX8_restore 68 = .ok (.ireturn, 1) := by decide +kernel
theorem dX8_putAside_0 : decode cX8_putAside 0 = .ok (.iconst 0, 1) := by decide +kernel
theorem dX8_putAside_1 : decode cX8_putAside 1 = .ok (.istore_n 1, 1) := by decide +kernel
theorem dX8_putAside_2 : decode cX8_putAside 2 = .ok (.iload_n 1, 1) := by decide +kernel
theorem dX8_putAside_3 : decode cX8_putAside 3 = .ok (.sipush 351, 3) := by decide +kernel
theorem dX8_putAside_6 : decode cX8_putAside 6 = .ok (.if_icmp .ge 21, 3) := by decide +kernel
theorem dX8_putAside_9 : decode cX8_putAside 9 = .ok (.aload_n 0, 1) := by decide +kernel
theorem dX8_putAside_10 : decode cX8_putAside 10 = .ok (.getfield 23, 3) := by decide +kernel
theorem dX8_putAside_13 : decode cX8_putAside 13 = .ok (.iload_n 1, 1) := by decide +kernel
theorem dX8_putAside_14 : decode cX8_putAside 14 = .ok (.aload_n 0, 1) := by decide +kernel
theorem dX8_putAside_15 : decode cX8_putAside 15 = .ok (.getfield 7, 3) := by decide +kernel
theorem dX8_putAside_18 : decode cX8_putAside 18 = .ok (.iload_n 1, 1) := by decide +kernel
theorem dX8_putAside_19 : decode cX8_putAside 19 = .ok (.iaload, 1) := by decide +kernel
theorem dX8_putAside_20 : decode cX8_putAside 20 = .ok (.iastore, 1) := by decide +kernel
theorem dX8_putAside_21 : decode cX8_putAside 21 = .ok (.iinc 1 1, 3) := by decide +kernel
theorem dX8_putAside_24 : decode cX8_putAside 24 = .ok (.goto (-22), 3) := by decide +kernel
theorem dX8_putAside_27 : decode cX8_putAside 27 = .ok (.return_, 1) := by decide +kernel
theorem dX8_bringBack_0 : decode cX8_bringBack 0 = .ok (.iconst 0, 1) := by decide +kernel
theorem dX8_bringBack_1 : decode cX8_bringBack 1 = .ok (.istore_n 1, 1) := by decide +kernel
theorem dX8_bringBack_2 : decode cX8_bringBack 2 = .ok (.iload_n 1, 1) := by decide +kernel
theorem dX8_bringBack_3 : decode cX8_bringBack 3 = .ok (.sipush 351, 3) := by decide +kernel
theorem dX8_bringBack_6 : decode cX8_bringBack 6 = .ok (.if_icmp .ge 21, 3) := by decide +kernel
theorem dX8_bringBack_9 : decode cX8_bringBack 9 = .ok (.aload_n 0, 1) := by decide +kernel
theorem dX8_bringBack_10 : decode cX8_bringBack 10 = .ok (.getfield 7, 3) := by decide +kernel
theorem dX8_bringBack_13 : decode cX8_bringBack 13 = .ok (.iload_n 1, 1) := by decide +kernel
theorem dX8_bringBack_14 : decode cX8_bringBack 14 = .ok (.aload_n 0, 1) := by decide +kernel
theorem dX8_bringBack_15 : decode cX8_bringBack 15 = .ok (.getfield 23, 3) := by decide +kernel
theorem dX8_bringBack_18 : decode cX8_bringBack 18 = .ok (.iload_n 1, 1) := by decide +kernel
theorem dX8_bringBack_19 : decode cX8_bringBack 19 = .ok (.iaload, 1) := by decide +kernel
theorem dX8_bringBack_20 : decode cX8_bringBack 20 = .ok (.iastore, 1) := by decide +kernel
theorem dX8_bringBack_21 : decode cX8_bringBack 21 = .ok (.iinc 1 1, 3) := by decide +kernel
theorem dX8_bringBack_24 : decode cX8_bringBack 24 = .ok (.goto (-22), 3) := by decide +kernel
theorem dX8_bringBack_27 : decode cX8_bringBack 27 = .ok (.return_, 1) := by decide +kernel
theorem dX8_isValue_0 : decode cX8_isValue 0 = .ok (.iload_n 0, 1) := by decide +kernel
theorem dX8_isValue_1 : decode cX8_isValue 1 = .ok (.tableswitch 59 0 4 #[35, 43, 59, 59, 51], 35) := by decide +kernel
theorem dX8_isValue_36 : decode cX8_isValue 36 = .ok (.iload_n 1, 1) := by decide +kernel
theorem dX8_isValue_37 : decode cX8_isValue 37 = .ok (.iconst 1, 1) := by decide +kernel
theorem dX8_isValue_38 : decode cX8_isValue 38 = .ok (.bipush 20, 2) := by decide +kernel
theorem dX8_isValue_40 : decode cX8_isValue 40 = .ok (.invokestatic 36, 3) := by decide +kernel
theorem dX8_isValue_43 : decode cX8_isValue 43 = .ok (.ireturn, 1) := by decide +kernel
theorem dX8_isValue_44 : decode cX8_isValue 44 = .ok (.iload_n 1, 1) := by decide +kernel
theorem dX8_isValue_45 : decode cX8_isValue 45 = .ok (.iconst 2, 1) := by decide +kernel
theorem dX8_isValue_46 : decode cX8_isValue 46 = .ok (.bipush 99, 2) := by decide +kernel
theorem dX8_isValue_48 : decode cX8_isValue 48 = .ok (.invokestatic 36, 3) := by decide +kernel
theorem dX8_isValue_51 : decode cX8_isValue 51 = .ok (.ireturn, 1) := by decide +kernel
theorem dX8_isValue_52 : decode cX8_isValue 52 = .ok (.iload_n 1, 1) := by decide +kernel
theorem dX8_isValue_53 : decode cX8_isValue 53 = .ok (.iconst 1, 1) := by decide +kernel
theorem dX8_isValue_54 : decode cX8_isValue 54 = .ok (.bipush 9, 2) := by decide +kernel
theorem dX8_isValue_56 : decode cX8_isValue 56 = .ok (.invokestatic 36, 3) := by decide +kernel
theorem dX8_isValue_59 : decode cX8_isValue 59 = .ok (.ireturn, 1) := by decide +kernel
theorem dX8_isValue_60 : decode cX8_isValue 60 = .ok (.iload_n 1, 1) := by decide +kernel
theorem dX8_isValue_61 : decode cX8_isValue 61 = .ok (.iconst 0, 1) := by decide +kernel
theorem dX8_isValue_62 : decode cX8_isValue 62 = .ok (.bipush 9, 2) := by decide +kernel
theorem dX8_isValue_64 : decode cX8_isValue 64 = .ok (.invokestatic 36, 3) := by decide +kernel
theorem dX8_isValue_67 : decode cX8_isValue 67 = .ok (.ireturn, 1) := by decide +kernel
theorem dX8_set_0 : decode cX8_set 0 = .ok (.iload_n 1, 1) := by decide +kernel
theorem dX8_set_1 : decode cX8_set 1 = .ok (.iconst 0, 1) := by decide +kernel
theorem dX8_set_2 : decode cX8_set 2 = .ok (.iconst 4, 1) := by decide +kernel
theorem dX8_set_3 : decode cX8_set 3 = .ok (.invokestatic 36, 3) := by decide +kernel
theorem dX8_set_6 : decode cX8_set 6 = .ok (.ifCond .eq 11, 3) := by decide +kernel
theorem dX8_set_9 : decode cX8_set 9 = .ok (.iload_n 1, 1) := by decide +kernel
theorem dX8_set_10 : decode cX8_set 10 = .ok (.iload_n 2, 1) := by decide +kernel
theorem dX8_set_11 : decode cX8_set 11 = .ok (.invokestatic 51, 3) := by decide +kernel
theorem dX8_set_14 : decode cX8_set 14 = .ok (.ifCond .ne 6, 3) := by decide +kernel
theorem dX8_set_17 : decode cX8_set 17 = .ok (.bipush (-2), 2) := by decide +kernel
theorem dX8_set_19 : decode cX8_set 19 = .ok (.ireturn, 1) := by decide +kernel
theorem dX8_set_20 : decode cX8_set 20 = .ok (.aload_n 0, 1) := by decide +kernel
theorem dX8_set_21 : decode cX8_set 21 = .ok (.invokevirtual 48, 3) := by decide +kernel
theorem dX8_set_24 : decode cX8_set 24 = .ok (.aload_n 0, 1) := by decide +kernel
theorem dX8_set_25 : decode cX8_set 25 = .ok (.getfield 7, 3) := by decide +kernel
theorem dX8_set_28 : decode cX8_set 28 = .ok (.iload_n 1, 1) := by decide +kernel
theorem dX8_set_29 : decode cX8_set 29 = .ok (.iaload, 1) := by decide +kernel
theorem dX8_set_30 : decode cX8_set 30 = .ok (.istore_n 3, 1) := by decide +kernel
theorem dX8_set_31 : decode cX8_set 31 = .ok (.aload_n 0, 1) := by decide +kernel
theorem dX8_set_32 : decode cX8_set 32 = .ok (.getfield 7, 3) := by decide +kernel
theorem dX8_set_35 : decode cX8_set 35 = .ok (.iload_n 1, 1) := by decide +kernel
theorem dX8_set_36 : decode cX8_set 36 = .ok (.iload_n 2, 1) := by decide +kernel
theorem dX8_set_37 : decode cX8_set 37 = .ok (.iastore, 1) := by decide +kernel
theorem dX8_set_38 : decode cX8_set 38 = .ok (.iconst 0, 1) := by decide +kernel
theorem dX8_set_39 : decode cX8_set 39 = .ok (.istore 4, 2) := by decide +kernel
theorem dX8_set_41 : decode cX8_set 41 = .ok (.iload 4, 2) := by decide +kernel
theorem dX8_set_43 : decode cX8_set 43 = .ok (.aload_n 0, 1) := by decide +kernel
theorem dX8_set_44 : decode cX8_set 44 = .ok (.getfield 7, 3) := by decide +kernel
theorem dX8_set_47 : decode cX8_set 47 = .ok (.bipush 6, 2) := by decide +kernel
theorem dX8_set_49 : decode cX8_set 49 = .ok (.iaload, 1) := by decide +kernel
theorem dX8_set_50 : decode cX8_set 50 = .ok (.if_icmp .ge 48, 3) := by decide +kernel
theorem dX8_set_53 : decode cX8_set 53 = .ok (.aload_n 0, 1) := by decide +kernel
theorem dX8_set_54 : decode cX8_set 54 = .ok (.iload 4, 2) := by decide +kernel
theorem dX8_set_56 : decode cX8_set 56 = .ok (.iconst 1, 1) := by decide +kernel
theorem dX8_set_57 : decode cX8_set 57 = .ok (.aload_n 0, 1) := by decide +kernel
theorem dX8_set_58 : decode cX8_set 58 = .ok (.iload 4, 2) := by decide +kernel
theorem dX8_set_60 : decode cX8_set 60 = .ok (.iconst 1, 1) := by decide +kernel
theorem dX8_set_61 : decode cX8_set 61 = .ok (.invokevirtual 40, 3) := by decide +kernel
theorem dX8_set_64 : decode cX8_set 64 = .ok (.aload_n 0, 1) := by decide +kernel
theorem dX8_set_65 : decode cX8_set 65 = .ok (.getfield 7, 3) := by decide +kernel
theorem dX8_set_68 : decode cX8_set 68 = .ok (.iconst 1, 1) := by decide +kernel
theorem dX8_set_69 : decode cX8_set 69 = .ok (.iaload, 1) := by decide +kernel
theorem dX8_set_70 : decode cX8_set 70 = .ok (.if_icmp .le 12, 3) := by decide +kernel
theorem dX8_set_73 : decode cX8_set 73 = .ok (.aload_n 0, 1) := by decide +kernel
theorem dX8_set_74 : decode cX8_set 74 = .ok (.getfield 7, 3) := by decide +kernel
theorem dX8_set_77 : decode cX8_set 77 = .ok (.iconst 1, 1) := by decide +kernel
theorem dX8_set_78 : decode cX8_set 78 = .ok (.iaload, 1) := by decide +kernel
theorem dX8_set_79 : decode cX8_set 79 = .ok (.goto 10, 3) := by decide +kernel
theorem dX8_set_82 : decode cX8_set 82 = .ok (.aload_n 0, 1) := by decide +kernel
theorem dX8_set_83 : decode cX8_set 83 = .ok (.iload 4, 2) := by decide +kernel
theorem dX8_set_85 : decode cX8_set 85 = .ok (.iconst 1, 1) := by decide +kernel
theorem dX8_set_86 : decode cX8_set 86 = .ok (.invokevirtual 40, 3) := by decide +kernel
theorem dX8_set_89 : decode cX8_set 89 = .ok (.invokevirtual 55, 3) := by decide +kernel
theorem dX8_set_92 : decode cX8_set 92 = .ok (.iinc 4 1, 3) := by decide +kernel
theorem dX8_set_95 : decode cX8_set 95 = .ok (.goto (-54), 3) := by decide +kernel
theorem dX8_set_98 : decode cX8_set 98 = .ok (.iload_n 3, 1) := by decide +kernel
theorem dX8_set_99 : decode cX8_set 99 = .ok (.ireturn, 1) := by decide +kernel
theorem dX8_whyNotStation_0 : decode cX8_whyNotStation 0 = .ok (.iload_n 1, 1) := by decide +kernel
theorem dX8_whyNotStation_1 : decode cX8_whyNotStation 1 = .ok (.iconst 1, 1) := by decide +kernel
theorem dX8_whyNotStation_2 : decode cX8_whyNotStation 2 = .ok (.bipush 63, 2) := by decide +kernel
theorem dX8_whyNotStation_4 : decode cX8_whyNotStation 4 = .ok (.invokestatic 36, 3) := by decide +kernel
theorem dX8_whyNotStation_7 : decode cX8_whyNotStation 7 = .ok (.ifCond .ne 8, 3) := by decide +kernel
theorem dX8_whyNotStation_10 : decode cX8_whyNotStation 10 = .ok (.bipush (-2), 2) := by decide +kernel
theorem dX8_whyNotStation_12 : decode cX8_whyNotStation 12 = .ok (.goto 21, 3) := by decide +kernel
theorem dX8_whyNotStation_15 : decode cX8_whyNotStation 15 = .ok (.aload_n 0, 1) := by decide +kernel
theorem dX8_whyNotStation_16 : decode cX8_whyNotStation 16 = .ok (.getfield 7, 3) := by decide +kernel
theorem dX8_whyNotStation_19 : decode cX8_whyNotStation 19 = .ok (.bipush 6, 2) := by decide +kernel
theorem dX8_whyNotStation_21 : decode cX8_whyNotStation 21 = .ok (.iaload, 1) := by decide +kernel
theorem dX8_whyNotStation_22 : decode cX8_whyNotStation 22 = .ok (.bipush 8, 2) := by decide +kernel
theorem dX8_whyNotStation_24 : decode cX8_whyNotStation 24 = .ok (.if_icmp .ne 8, 3) := by decide +kernel
theorem dX8_whyNotStation_27 : decode cX8_whyNotStation 27 = .ok (.bipush (-4), 2) := by decide +kernel
theorem dX8_whyNotStation_29 : decode cX8_whyNotStation 29 = .ok (.goto 4, 3) := by decide +kernel
theorem dX8_whyNotStation_32 : decode cX8_whyNotStation 32 = .ok (.iconst 0, 1) := by decide +kernel
theorem dX8_whyNotStation_33 : decode cX8_whyNotStation 33 = .ok (.ireturn, 1) := by decide +kernel
theorem dX8_comes_0 : decode cX8_comes 0 = .ok (.aload_n 0, 1) := by decide +kernel
theorem dX8_comes_1 : decode cX8_comes 1 = .ok (.getfield 7, 3) := by decide +kernel
theorem dX8_comes_4 : decode cX8_comes 4 = .ok (.bipush 6, 2) := by decide +kernel
theorem dX8_comes_6 : decode cX8_comes 6 = .ok (.iaload, 1) := by decide +kernel
theorem dX8_comes_7 : decode cX8_comes 7 = .ok (.istore_n 2, 1) := by decide +kernel
theorem dX8_comes_8 : decode cX8_comes 8 = .ok (.iconst 0, 1) := by decide +kernel
theorem dX8_comes_9 : decode cX8_comes 9 = .ok (.istore_n 3, 1) := by decide +kernel
theorem dX8_comes_10 : decode cX8_comes 10 = .ok (.iload_n 3, 1) := by decide +kernel
theorem dX8_comes_11 : decode cX8_comes 11 = .ok (.bipush 40, 2) := by decide +kernel
theorem dX8_comes_13 : decode cX8_comes 13 = .ok (.if_icmp .ge 16, 3) := by decide +kernel
theorem dX8_comes_16 : decode cX8_comes 16 = .ok (.aload_n 0, 1) := by decide +kernel
theorem dX8_comes_17 : decode cX8_comes 17 = .ok (.iload_n 2, 1) := by decide +kernel
theorem dX8_comes_18 : decode cX8_comes 18 = .ok (.iload_n 3, 1) := by decide +kernel
theorem dX8_comes_19 : decode cX8_comes 19 = .ok (.iconst 0, 1) := by decide +kernel
theorem dX8_comes_20 : decode cX8_comes 20 = .ok (.invokevirtual 55, 3) := by decide +kernel
theorem dX8_comes_23 : decode cX8_comes 23 = .ok (.iinc 3 1, 3) := by decide +kernel
theorem dX8_comes_26 : decode cX8_comes 26 = .ok (.goto (-16), 3) := by decide +kernel
theorem dX8_comes_29 : decode cX8_comes 29 = .ok (.aload_n 0, 1) := by decide +kernel
theorem dX8_comes_30 : decode cX8_comes 30 = .ok (.iload_n 2, 1) := by decide +kernel
theorem dX8_comes_31 : decode cX8_comes 31 = .ok (.iconst 0, 1) := by decide +kernel
theorem dX8_comes_32 : decode cX8_comes 32 = .ok (.iload_n 1, 1) := by decide +kernel
theorem dX8_comes_33 : decode cX8_comes 33 = .ok (.invokevirtual 55, 3) := by decide +kernel
theorem dX8_comes_36 : decode cX8_comes 36 = .ok (.aload_n 0, 1) := by decide +kernel
theorem dX8_comes_37 : decode cX8_comes 37 = .ok (.iload_n 2, 1) := by decide +kernel
theorem dX8_comes_38 : decode cX8_comes 38 = .ok (.iconst 1, 1) := by decide +kernel
theorem dX8_comes_39 : decode cX8_comes 39 = .ok (.aload_n 0, 1) := by decide +kernel
theorem dX8_comes_40 : decode cX8_comes 40 = .ok (.getfield 7, 3) := by decide +kernel
theorem dX8_comes_43 : decode cX8_comes 43 = .ok (.iconst 1, 1) := by decide +kernel
theorem dX8_comes_44 : decode cX8_comes 44 = .ok (.iaload, 1) := by decide +kernel
theorem dX8_comes_45 : decode cX8_comes 45 = .ok (.invokevirtual 55, 3) := by decide +kernel
theorem dX8_comes_48 : decode cX8_comes 48 = .ok (.aload_n 0, 1) := by decide +kernel
theorem dX8_comes_49 : decode cX8_comes 49 = .ok (.iload_n 2, 1) := by decide +kernel
theorem dX8_comes_50 : decode cX8_comes 50 = .ok (.bipush 17, 2) := by decide +kernel
theorem dX8_comes_52 : decode cX8_comes 52 = .ok (.bipush (-6), 2) := by decide +kernel
theorem dX8_comes_54 : decode cX8_comes 54 = .ok (.invokevirtual 55, 3) := by decide +kernel
theorem dX8_comes_57 : decode cX8_comes 57 = .ok (.aload_n 0, 1) := by decide +kernel
theorem dX8_comes_58 : decode cX8_comes 58 = .ok (.getfield 7, 3) := by decide +kernel
theorem dX8_comes_61 : decode cX8_comes 61 = .ok (.bipush 6, 2) := by decide +kernel
theorem dX8_comes_63 : decode cX8_comes 63 = .ok (.dup2, 1) := by decide +kernel
theorem dX8_comes_64 : decode cX8_comes 64 = .ok (.iaload, 1) := by decide +kernel
theorem dX8_comes_65 : decode cX8_comes 65 = .ok (.iconst 1, 1) := by decide +kernel
theorem dX8_comes_66 : decode cX8_comes 66 = .ok (.iadd, 1) := by decide +kernel
theorem dX8_comes_67 : decode cX8_comes 67 = .ok (.iastore, 1) := by decide +kernel
theorem dX8_comes_68 : decode cX8_comes 68 = .ok (.iload_n 2, 1) := by decide +kernel
theorem dX8_comes_69 : decode cX8_comes 69 = .ok (.ireturn, 1) := by decide +kernel
theorem dX8_station_0 : decode cX8_station 0 = .ok (.aload_n 0, 1) := by decide +kernel
theorem dX8_station_1 : decode cX8_station 1 = .ok (.iload_n 1, 1) := by decide +kernel
theorem dX8_station_2 : decode cX8_station 2 = .ok (.invokevirtual 59, 3) := by decide +kernel
theorem dX8_station_5 : decode cX8_station 5 = .ok (.istore_n 2, 1) := by decide +kernel
theorem dX8_station_6 : decode cX8_station 6 = .ok (.iload_n 2, 1) := by decide +kernel
theorem dX8_station_7 : decode cX8_station 7 = .ok (.ifCond .ge 5, 3) := by decide +kernel
theorem dX8_station_10 : decode cX8_station 10 = .ok (.iload_n 2, 1) := by decide +kernel
theorem dX8_station_11 : decode cX8_station 11 = .ok (.ireturn, 1) := by decide +kernel
theorem dX8_station_12 : decode cX8_station 12 = .ok (.aload_n 0, 1) := by decide +kernel
theorem dX8_station_13 : decode cX8_station 13 = .ok (.invokevirtual 48, 3) := by decide +kernel
theorem dX8_station_16 : decode cX8_station 16 = .ok (.aload_n 0, 1) := by decide +kernel
theorem dX8_station_17 : decode cX8_station 17 = .ok (.iload_n 1, 1) := by decide +kernel
theorem dX8_station_18 : decode cX8_station 18 = .ok (.invokevirtual 63, 3) := by decide +kernel
theorem dX8_station_21 : decode cX8_station 21 = .ok (.ireturn, 1) := by decide +kernel
theorem dX8_isAt_0 : decode cX8_isAt 0 = .ok (.aload_n 0, 1) := by decide +kernel
theorem dX8_isAt_1 : decode cX8_isAt 1 = .ok (.iload_n 1, 1) := by decide +kernel
theorem dX8_isAt_2 : decode cX8_isAt 2 = .ok (.iconst 0, 1) := by decide +kernel
theorem dX8_isAt_3 : decode cX8_isAt 3 = .ok (.invokevirtual 40, 3) := by decide +kernel
theorem dX8_isAt_6 : decode cX8_isAt 6 = .ok (.iload_n 2, 1) := by decide +kernel
theorem dX8_isAt_7 : decode cX8_isAt 7 = .ok (.ishr, 1) := by decide +kernel
theorem dX8_isAt_8 : decode cX8_isAt 8 = .ok (.iconst 1, 1) := by decide +kernel
theorem dX8_isAt_9 : decode cX8_isAt 9 = .ok (.iand, 1) := by decide +kernel
theorem dX8_isAt_10 : decode cX8_isAt 10 = .ok (.iconst 1, 1) := by decide +kernel
theorem dX8_isAt_11 : decode cX8_isAt 11 = .ok (.if_icmp .ne 7, 3) := by decide +kernel
theorem dX8_isAt_14 : decode cX8_isAt 14 = .ok (.iconst 1, 1) := by decide +kernel
theorem dX8_isAt_15 : decode cX8_isAt 15 = .ok (.goto 4, 3) := by decide +kernel
theorem dX8_isAt_18 : decode cX8_isAt 18 = .ok (.iconst 0, 1) := by decide +kernel
theorem dX8_isAt_19 : decode cX8_isAt 19 = .ok (.ireturn, 1) := by decide +kernel
theorem dX8_whyNotWord_0 : decode cX8_whyNotWord 0 = .ok (.aload_n 0, 1) := by decide +kernel
theorem dX8_whyNotWord_1 : decode cX8_whyNotWord 1 = .ok (.iload_n 1, 1) := by decide +kernel
theorem dX8_whyNotWord_2 : decode cX8_whyNotWord 2 = .ok (.invokevirtual 66, 3) := by decide +kernel
theorem dX8_whyNotWord_5 : decode cX8_whyNotWord 5 = .ok (.ifCond .eq 10, 3) := by decide +kernel
theorem dX8_whyNotWord_8 : decode cX8_whyNotWord 8 = .ok (.iload_n 2, 1) := by decide +kernel
theorem dX8_whyNotWord_9 : decode cX8_whyNotWord 9 = .ok (.invokestatic 70, 3) := by decide +kernel
theorem dX8_whyNotWord_12 : decode cX8_whyNotWord 12 = .ok (.ifCond .ne 5, 3) := by decide +kernel
theorem dX8_whyNotWord_15 : decode cX8_whyNotWord 15 = .ok (.iconst (-1), 1) := by decide +kernel
theorem dX8_whyNotWord_16 : decode cX8_whyNotWord 16 = .ok (.ireturn, 1) := by decide +kernel
theorem dX8_whyNotWord_17 : decode cX8_whyNotWord 17 = .ok (.iload_n 3, 1) := by decide +kernel
theorem dX8_whyNotWord_18 : decode cX8_whyNotWord 18 = .ok (.iconst 0, 1) := by decide +kernel
theorem dX8_whyNotWord_19 : decode cX8_whyNotWord 19 = .ok (.sipush 255, 3) := by decide +kernel
theorem dX8_whyNotWord_22 : decode cX8_whyNotWord 22 = .ok (.invokestatic 36, 3) := by decide +kernel
theorem dX8_whyNotWord_25 : decode cX8_whyNotWord 25 = .ok (.ifCond .ne 8, 3) := by decide +kernel
theorem dX8_whyNotWord_28 : decode cX8_whyNotWord 28 = .ok (.bipush (-2), 2) := by decide +kernel
theorem dX8_whyNotWord_30 : decode cX8_whyNotWord 30 = .ok (.goto 33, 3) := by decide +kernel
theorem dX8_whyNotWord_33 : decode cX8_whyNotWord 33 = .ok (.aload_n 0, 1) := by decide +kernel
theorem dX8_whyNotWord_34 : decode cX8_whyNotWord 34 = .ok (.iload_n 1, 1) := by decide +kernel
theorem dX8_whyNotWord_35 : decode cX8_whyNotWord 35 = .ok (.iload_n 2, 1) := by decide +kernel
theorem dX8_whyNotWord_36 : decode cX8_whyNotWord 36 = .ok (.invokevirtual 73, 3) := by decide +kernel
theorem dX8_whyNotWord_39 : decode cX8_whyNotWord 39 = .ok (.ifCond .ne 8, 3) := by decide +kernel
theorem dX8_whyNotWord_42 : decode cX8_whyNotWord 42 = .ok (.bipush (-5), 2) := by decide +kernel
theorem dX8_whyNotWord_44 : decode cX8_whyNotWord 44 = .ok (.goto 19, 3) := by decide +kernel
theorem dX8_whyNotWord_47 : decode cX8_whyNotWord 47 = .ok (.aload_n 0, 1) := by decide +kernel
theorem dX8_whyNotWord_48 : decode cX8_whyNotWord 48 = .ok (.iload_n 1, 1) := by decide +kernel
theorem dX8_whyNotWord_49 : decode cX8_whyNotWord 49 = .ok (.iconst 4, 1) := by decide +kernel
theorem dX8_whyNotWord_50 : decode cX8_whyNotWord 50 = .ok (.invokevirtual 40, 3) := by decide +kernel
theorem dX8_whyNotWord_53 : decode cX8_whyNotWord 53 = .ok (.iconst 4, 1) := by decide +kernel
theorem dX8_whyNotWord_54 : decode cX8_whyNotWord 54 = .ok (.if_icmp .ne 8, 3) := by decide +kernel
theorem dX8_whyNotWord_57 : decode cX8_whyNotWord 57 = .ok (.bipush (-4), 2) := by decide +kernel
theorem dX8_whyNotWord_59 : decode cX8_whyNotWord 59 = .ok (.goto 4, 3) := by decide +kernel
theorem dX8_whyNotWord_62 : decode cX8_whyNotWord 62 = .ok (.iconst 0, 1) := by decide +kernel
theorem dX8_whyNotWord_63 : decode cX8_whyNotWord 63 = .ok (.ireturn, 1) := by decide +kernel
theorem dX8_gets_0 : decode cX8_gets 0 = .ok (.iconst 5, 1) := by decide +kernel
theorem dX8_gets_1 : decode cX8_gets 1 = .ok (.iconst 3, 1) := by decide +kernel
theorem dX8_gets_2 : decode cX8_gets 2 = .ok (.aload_n 0, 1) := by decide +kernel
theorem dX8_gets_3 : decode cX8_gets 3 = .ok (.iload_n 1, 1) := by decide +kernel
theorem dX8_gets_4 : decode cX8_gets 4 = .ok (.iconst 4, 1) := by decide +kernel
theorem dX8_gets_5 : decode cX8_gets 5 = .ok (.invokevirtual 40, 3) := by decide +kernel
theorem dX8_gets_8 : decode cX8_gets 8 = .ok (.imul, 1) := by decide +kernel
theorem dX8_gets_9 : decode cX8_gets 9 = .ok (.iadd, 1) := by decide +kernel
theorem dX8_gets_10 : decode cX8_gets 10 = .ok (.istore 4, 2) := by decide +kernel
theorem dX8_gets_12 : decode cX8_gets 12 = .ok (.aload_n 0, 1) := by decide +kernel
theorem dX8_gets_13 : decode cX8_gets 13 = .ok (.iload_n 1, 1) := by decide +kernel
theorem dX8_gets_14 : decode cX8_gets 14 = .ok (.iload 4, 2) := by decide +kernel
theorem dX8_gets_16 : decode cX8_gets 16 = .ok (.iload_n 3, 1) := by decide +kernel
theorem dX8_gets_17 : decode cX8_gets 17 = .ok (.invokevirtual 55, 3) := by decide +kernel
theorem dX8_gets_20 : decode cX8_gets 20 = .ok (.aload_n 0, 1) := by decide +kernel
theorem dX8_gets_21 : decode cX8_gets 21 = .ok (.iload_n 1, 1) := by decide +kernel
theorem dX8_gets_22 : decode cX8_gets 22 = .ok (.iload 4, 2) := by decide +kernel
theorem dX8_gets_24 : decode cX8_gets 24 = .ok (.iconst 1, 1) := by decide +kernel
theorem dX8_gets_25 : decode cX8_gets 25 = .ok (.iadd, 1) := by decide +kernel
theorem dX8_gets_26 : decode cX8_gets 26 = .ok (.iload_n 2, 1) := by decide +kernel
theorem dX8_gets_27 : decode cX8_gets 27 = .ok (.invokevirtual 55, 3) := by decide +kernel
theorem dX8_gets_30 : decode cX8_gets 30 = .ok (.aload_n 0, 1) := by decide +kernel
theorem dX8_gets_31 : decode cX8_gets 31 = .ok (.iload_n 1, 1) := by decide +kernel
theorem dX8_gets_32 : decode cX8_gets 32 = .ok (.iload 4, 2) := by decide +kernel
theorem dX8_gets_34 : decode cX8_gets 34 = .ok (.iconst 2, 1) := by decide +kernel
theorem dX8_gets_35 : decode cX8_gets 35 = .ok (.iadd, 1) := by decide +kernel
theorem dX8_gets_36 : decode cX8_gets 36 = .ok (.iconst 0, 1) := by decide +kernel
theorem dX8_gets_37 : decode cX8_gets 37 = .ok (.invokevirtual 55, 3) := by decide +kernel
theorem dX8_gets_40 : decode cX8_gets 40 = .ok (.aload_n 0, 1) := by decide +kernel
theorem dX8_gets_41 : decode cX8_gets 41 = .ok (.iload_n 1, 1) := by decide +kernel
theorem dX8_gets_42 : decode cX8_gets 42 = .ok (.iconst 4, 1) := by decide +kernel
theorem dX8_gets_43 : decode cX8_gets 43 = .ok (.iconst 1, 1) := by decide +kernel
theorem dX8_gets_44 : decode cX8_gets 44 = .ok (.invokevirtual 76, 3) := by decide +kernel
theorem dX8_gets_47 : decode cX8_gets 47 = .ok (.aload_n 0, 1) := by decide +kernel
theorem dX8_gets_48 : decode cX8_gets 48 = .ok (.iload_n 1, 1) := by decide +kernel
theorem dX8_gets_49 : decode cX8_gets 49 = .ok (.iconst 4, 1) := by decide +kernel
theorem dX8_gets_50 : decode cX8_gets 50 = .ok (.invokevirtual 40, 3) := by decide +kernel
theorem dX8_gets_53 : decode cX8_gets 53 = .ok (.ireturn, 1) := by decide +kernel
theorem dX8_word_0 : decode cX8_word 0 = .ok (.aload_n 0, 1) := by decide +kernel
theorem dX8_word_1 : decode cX8_word 1 = .ok (.iload_n 1, 1) := by decide +kernel
theorem dX8_word_2 : decode cX8_word 2 = .ok (.iload_n 2, 1) := by decide +kernel
theorem dX8_word_3 : decode cX8_word 3 = .ok (.iload_n 3, 1) := by decide +kernel
theorem dX8_word_4 : decode cX8_word 4 = .ok (.invokevirtual 79, 3) := by decide +kernel
theorem dX8_word_7 : decode cX8_word 7 = .ok (.istore 4, 2) := by decide +kernel
theorem dX8_word_9 : decode cX8_word 9 = .ok (.iload 4, 2) := by decide +kernel
theorem dX8_word_11 : decode cX8_word 11 = .ok (.ifCond .ge 6, 3) := by decide +kernel
theorem dX8_word_14 : decode cX8_word 14 = .ok (.iload 4, 2) := by decide +kernel
theorem dX8_word_16 : decode cX8_word 16 = .ok (.ireturn, 1) := by decide +kernel
theorem dX8_word_17 : decode cX8_word 17 = .ok (.aload_n 0, 1) := by decide +kernel
theorem dX8_word_18 : decode cX8_word 18 = .ok (.invokevirtual 48, 3) := by decide +kernel
theorem dX8_word_21 : decode cX8_word 21 = .ok (.aload_n 0, 1) := by decide +kernel
theorem dX8_word_22 : decode cX8_word 22 = .ok (.iload_n 1, 1) := by decide +kernel
theorem dX8_word_23 : decode cX8_word 23 = .ok (.iload_n 2, 1) := by decide +kernel
theorem dX8_word_24 : decode cX8_word 24 = .ok (.iload_n 3, 1) := by decide +kernel
theorem dX8_word_25 : decode cX8_word 25 = .ok (.invokevirtual 83, 3) := by decide +kernel
theorem dX8_word_28 : decode cX8_word 28 = .ok (.ireturn, 1) := by decide +kernel
theorem dX8_quiet_0 : decode cX8_quiet 0 = .ok (.aload_n 0, 1) := by decide +kernel
theorem dX8_quiet_1 : decode cX8_quiet 1 = .ok (.iload_n 1, 1) := by decide +kernel
theorem dX8_quiet_2 : decode cX8_quiet 2 = .ok (.bipush 17, 2) := by decide +kernel
theorem dX8_quiet_4 : decode cX8_quiet 4 = .ok (.bipush (-6), 2) := by decide +kernel
theorem dX8_quiet_6 : decode cX8_quiet 6 = .ok (.invokevirtual 55, 3) := by decide +kernel
theorem dX8_quiet_9 : decode cX8_quiet 9 = .ok (.aload_n 0, 1) := by decide +kernel
theorem dX8_quiet_10 : decode cX8_quiet 10 = .ok (.iload_n 1, 1) := by decide +kernel
theorem dX8_quiet_11 : decode cX8_quiet 11 = .ok (.bipush 18, 2) := by decide +kernel
theorem dX8_quiet_13 : decode cX8_quiet 13 = .ok (.iconst 0, 1) := by decide +kernel
theorem dX8_quiet_14 : decode cX8_quiet 14 = .ok (.invokevirtual 55, 3) := by decide +kernel
theorem dX8_quiet_17 : decode cX8_quiet 17 = .ok (.return_, 1) := by decide +kernel
theorem dX8_leaves_0 : decode cX8_leaves 0 = .ok (.aload_n 0, 1) := by decide +kernel
theorem dX8_leaves_1 : decode cX8_leaves 1 = .ok (.iload_n 1, 1) := by decide +kernel
theorem dX8_leaves_2 : decode cX8_leaves 2 = .ok (.invokevirtual 86, 3) := by decide +kernel
theorem dX8_leaves_5 : decode cX8_leaves 5 = .ok (.aload_n 0, 1) := by decide +kernel
theorem dX8_leaves_6 : decode cX8_leaves 6 = .ok (.iload_n 1, 1) := by decide +kernel
theorem dX8_leaves_7 : decode cX8_leaves 7 = .ok (.iconst 4, 1) := by decide +kernel
theorem dX8_leaves_8 : decode cX8_leaves 8 = .ok (.iconst (-1), 1) := by decide +kernel
theorem dX8_leaves_9 : decode cX8_leaves 9 = .ok (.invokevirtual 76, 3) := by decide +kernel
theorem dX8_leaves_12 : decode cX8_leaves 12 = .ok (.iconst 5, 1) := by decide +kernel
theorem dX8_leaves_13 : decode cX8_leaves 13 = .ok (.istore_n 2, 1) := by decide +kernel
theorem dX8_leaves_14 : decode cX8_leaves 14 = .ok (.iload_n 2, 1) := by decide +kernel
theorem dX8_leaves_15 : decode cX8_leaves 15 = .ok (.iconst 5, 1) := by decide +kernel
theorem dX8_leaves_16 : decode cX8_leaves 16 = .ok (.iconst 3, 1) := by decide +kernel
theorem dX8_leaves_17 : decode cX8_leaves 17 = .ok (.aload_n 0, 1) := by decide +kernel
theorem dX8_leaves_18 : decode cX8_leaves 18 = .ok (.iload_n 1, 1) := by decide +kernel
theorem dX8_leaves_19 : decode cX8_leaves 19 = .ok (.iconst 4, 1) := by decide +kernel
theorem dX8_leaves_20 : decode cX8_leaves 20 = .ok (.invokevirtual 40, 3) := by decide +kernel
theorem dX8_leaves_23 : decode cX8_leaves 23 = .ok (.imul, 1) := by decide +kernel
theorem dX8_leaves_24 : decode cX8_leaves 24 = .ok (.iadd, 1) := by decide +kernel
theorem dX8_leaves_25 : decode cX8_leaves 25 = .ok (.if_icmp .ge 23, 3) := by decide +kernel
theorem dX8_leaves_28 : decode cX8_leaves 28 = .ok (.aload_n 0, 1) := by decide +kernel
theorem dX8_leaves_29 : decode cX8_leaves 29 = .ok (.iload_n 1, 1) := by decide +kernel
theorem dX8_leaves_30 : decode cX8_leaves 30 = .ok (.iload_n 2, 1) := by decide +kernel
theorem dX8_leaves_31 : decode cX8_leaves 31 = .ok (.aload_n 0, 1) := by decide +kernel
theorem dX8_leaves_32 : decode cX8_leaves 32 = .ok (.iload_n 1, 1) := by decide +kernel
theorem dX8_leaves_33 : decode cX8_leaves 33 = .ok (.iload_n 2, 1) := by decide +kernel
theorem dX8_leaves_34 : decode cX8_leaves 34 = .ok (.iconst 3, 1) := by decide +kernel
theorem dX8_leaves_35 : decode cX8_leaves 35 = .ok (.iadd, 1) := by decide +kernel
theorem dX8_leaves_36 : decode cX8_leaves 36 = .ok (.invokevirtual 40, 3) := by decide +kernel
theorem dX8_leaves_39 : decode cX8_leaves 39 = .ok (.invokevirtual 55, 3) := by decide +kernel
theorem dX8_leaves_42 : decode cX8_leaves 42 = .ok (.iinc 2 1, 3) := by decide +kernel
theorem dX8_leaves_45 : decode cX8_leaves 45 = .ok (.goto (-31), 3) := by decide +kernel
theorem dX8_leaves_48 : decode cX8_leaves 48 = .ok (.return_, 1) := by decide +kernel
theorem dX8_giveUp_0 : decode cX8_giveUp 0 = .ok (.aload_n 0, 1) := by decide +kernel
theorem dX8_giveUp_1 : decode cX8_giveUp 1 = .ok (.iload_n 1, 1) := by decide +kernel
theorem dX8_giveUp_2 : decode cX8_giveUp 2 = .ok (.bipush 7, 2) := by decide +kernel
theorem dX8_giveUp_4 : decode cX8_giveUp 4 = .ok (.iconst 1, 1) := by decide +kernel
theorem dX8_giveUp_5 : decode cX8_giveUp 5 = .ok (.invokevirtual 76, 3) := by decide +kernel
theorem dX8_giveUp_8 : decode cX8_giveUp 8 = .ok (.aload_n 0, 1) := by decide +kernel
theorem dX8_giveUp_9 : decode cX8_giveUp 9 = .ok (.iload_n 1, 1) := by decide +kernel
theorem dX8_giveUp_10 : decode cX8_giveUp 10 = .ok (.bipush 22, 2) := by decide +kernel
theorem dX8_giveUp_12 : decode cX8_giveUp 12 = .ok (.iconst 1, 1) := by decide +kernel
theorem dX8_giveUp_13 : decode cX8_giveUp 13 = .ok (.invokevirtual 76, 3) := by decide +kernel
theorem dX8_giveUp_16 : decode cX8_giveUp 16 = .ok (.aload_n 0, 1) := by decide +kernel
theorem dX8_giveUp_17 : decode cX8_giveUp 17 = .ok (.iload_n 1, 1) := by decide +kernel
theorem dX8_giveUp_18 : decode cX8_giveUp 18 = .ok (.invokevirtual 86, 3) := by decide +kernel
theorem dX8_giveUp_21 : decode cX8_giveUp 21 = .ok (.aload_n 0, 1) := by decide +kernel
theorem dX8_giveUp_22 : decode cX8_giveUp 22 = .ok (.iload_n 1, 1) := by decide +kernel
theorem dX8_giveUp_23 : decode cX8_giveUp 23 = .ok (.bipush 7, 2) := by decide +kernel
theorem dX8_giveUp_25 : decode cX8_giveUp 25 = .ok (.invokevirtual 40, 3) := by decide +kernel
theorem dX8_giveUp_28 : decode cX8_giveUp 28 = .ok (.aload_n 0, 1) := by decide +kernel
theorem dX8_giveUp_29 : decode cX8_giveUp 29 = .ok (.getfield 7, 3) := by decide +kernel
theorem dX8_giveUp_32 : decode cX8_giveUp 32 = .ok (.iconst 4, 1) := by decide +kernel
theorem dX8_giveUp_33 : decode cX8_giveUp 33 = .ok (.iaload, 1) := by decide +kernel
theorem dX8_giveUp_34 : decode cX8_giveUp 34 = .ok (.if_icmp .lt 26, 3) := by decide +kernel
theorem dX8_giveUp_37 : decode cX8_giveUp 37 = .ok (.aload_n 0, 1) := by decide +kernel
theorem dX8_giveUp_38 : decode cX8_giveUp 38 = .ok (.iload_n 1, 1) := by decide +kernel
theorem dX8_giveUp_39 : decode cX8_giveUp 39 = .ok (.bipush 20, 2) := by decide +kernel
theorem dX8_giveUp_41 : decode cX8_giveUp 41 = .ok (.iconst 1, 1) := by decide +kernel
theorem dX8_giveUp_42 : decode cX8_giveUp 42 = .ok (.invokevirtual 76, 3) := by decide +kernel
theorem dX8_giveUp_45 : decode cX8_giveUp 45 = .ok (.aload_n 0, 1) := by decide +kernel
theorem dX8_giveUp_46 : decode cX8_giveUp 46 = .ok (.aload_n 0, 1) := by decide +kernel
theorem dX8_giveUp_47 : decode cX8_giveUp 47 = .ok (.iload_n 1, 1) := by decide +kernel
theorem dX8_giveUp_48 : decode cX8_giveUp 48 = .ok (.invokevirtual 90, 3) := by decide +kernel
theorem dX8_giveUp_51 : decode cX8_giveUp 51 = .ok (.iconst 3, 1) := by decide +kernel
theorem dX8_giveUp_52 : decode cX8_giveUp 52 = .ok (.invokevirtual 93, 3) := by decide +kernel
theorem dX8_giveUp_55 : decode cX8_giveUp 55 = .ok (.aload_n 0, 1) := by decide +kernel
theorem dX8_giveUp_56 : decode cX8_giveUp 56 = .ok (.iload_n 1, 1) := by decide +kernel
theorem dX8_giveUp_57 : decode cX8_giveUp 57 = .ok (.invokevirtual 97, 3) := by decide +kernel
theorem dX8_giveUp_60 : decode cX8_giveUp 60 = .ok (.return_, 1) := by decide +kernel
theorem dX8_forget_0 : decode cX8_forget 0 = .ok (.aload_n 0, 1) := by decide +kernel
theorem dX8_forget_1 : decode cX8_forget 1 = .ok (.iload_n 1, 1) := by decide +kernel
theorem dX8_forget_2 : decode cX8_forget 2 = .ok (.invokevirtual 66, 3) := by decide +kernel
theorem dX8_forget_5 : decode cX8_forget 5 = .ok (.ifCond .ne 5, 3) := by decide +kernel
theorem dX8_forget_8 : decode cX8_forget 8 = .ok (.iconst (-1), 1) := by decide +kernel
theorem dX8_forget_9 : decode cX8_forget 9 = .ok (.ireturn, 1) := by decide +kernel
theorem dX8_forget_10 : decode cX8_forget 10 = .ok (.aload_n 0, 1) := by decide +kernel
theorem dX8_forget_11 : decode cX8_forget 11 = .ok (.iload_n 1, 1) := by decide +kernel
theorem dX8_forget_12 : decode cX8_forget 12 = .ok (.iconst 4, 1) := by decide +kernel
theorem dX8_forget_13 : decode cX8_forget 13 = .ok (.invokevirtual 40, 3) := by decide +kernel
theorem dX8_forget_16 : decode cX8_forget 16 = .ok (.ifCond .ne 6, 3) := by decide +kernel
theorem dX8_forget_19 : decode cX8_forget 19 = .ok (.bipush (-5), 2) := by decide +kernel
theorem dX8_forget_21 : decode cX8_forget 21 = .ok (.ireturn, 1) := by decide +kernel
theorem dX8_forget_22 : decode cX8_forget 22 = .ok (.aload_n 0, 1) := by decide +kernel
theorem dX8_forget_23 : decode cX8_forget 23 = .ok (.invokevirtual 48, 3) := by decide +kernel
theorem dX8_forget_26 : decode cX8_forget 26 = .ok (.aload_n 0, 1) := by decide +kernel
theorem dX8_forget_27 : decode cX8_forget 27 = .ok (.iload_n 1, 1) := by decide +kernel
theorem dX8_forget_28 : decode cX8_forget 28 = .ok (.iconst 5, 1) := by decide +kernel
theorem dX8_forget_29 : decode cX8_forget 29 = .ok (.invokevirtual 40, 3) := by decide +kernel
theorem dX8_forget_32 : decode cX8_forget 32 = .ok (.istore_n 2, 1) := by decide +kernel
theorem dX8_forget_33 : decode cX8_forget 33 = .ok (.aload_n 0, 1) := by decide +kernel
theorem dX8_forget_34 : decode cX8_forget 34 = .ok (.iload_n 1, 1) := by decide +kernel
theorem dX8_forget_35 : decode cX8_forget 35 = .ok (.invokevirtual 97, 3) := by decide +kernel
theorem dX8_forget_38 : decode cX8_forget 38 = .ok (.iload_n 2, 1) := by decide +kernel
theorem dX8_forget_39 : decode cX8_forget 39 = .ok (.ireturn, 1) := by decide +kernel
theorem dX8_whyNotWire_0 : decode cX8_whyNotWire 0 = .ok (.iload_n 1, 1) := by decide +kernel
theorem dX8_whyNotWire_1 : decode cX8_whyNotWire 1 = .ok (.invokestatic 70, 3) := by decide +kernel
theorem dX8_whyNotWire_4 : decode cX8_whyNotWire 4 = .ok (.ifCond .eq 7, 3) := by decide +kernel
theorem dX8_whyNotWire_7 : decode cX8_whyNotWire 7 = .ok (.iconst 0, 1) := by decide +kernel
theorem dX8_whyNotWire_8 : decode cX8_whyNotWire 8 = .ok (.goto 4, 3) := by decide +kernel
theorem dX8_whyNotWire_11 : decode cX8_whyNotWire 11 = .ok (.iconst (-1), 1) := by decide +kernel
theorem dX8_whyNotWire_12 : decode cX8_whyNotWire 12 = .ok (.ireturn, 1) := by decide +kernel
theorem dX8_turnFault_0 : decode cX8_turnFault 0 = .ok (.aload_n 0, 1) := by decide +kernel
theorem dX8_turnFault_1 : decode cX8_turnFault 1 = .ok (.getfield 7, 3) := by decide +kernel
theorem dX8_turnFault_4 : decode cX8_turnFault 4 = .ok (.bipush 7, 2) := by decide +kernel
theorem dX8_turnFault_6 : decode cX8_turnFault 6 = .ok (.iconst 4, 1) := by decide +kernel
theorem dX8_turnFault_7 : decode cX8_turnFault 7 = .ok (.iload_n 1, 1) := by decide +kernel
theorem dX8_turnFault_8 : decode cX8_turnFault 8 = .ok (.imul, 1) := by decide +kernel
theorem dX8_turnFault_9 : decode cX8_turnFault 9 = .ok (.iadd, 1) := by decide +kernel
theorem dX8_turnFault_10 : decode cX8_turnFault 10 = .ok (.iconst 1, 1) := by decide +kernel
theorem dX8_turnFault_11 : decode cX8_turnFault 11 = .ok (.iadd, 1) := by decide +kernel
theorem dX8_turnFault_12 : decode cX8_turnFault 12 = .ok (.iconst 1, 1) := by decide +kernel
theorem dX8_turnFault_13 : decode cX8_turnFault 13 = .ok (.aload_n 0, 1) := by decide +kernel
theorem dX8_turnFault_14 : decode cX8_turnFault 14 = .ok (.iload_n 1, 1) := by decide +kernel
theorem dX8_turnFault_15 : decode cX8_turnFault 15 = .ok (.iconst 1, 1) := by decide +kernel
theorem dX8_turnFault_16 : decode cX8_turnFault 16 = .ok (.invokevirtual 100, 3) := by decide +kernel
theorem dX8_turnFault_19 : decode cX8_turnFault 19 = .ok (.isub, 1) := by decide +kernel
theorem dX8_turnFault_20 : decode cX8_turnFault 20 = .ok (.iastore, 1) := by decide +kernel
theorem dX8_turnFault_21 : decode cX8_turnFault 21 = .ok (.aload_n 0, 1) := by decide +kernel
theorem dX8_turnFault_22 : decode cX8_turnFault 22 = .ok (.iload_n 1, 1) := by decide +kernel
theorem dX8_turnFault_23 : decode cX8_turnFault 23 = .ok (.iconst 1, 1) := by decide +kernel
theorem dX8_turnFault_24 : decode cX8_turnFault 24 = .ok (.invokevirtual 100, 3) := by decide +kernel
theorem dX8_turnFault_27 : decode cX8_turnFault 27 = .ok (.ireturn, 1) := by decide +kernel
theorem dX8_stick_0 : decode cX8_stick 0 = .ok (.aload_n 0, 1) := by decide +kernel
theorem dX8_stick_1 : decode cX8_stick 1 = .ok (.iload_n 1, 1) := by decide +kernel
theorem dX8_stick_2 : decode cX8_stick 2 = .ok (.invokevirtual 103, 3) := by decide +kernel
theorem dX8_stick_5 : decode cX8_stick 5 = .ok (.istore_n 2, 1) := by decide +kernel
theorem dX8_stick_6 : decode cX8_stick 6 = .ok (.iload_n 2, 1) := by decide +kernel
theorem dX8_stick_7 : decode cX8_stick 7 = .ok (.ifCond .ge 5, 3) := by decide +kernel
theorem dX8_stick_10 : decode cX8_stick 10 = .ok (.iload_n 2, 1) := by decide +kernel
theorem dX8_stick_11 : decode cX8_stick 11 = .ok (.ireturn, 1) := by decide +kernel
theorem dX8_stick_12 : decode cX8_stick 12 = .ok (.aload_n 0, 1) := by decide +kernel
theorem dX8_stick_13 : decode cX8_stick 13 = .ok (.invokevirtual 48, 3) := by decide +kernel
theorem dX8_stick_16 : decode cX8_stick 16 = .ok (.aload_n 0, 1) := by decide +kernel
theorem dX8_stick_17 : decode cX8_stick 17 = .ok (.iload_n 1, 1) := by decide +kernel
theorem dX8_stick_18 : decode cX8_stick 18 = .ok (.invokevirtual 106, 3) := by decide +kernel
theorem dX8_stick_21 : decode cX8_stick 21 = .ok (.ireturn, 1) := by decide +kernel
theorem dX8_whyNotDoze_0 : decode cX8_whyNotDoze 0 = .ok (.aload_n 0, 1) := by decide +kernel
theorem dX8_whyNotDoze_1 : decode cX8_whyNotDoze 1 = .ok (.iload_n 1, 1) := by decide +kernel
theorem dX8_whyNotDoze_2 : decode cX8_whyNotDoze 2 = .ok (.invokevirtual 66, 3) := by decide +kernel
theorem dX8_whyNotDoze_5 : decode cX8_whyNotDoze 5 = .ok (.ifCond .eq 7, 3) := by decide +kernel
theorem dX8_whyNotDoze_8 : decode cX8_whyNotDoze 8 = .ok (.iconst 0, 1) := by decide +kernel
theorem dX8_whyNotDoze_9 : decode cX8_whyNotDoze 9 = .ok (.goto 4, 3) := by decide +kernel
theorem dX8_whyNotDoze_12 : decode cX8_whyNotDoze 12 = .ok (.iconst (-1), 1) := by decide +kernel
theorem dX8_whyNotDoze_13 : decode cX8_whyNotDoze 13 = .ok (.ireturn, 1) := by decide +kernel
theorem dX8_turnSleep_0 : decode cX8_turnSleep 0 = .ok (.aload_n 0, 1) := by decide +kernel
theorem dX8_turnSleep_1 : decode cX8_turnSleep 1 = .ok (.iload_n 1, 1) := by decide +kernel
theorem dX8_turnSleep_2 : decode cX8_turnSleep 2 = .ok (.iconst 3, 1) := by decide +kernel
theorem dX8_turnSleep_3 : decode cX8_turnSleep 3 = .ok (.iconst 1, 1) := by decide +kernel
theorem dX8_turnSleep_4 : decode cX8_turnSleep 4 = .ok (.aload_n 0, 1) := by decide +kernel
theorem dX8_turnSleep_5 : decode cX8_turnSleep 5 = .ok (.iload_n 1, 1) := by decide +kernel
theorem dX8_turnSleep_6 : decode cX8_turnSleep 6 = .ok (.iconst 3, 1) := by decide +kernel
theorem dX8_turnSleep_7 : decode cX8_turnSleep 7 = .ok (.invokevirtual 40, 3) := by decide +kernel
theorem dX8_turnSleep_10 : decode cX8_turnSleep 10 = .ok (.isub, 1) := by decide +kernel
theorem dX8_turnSleep_11 : decode cX8_turnSleep 11 = .ok (.invokevirtual 55, 3) := by decide +kernel
theorem dX8_turnSleep_14 : decode cX8_turnSleep 14 = .ok (.aload_n 0, 1) := by decide +kernel
theorem dX8_turnSleep_15 : decode cX8_turnSleep 15 = .ok (.iload_n 1, 1) := by decide +kernel
theorem dX8_turnSleep_16 : decode cX8_turnSleep 16 = .ok (.iconst 3, 1) := by decide +kernel
theorem dX8_turnSleep_17 : decode cX8_turnSleep 17 = .ok (.invokevirtual 40, 3) := by decide +kernel
theorem dX8_turnSleep_20 : decode cX8_turnSleep 20 = .ok (.iconst 1, 1) := by decide +kernel
theorem dX8_turnSleep_21 : decode cX8_turnSleep 21 = .ok (.if_icmp .ne 16, 3) := by decide +kernel
theorem dX8_turnSleep_24 : decode cX8_turnSleep 24 = .ok (.aload_n 0, 1) := by decide +kernel
theorem dX8_turnSleep_25 : decode cX8_turnSleep 25 = .ok (.iload_n 1, 1) := by decide +kernel
theorem dX8_turnSleep_26 : decode cX8_turnSleep 26 = .ok (.invokevirtual 109, 3) := by decide +kernel
theorem dX8_turnSleep_29 : decode cX8_turnSleep 29 = .ok (.ifCond .eq 8, 3) := by decide +kernel
theorem dX8_turnSleep_32 : decode cX8_turnSleep 32 = .ok (.aload_n 0, 1) := by decide +kernel
theorem dX8_turnSleep_33 : decode cX8_turnSleep 33 = .ok (.iload_n 1, 1) := by decide +kernel
theorem dX8_turnSleep_34 : decode cX8_turnSleep 34 = .ok (.invokevirtual 112, 3) := by decide +kernel
theorem dX8_turnSleep_37 : decode cX8_turnSleep 37 = .ok (.aload_n 0, 1) := by decide +kernel
theorem dX8_turnSleep_38 : decode cX8_turnSleep 38 = .ok (.iload_n 1, 1) := by decide +kernel
theorem dX8_turnSleep_39 : decode cX8_turnSleep 39 = .ok (.iconst 3, 1) := by decide +kernel
theorem dX8_turnSleep_40 : decode cX8_turnSleep 40 = .ok (.invokevirtual 40, 3) := by decide +kernel
theorem dX8_turnSleep_43 : decode cX8_turnSleep 43 = .ok (.ireturn, 1) := by decide +kernel
theorem dX8_doze_0 : decode cX8_doze 0 = .ok (.aload_n 0, 1) := by decide +kernel
theorem dX8_doze_1 : decode cX8_doze 1 = .ok (.iload_n 1, 1) := by decide +kernel
theorem dX8_doze_2 : decode cX8_doze 2 = .ok (.invokevirtual 115, 3) := by decide +kernel
theorem dX8_doze_5 : decode cX8_doze 5 = .ok (.istore_n 2, 1) := by decide +kernel
theorem dX8_doze_6 : decode cX8_doze 6 = .ok (.iload_n 2, 1) := by decide +kernel
theorem dX8_doze_7 : decode cX8_doze 7 = .ok (.ifCond .ge 5, 3) := by decide +kernel
theorem dX8_doze_10 : decode cX8_doze 10 = .ok (.iload_n 2, 1) := by decide +kernel
theorem dX8_doze_11 : decode cX8_doze 11 = .ok (.ireturn, 1) := by decide +kernel
theorem dX8_doze_12 : decode cX8_doze 12 = .ok (.aload_n 0, 1) := by decide +kernel
theorem dX8_doze_13 : decode cX8_doze 13 = .ok (.invokevirtual 48, 3) := by decide +kernel
theorem dX8_doze_16 : decode cX8_doze 16 = .ok (.aload_n 0, 1) := by decide +kernel
theorem dX8_doze_17 : decode cX8_doze 17 = .ok (.iload_n 1, 1) := by decide +kernel
theorem dX8_doze_18 : decode cX8_doze 18 = .ok (.invokevirtual 118, 3) := by decide +kernel
theorem dX8_doze_21 : decode cX8_doze 21 = .ok (.ireturn, 1) := by decide +kernel
theorem dX8_begins_0 : decode cX8_begins 0 = .ok (.aload_n 0, 1) := by decide +kernel
theorem dX8_begins_1 : decode cX8_begins 1 = .ok (.iload_n 1, 1) := by decide +kernel
theorem dX8_begins_2 : decode cX8_begins 2 = .ok (.invokevirtual 121, 3) := by decide +kernel
theorem dX8_begins_5 : decode cX8_begins 5 = .ok (.ifCond .eq 43, 3) := by decide +kernel
theorem dX8_begins_8 : decode cX8_begins 8 = .ok (.aload_n 0, 1) := by decide +kernel
theorem dX8_begins_9 : decode cX8_begins 9 = .ok (.iload_n 1, 1) := by decide +kernel
theorem dX8_begins_10 : decode cX8_begins 10 = .ok (.invokevirtual 109, 3) := by decide +kernel
theorem dX8_begins_13 : decode cX8_begins 13 = .ok (.ifCond .ne 35, 3) := by decide +kernel
theorem dX8_begins_16 : decode cX8_begins 16 = .ok (.aload_n 0, 1) := by decide +kernel
theorem dX8_begins_17 : decode cX8_begins 17 = .ok (.iload_n 1, 1) := by decide +kernel
theorem dX8_begins_18 : decode cX8_begins 18 = .ok (.iconst 4, 1) := by decide +kernel
theorem dX8_begins_19 : decode cX8_begins 19 = .ok (.invokevirtual 40, 3) := by decide +kernel
theorem dX8_begins_22 : decode cX8_begins 22 = .ok (.ifCond .le 26, 3) := by decide +kernel
theorem dX8_begins_25 : decode cX8_begins 25 = .ok (.aload_n 0, 1) := by decide +kernel
theorem dX8_begins_26 : decode cX8_begins 26 = .ok (.aload_n 0, 1) := by decide +kernel
theorem dX8_begins_27 : decode cX8_begins 27 = .ok (.iload_n 1, 1) := by decide +kernel
theorem dX8_begins_28 : decode cX8_begins 28 = .ok (.invokevirtual 90, 3) := by decide +kernel
theorem dX8_begins_31 : decode cX8_begins 31 = .ok (.iconst 0, 1) := by decide +kernel
theorem dX8_begins_32 : decode cX8_begins 32 = .ok (.invokevirtual 100, 3) := by decide +kernel
theorem dX8_begins_35 : decode cX8_begins 35 = .ok (.aload_n 0, 1) := by decide +kernel
theorem dX8_begins_36 : decode cX8_begins 36 = .ok (.getfield 7, 3) := by decide +kernel
theorem dX8_begins_39 : decode cX8_begins 39 = .ok (.iconst 0, 1) := by decide +kernel
theorem dX8_begins_40 : decode cX8_begins 40 = .ok (.iaload, 1) := by decide +kernel
theorem dX8_begins_41 : decode cX8_begins 41 = .ok (.if_icmp .lt 7, 3) := by decide +kernel
theorem dX8_begins_44 : decode cX8_begins 44 = .ok (.iconst 1, 1) := by decide +kernel
theorem dX8_begins_45 : decode cX8_begins 45 = .ok (.goto 4, 3) := by decide +kernel
theorem dX8_begins_48 : decode cX8_begins 48 = .ok (.iconst 0, 1) := by decide +kernel
theorem dX8_begins_49 : decode cX8_begins 49 = .ok (.ireturn, 1) := by decide +kernel
theorem dX8_awakeAt_0 : decode cX8_awakeAt 0 = .ok (.iconst 0, 1) := by decide +kernel
theorem dX8_awakeAt_1 : decode cX8_awakeAt 1 = .ok (.istore_n 2, 1) := by decide +kernel
theorem dX8_awakeAt_2 : decode cX8_awakeAt 2 = .ok (.iconst 0, 1) := by decide +kernel
theorem dX8_awakeAt_3 : decode cX8_awakeAt 3 = .ok (.istore_n 3, 1) := by decide +kernel
theorem dX8_awakeAt_4 : decode cX8_awakeAt 4 = .ok (.iload_n 3, 1) := by decide +kernel
theorem dX8_awakeAt_5 : decode cX8_awakeAt 5 = .ok (.aload_n 0, 1) := by decide +kernel
theorem dX8_awakeAt_6 : decode cX8_awakeAt 6 = .ok (.getfield 7, 3) := by decide +kernel
theorem dX8_awakeAt_9 : decode cX8_awakeAt 9 = .ok (.bipush 6, 2) := by decide +kernel
theorem dX8_awakeAt_11 : decode cX8_awakeAt 11 = .ok (.iaload, 1) := by decide +kernel
theorem dX8_awakeAt_12 : decode cX8_awakeAt 12 = .ok (.if_icmp .ge 36, 3) := by decide +kernel
theorem dX8_awakeAt_15 : decode cX8_awakeAt 15 = .ok (.iload_n 2, 1) := by decide +kernel
theorem dX8_awakeAt_16 : decode cX8_awakeAt 16 = .ok (.aload_n 0, 1) := by decide +kernel
theorem dX8_awakeAt_17 : decode cX8_awakeAt 17 = .ok (.iload_n 3, 1) := by decide +kernel
theorem dX8_awakeAt_18 : decode cX8_awakeAt 18 = .ok (.invokevirtual 121, 3) := by decide +kernel
theorem dX8_awakeAt_21 : decode cX8_awakeAt 21 = .ok (.ifCond .eq 18, 3) := by decide +kernel
theorem dX8_awakeAt_24 : decode cX8_awakeAt 24 = .ok (.aload_n 0, 1) := by decide +kernel
theorem dX8_awakeAt_25 : decode cX8_awakeAt 25 = .ok (.iload_n 3, 1) := by decide +kernel
theorem dX8_awakeAt_26 : decode cX8_awakeAt 26 = .ok (.iload_n 1, 1) := by decide +kernel
theorem dX8_awakeAt_27 : decode cX8_awakeAt 27 = .ok (.invokevirtual 73, 3) := by decide +kernel
theorem dX8_awakeAt_30 : decode cX8_awakeAt 30 = .ok (.ifCond .eq 9, 3) := by decide +kernel
theorem dX8_awakeAt_33 : decode cX8_awakeAt 33 = .ok (.iconst 1, 1) := by decide +kernel
theorem dX8_awakeAt_34 : decode cX8_awakeAt 34 = .ok (.iload_n 3, 1) := by decide +kernel
theorem dX8_awakeAt_35 : decode cX8_awakeAt 35 = .ok (.ishl, 1) := by decide +kernel
theorem dX8_awakeAt_36 : decode cX8_awakeAt 36 = .ok (.goto 4, 3) := by decide +kernel
theorem dX8_awakeAt_39 : decode cX8_awakeAt 39 = .ok (.iconst 0, 1) := by decide +kernel
theorem dX8_awakeAt_40 : decode cX8_awakeAt 40 = .ok (.ior, 1) := by decide +kernel
theorem dX8_awakeAt_41 : decode cX8_awakeAt 41 = .ok (.istore_n 2, 1) := by decide +kernel
theorem dX8_awakeAt_42 : decode cX8_awakeAt 42 = .ok (.iinc 3 1, 3) := by decide +kernel
theorem dX8_awakeAt_45 : decode cX8_awakeAt 45 = .ok (.goto (-41), 3) := by decide +kernel
theorem dX8_awakeAt_48 : decode cX8_awakeAt 48 = .ok (.iload_n 2, 1) := by decide +kernel
theorem dX8_awakeAt_49 : decode cX8_awakeAt 49 = .ok (.ireturn, 1) := by decide +kernel
theorem dX8_bitOf_0 : decode cX8_bitOf 0 = .ok (.aload_n 0, 1) := by decide +kernel
theorem dX8_bitOf_1 : decode cX8_bitOf 1 = .ok (.iload_n 1, 1) := by decide +kernel
theorem dX8_bitOf_2 : decode cX8_bitOf 2 = .ok (.bipush 17, 2) := by decide +kernel
theorem dX8_bitOf_4 : decode cX8_bitOf 4 = .ok (.invokevirtual 40, 3) := by decide +kernel
theorem dX8_bitOf_7 : decode cX8_bitOf 7 = .ok (.istore_n 2, 1) := by decide +kernel
theorem dX8_bitOf_8 : decode cX8_bitOf 8 = .ok (.iload_n 2, 1) := by decide +kernel
theorem dX8_bitOf_9 : decode cX8_bitOf 9 = .ok (.iconst 3, 1) := by decide +kernel
theorem dX8_bitOf_10 : decode cX8_bitOf 10 = .ok (.if_icmp .ge 13, 3) := by decide +kernel
theorem dX8_bitOf_13 : decode cX8_bitOf 13 = .ok (.iload_n 1, 1) := by decide +kernel
theorem dX8_bitOf_14 : decode cX8_bitOf 14 = .ok (.iconst 2, 1) := by decide +kernel
theorem dX8_bitOf_15 : decode cX8_bitOf 15 = .ok (.iload_n 2, 1) := by decide +kernel
theorem dX8_bitOf_16 : decode cX8_bitOf 16 = .ok (.isub, 1) := by decide +kernel
theorem dX8_bitOf_17 : decode cX8_bitOf 17 = .ok (.ishr, 1) := by decide +kernel
theorem dX8_bitOf_18 : decode cX8_bitOf 18 = .ok (.iconst 1, 1) := by decide +kernel
theorem dX8_bitOf_19 : decode cX8_bitOf 19 = .ok (.iand, 1) := by decide +kernel
theorem dX8_bitOf_20 : decode cX8_bitOf 20 = .ok (.goto 16, 3) := by decide +kernel
theorem dX8_bitOf_23 : decode cX8_bitOf 23 = .ok (.aload_n 0, 1) := by decide +kernel
theorem dX8_bitOf_24 : decode cX8_bitOf 24 = .ok (.iload_n 1, 1) := by decide +kernel
theorem dX8_bitOf_25 : decode cX8_bitOf 25 = .ok (.iconst 5, 1) := by decide +kernel
theorem dX8_bitOf_26 : decode cX8_bitOf 26 = .ok (.invokevirtual 40, 3) := by decide +kernel
theorem dX8_bitOf_29 : decode cX8_bitOf 29 = .ok (.bipush 10, 2) := by decide +kernel
theorem dX8_bitOf_31 : decode cX8_bitOf 31 = .ok (.iload_n 2, 1) := by decide +kernel
theorem dX8_bitOf_32 : decode cX8_bitOf 32 = .ok (.isub, 1) := by decide +kernel
theorem dX8_bitOf_33 : decode cX8_bitOf 33 = .ok (.ishr, 1) := by decide +kernel
theorem dX8_bitOf_34 : decode cX8_bitOf 34 = .ok (.iconst 1, 1) := by decide +kernel
theorem dX8_bitOf_35 : decode cX8_bitOf 35 = .ok (.iand, 1) := by decide +kernel
theorem dX8_bitOf_36 : decode cX8_bitOf 36 = .ok (.ireturn, 1) := by decide +kernel
theorem dX8_begin_0 : decode cX8_begin 0 = .ok (.iconst 0, 1) := by decide +kernel
theorem dX8_begin_1 : decode cX8_begin 1 = .ok (.istore_n 1, 1) := by decide +kernel
theorem dX8_begin_2 : decode cX8_begin 2 = .ok (.iload_n 1, 1) := by decide +kernel
theorem dX8_begin_3 : decode cX8_begin 3 = .ok (.aload_n 0, 1) := by decide +kernel
theorem dX8_begin_4 : decode cX8_begin 4 = .ok (.getfield 7, 3) := by decide +kernel
theorem dX8_begin_7 : decode cX8_begin 7 = .ok (.bipush 6, 2) := by decide +kernel
theorem dX8_begin_9 : decode cX8_begin 9 = .ok (.iaload, 1) := by decide +kernel
theorem dX8_begin_10 : decode cX8_begin 10 = .ok (.if_icmp .ge 41, 3) := by decide +kernel
theorem dX8_begin_13 : decode cX8_begin 13 = .ok (.aload_n 0, 1) := by decide +kernel
theorem dX8_begin_14 : decode cX8_begin 14 = .ok (.iload_n 1, 1) := by decide +kernel
theorem dX8_begin_15 : decode cX8_begin 15 = .ok (.invokevirtual 124, 3) := by decide +kernel
theorem dX8_begin_18 : decode cX8_begin 18 = .ok (.ifCond .eq 27, 3) := by decide +kernel
theorem dX8_begin_21 : decode cX8_begin 21 = .ok (.aload_n 0, 1) := by decide +kernel
theorem dX8_begin_22 : decode cX8_begin 22 = .ok (.iload_n 1, 1) := by decide +kernel
theorem dX8_begin_23 : decode cX8_begin 23 = .ok (.bipush 17, 2) := by decide +kernel
theorem dX8_begin_25 : decode cX8_begin 25 = .ok (.iconst 0, 1) := by decide +kernel
theorem dX8_begin_26 : decode cX8_begin 26 = .ok (.invokevirtual 55, 3) := by decide +kernel
theorem dX8_begin_29 : decode cX8_begin 29 = .ok (.aload_n 0, 1) := by decide +kernel
theorem dX8_begin_30 : decode cX8_begin 30 = .ok (.iload_n 1, 1) := by decide +kernel
theorem dX8_begin_31 : decode cX8_begin 31 = .ok (.bipush 18, 2) := by decide +kernel
theorem dX8_begin_33 : decode cX8_begin 33 = .ok (.aload_n 0, 1) := by decide +kernel
theorem dX8_begin_34 : decode cX8_begin 34 = .ok (.aload_n 0, 1) := by decide +kernel
theorem dX8_begin_35 : decode cX8_begin 35 = .ok (.iload_n 1, 1) := by decide +kernel
theorem dX8_begin_36 : decode cX8_begin 36 = .ok (.invokevirtual 90, 3) := by decide +kernel
theorem dX8_begin_39 : decode cX8_begin 39 = .ok (.invokevirtual 127, 3) := by decide +kernel
theorem dX8_begin_42 : decode cX8_begin 42 = .ok (.invokevirtual 55, 3) := by decide +kernel
theorem dX8_begin_45 : decode cX8_begin 45 = .ok (.iinc 1 1, 3) := by decide +kernel
theorem dX8_begin_48 : decode cX8_begin 48 = .ok (.goto (-46), 3) := by decide +kernel
theorem dX8_begin_51 : decode cX8_begin 51 = .ok (.return_, 1) := by decide +kernel
theorem dX8_pull_0 : decode cX8_pull 0 = .ok (.iconst 0, 1) := by decide +kernel
theorem dX8_pull_1 : decode cX8_pull 1 = .ok (.istore_n 1, 1) := by decide +kernel
theorem dX8_pull_2 : decode cX8_pull 2 = .ok (.iload_n 1, 1) := by decide +kernel
theorem dX8_pull_3 : decode cX8_pull 3 = .ok (.bipush 6, 2) := by decide +kernel
theorem dX8_pull_5 : decode cX8_pull 5 = .ok (.if_icmp .ge 30, 3) := by decide +kernel
theorem dX8_pull_8 : decode cX8_pull 8 = .ok (.aload_n 0, 1) := by decide +kernel
theorem dX8_pull_9 : decode cX8_pull 9 = .ok (.getfield 30, 3) := by decide +kernel
theorem dX8_pull_12 : decode cX8_pull 12 = .ok (.iload_n 1, 1) := by decide +kernel
theorem dX8_pull_13 : decode cX8_pull 13 = .ok (.aload_n 0, 1) := by decide +kernel
theorem dX8_pull_14 : decode cX8_pull 14 = .ok (.iload_n 1, 1) := by decide +kernel
theorem dX8_pull_15 : decode cX8_pull 15 = .ok (.iconst 1, 1) := by decide +kernel
theorem dX8_pull_16 : decode cX8_pull 16 = .ok (.invokevirtual 100, 3) := by decide +kernel
theorem dX8_pull_19 : decode cX8_pull 19 = .ok (.iconst 1, 1) := by decide +kernel
theorem dX8_pull_20 : decode cX8_pull 20 = .ok (.if_icmp .ne 7, 3) := by decide +kernel
theorem dX8_pull_23 : decode cX8_pull 23 = .ok (.iconst 1, 1) := by decide +kernel
theorem dX8_pull_24 : decode cX8_pull 24 = .ok (.goto 4, 3) := by decide +kernel
theorem dX8_pull_27 : decode cX8_pull 27 = .ok (.iconst 0, 1) := by decide +kernel
theorem dX8_pull_28 : decode cX8_pull 28 = .ok (.bastore, 1) := by decide +kernel
theorem dX8_pull_29 : decode cX8_pull 29 = .ok (.iinc 1 1, 3) := by decide +kernel
theorem dX8_pull_32 : decode cX8_pull 32 = .ok (.goto (-30), 3) := by decide +kernel
theorem dX8_pull_35 : decode cX8_pull 35 = .ok (.iconst 0, 1) := by decide +kernel
theorem dX8_pull_36 : decode cX8_pull 36 = .ok (.istore_n 1, 1) := by decide +kernel
theorem dX8_pull_37 : decode cX8_pull 37 = .ok (.iload_n 1, 1) := by decide +kernel
theorem dX8_pull_38 : decode cX8_pull 38 = .ok (.aload_n 0, 1) := by decide +kernel
theorem dX8_pull_39 : decode cX8_pull 39 = .ok (.getfield 7, 3) := by decide +kernel
theorem dX8_pull_42 : decode cX8_pull 42 = .ok (.bipush 6, 2) := by decide +kernel
theorem dX8_pull_44 : decode cX8_pull 44 = .ok (.iaload, 1) := by decide +kernel
theorem dX8_pull_45 : decode cX8_pull 45 = .ok (.if_icmp .ge 36, 3) := by decide +kernel
theorem dX8_pull_48 : decode cX8_pull 48 = .ok (.aload_n 0, 1) := by decide +kernel
theorem dX8_pull_49 : decode cX8_pull 49 = .ok (.iload_n 1, 1) := by decide +kernel
theorem dX8_pull_50 : decode cX8_pull 50 = .ok (.invokevirtual 109, 3) := by decide +kernel
theorem dX8_pull_53 : decode cX8_pull 53 = .ok (.ifCond .eq 22, 3) := by decide +kernel
theorem dX8_pull_56 : decode cX8_pull 56 = .ok (.aload_n 0, 1) := by decide +kernel
theorem dX8_pull_57 : decode cX8_pull 57 = .ok (.iload_n 1, 1) := by decide +kernel
theorem dX8_pull_58 : decode cX8_pull 58 = .ok (.invokevirtual 130, 3) := by decide +kernel
theorem dX8_pull_61 : decode cX8_pull 61 = .ok (.ifCond .ne 14, 3) := by decide +kernel
theorem dX8_pull_64 : decode cX8_pull 64 = .ok (.aload_n 0, 1) := by decide +kernel
theorem dX8_pull_65 : decode cX8_pull 65 = .ok (.getfield 30, 3) := by decide +kernel
theorem dX8_pull_68 : decode cX8_pull 68 = .ok (.aload_n 0, 1) := by decide +kernel
theorem dX8_pull_69 : decode cX8_pull 69 = .ok (.iload_n 1, 1) := by decide +kernel
theorem dX8_pull_70 : decode cX8_pull 70 = .ok (.invokevirtual 90, 3) := by decide +kernel
theorem dX8_pull_73 : decode cX8_pull 73 = .ok (.iconst 1, 1) := by decide +kernel
theorem dX8_pull_74 : decode cX8_pull 74 = .ok (.bastore, 1) := by decide +kernel
theorem dX8_pull_75 : decode cX8_pull 75 = .ok (.iinc 1 1, 3) := by decide +kernel
theorem dX8_pull_78 : decode cX8_pull 78 = .ok (.goto (-41), 3) := by decide +kernel
theorem dX8_pull_81 : decode cX8_pull 81 = .ok (.return_, 1) := by decide +kernel
theorem dX8_allAwake_0 : decode cX8_allAwake 0 = .ok (.iconst 1, 1) := by decide +kernel
theorem dX8_allAwake_1 : decode cX8_allAwake 1 = .ok (.istore_n 2, 1) := by decide +kernel
theorem dX8_allAwake_2 : decode cX8_allAwake 2 = .ok (.iconst 0, 1) := by decide +kernel
theorem dX8_allAwake_3 : decode cX8_allAwake 3 = .ok (.istore_n 3, 1) := by decide +kernel
theorem dX8_allAwake_4 : decode cX8_allAwake 4 = .ok (.iload_n 3, 1) := by decide +kernel
theorem dX8_allAwake_5 : decode cX8_allAwake 5 = .ok (.aload_n 0, 1) := by decide +kernel
theorem dX8_allAwake_6 : decode cX8_allAwake 6 = .ok (.getfield 7, 3) := by decide +kernel
theorem dX8_allAwake_9 : decode cX8_allAwake 9 = .ok (.bipush 6, 2) := by decide +kernel
theorem dX8_allAwake_11 : decode cX8_allAwake 11 = .ok (.iaload, 1) := by decide +kernel
theorem dX8_allAwake_12 : decode cX8_allAwake 12 = .ok (.if_icmp .ge 35, 3) := by decide +kernel
theorem dX8_allAwake_15 : decode cX8_allAwake 15 = .ok (.iload_n 2, 1) := by decide +kernel
theorem dX8_allAwake_16 : decode cX8_allAwake 16 = .ok (.ifCond .eq 23, 3) := by decide +kernel
theorem dX8_allAwake_19 : decode cX8_allAwake 19 = .ok (.iload_n 1, 1) := by decide +kernel
theorem dX8_allAwake_20 : decode cX8_allAwake 20 = .ok (.iload_n 3, 1) := by decide +kernel
theorem dX8_allAwake_21 : decode cX8_allAwake 21 = .ok (.ishr, 1) := by decide +kernel
theorem dX8_allAwake_22 : decode cX8_allAwake 22 = .ok (.iconst 1, 1) := by decide +kernel
theorem dX8_allAwake_23 : decode cX8_allAwake 23 = .ok (.iand, 1) := by decide +kernel
theorem dX8_allAwake_24 : decode cX8_allAwake 24 = .ok (.ifCond .eq 11, 3) := by decide +kernel
theorem dX8_allAwake_27 : decode cX8_allAwake 27 = .ok (.aload_n 0, 1) := by decide +kernel
theorem dX8_allAwake_28 : decode cX8_allAwake 28 = .ok (.iload_n 3, 1) := by decide +kernel
theorem dX8_allAwake_29 : decode cX8_allAwake 29 = .ok (.invokevirtual 121, 3) := by decide +kernel
theorem dX8_allAwake_32 : decode cX8_allAwake 32 = .ok (.ifCond .eq 7, 3) := by decide +kernel
theorem dX8_allAwake_35 : decode cX8_allAwake 35 = .ok (.iconst 1, 1) := by decide +kernel
theorem dX8_allAwake_36 : decode cX8_allAwake 36 = .ok (.goto 4, 3) := by decide +kernel
theorem dX8_allAwake_39 : decode cX8_allAwake 39 = .ok (.iconst 0, 1) := by decide +kernel
theorem dX8_allAwake_40 : decode cX8_allAwake 40 = .ok (.istore_n 2, 1) := by decide +kernel
theorem dX8_allAwake_41 : decode cX8_allAwake 41 = .ok (.iinc 3 1, 3) := by decide +kernel
theorem dX8_allAwake_44 : decode cX8_allAwake 44 = .ok (.goto (-40), 3) := by decide +kernel
theorem dX8_allAwake_47 : decode cX8_allAwake 47 = .ok (.iload_n 2, 1) := by decide +kernel
theorem dX8_allAwake_48 : decode cX8_allAwake 48 = .ok (.ireturn, 1) := by decide +kernel
theorem dX8_hears_0 : decode cX8_hears 0 = .ok (.aload_n 0, 1) := by decide +kernel
theorem dX8_hears_1 : decode cX8_hears 1 = .ok (.iload_n 1, 1) := by decide +kernel
theorem dX8_hears_2 : decode cX8_hears 2 = .ok (.bipush 21, 2) := by decide +kernel
theorem dX8_hears_4 : decode cX8_hears 4 = .ok (.iconst 1, 1) := by decide +kernel
theorem dX8_hears_5 : decode cX8_hears 5 = .ok (.invokevirtual 76, 3) := by decide +kernel
theorem dX8_hears_8 : decode cX8_hears 8 = .ok (.aload_n 0, 1) := by decide +kernel
theorem dX8_hears_9 : decode cX8_hears 9 = .ok (.iload_n 1, 1) := by decide +kernel
theorem dX8_hears_10 : decode cX8_hears 10 = .ok (.bipush 23, 2) := by decide +kernel
theorem dX8_hears_12 : decode cX8_hears 12 = .ok (.aload_n 0, 1) := by decide +kernel
theorem dX8_hears_13 : decode cX8_hears 13 = .ok (.iload_n 1, 1) := by decide +kernel
theorem dX8_hears_14 : decode cX8_hears 14 = .ok (.bipush 23, 2) := by decide +kernel
theorem dX8_hears_16 : decode cX8_hears 16 = .ok (.invokevirtual 40, 3) := by decide +kernel
theorem dX8_hears_19 : decode cX8_hears 19 = .ok (.iconst 4, 1) := by decide +kernel
theorem dX8_hears_20 : decode cX8_hears 20 = .ok (.if_icmp .ge 7, 3) := by decide +kernel
theorem dX8_hears_23 : decode cX8_hears 23 = .ok (.iconst 1, 1) := by decide +kernel
theorem dX8_hears_24 : decode cX8_hears 24 = .ok (.goto 4, 3) := by decide +kernel
theorem dX8_hears_27 : decode cX8_hears 27 = .ok (.iconst 0, 1) := by decide +kernel
theorem dX8_hears_28 : decode cX8_hears 28 = .ok (.invokevirtual 76, 3) := by decide +kernel
theorem dX8_hears_31 : decode cX8_hears 31 = .ok (.bipush 24, 2) := by decide +kernel
theorem dX8_hears_33 : decode cX8_hears 33 = .ok (.iconst 4, 1) := by decide +kernel
theorem dX8_hears_34 : decode cX8_hears 34 = .ok (.aload_n 0, 1) := by decide +kernel
theorem dX8_hears_35 : decode cX8_hears 35 = .ok (.iload_n 1, 1) := by decide +kernel
theorem dX8_hears_36 : decode cX8_hears 36 = .ok (.bipush 23, 2) := by decide +kernel
theorem dX8_hears_38 : decode cX8_hears 38 = .ok (.invokevirtual 40, 3) := by decide +kernel
theorem dX8_hears_41 : decode cX8_hears 41 = .ok (.imul, 1) := by decide +kernel
theorem dX8_hears_42 : decode cX8_hears 42 = .ok (.iadd, 1) := by decide +kernel
theorem dX8_hears_43 : decode cX8_hears 43 = .ok (.iconst 1, 1) := by decide +kernel
theorem dX8_hears_44 : decode cX8_hears 44 = .ok (.isub, 1) := by decide +kernel
theorem dX8_hears_45 : decode cX8_hears 45 = .ok (.istore_n 3, 1) := by decide +kernel
theorem dX8_hears_46 : decode cX8_hears 46 = .ok (.iload_n 3, 1) := by decide +kernel
theorem dX8_hears_47 : decode cX8_hears 47 = .ok (.bipush 28, 2) := by decide +kernel
theorem dX8_hears_49 : decode cX8_hears 49 = .ok (.if_icmp .lt 23, 3) := by decide +kernel
theorem dX8_hears_52 : decode cX8_hears 52 = .ok (.aload_n 0, 1) := by decide +kernel
theorem dX8_hears_53 : decode cX8_hears 53 = .ok (.iload_n 1, 1) := by decide +kernel
theorem dX8_hears_54 : decode cX8_hears 54 = .ok (.iload_n 3, 1) := by decide +kernel
theorem dX8_hears_55 : decode cX8_hears 55 = .ok (.aload_n 0, 1) := by decide +kernel
theorem dX8_hears_56 : decode cX8_hears 56 = .ok (.iload_n 1, 1) := by decide +kernel
theorem dX8_hears_57 : decode cX8_hears 57 = .ok (.iload_n 3, 1) := by decide +kernel
theorem dX8_hears_58 : decode cX8_hears 58 = .ok (.iconst 4, 1) := by decide +kernel
theorem dX8_hears_59 : decode cX8_hears 59 = .ok (.isub, 1) := by decide +kernel
theorem dX8_hears_60 : decode cX8_hears 60 = .ok (.invokevirtual 40, 3) := by decide +kernel
theorem dX8_hears_63 : decode cX8_hears 63 = .ok (.invokevirtual 55, 3) := by decide +kernel
theorem dX8_hears_66 : decode cX8_hears 66 = .ok (.iinc 3 (-1), 3) := by decide +kernel
theorem dX8_hears_69 : decode cX8_hears 69 = .ok (.goto (-23), 3) := by decide +kernel
theorem dX8_hears_72 : decode cX8_hears 72 = .ok (.aload_n 0, 1) := by decide +kernel
theorem dX8_hears_73 : decode cX8_hears 73 = .ok (.iload_n 1, 1) := by decide +kernel
theorem dX8_hears_74 : decode cX8_hears 74 = .ok (.bipush 24, 2) := by decide +kernel
theorem dX8_hears_76 : decode cX8_hears 76 = .ok (.aload_n 0, 1) := by decide +kernel
theorem dX8_hears_77 : decode cX8_hears 77 = .ok (.iload_n 2, 1) := by decide +kernel
theorem dX8_hears_78 : decode cX8_hears 78 = .ok (.iconst 5, 1) := by decide +kernel
theorem dX8_hears_79 : decode cX8_hears 79 = .ok (.invokevirtual 40, 3) := by decide +kernel
theorem dX8_hears_82 : decode cX8_hears 82 = .ok (.invokevirtual 55, 3) := by decide +kernel
theorem dX8_hears_85 : decode cX8_hears 85 = .ok (.aload_n 0, 1) := by decide +kernel
theorem dX8_hears_86 : decode cX8_hears 86 = .ok (.iload_n 1, 1) := by decide +kernel
theorem dX8_hears_87 : decode cX8_hears 87 = .ok (.bipush 25, 2) := by decide +kernel
theorem dX8_hears_89 : decode cX8_hears 89 = .ok (.iload_n 2, 1) := by decide +kernel
theorem dX8_hears_90 : decode cX8_hears 90 = .ok (.invokevirtual 55, 3) := by decide +kernel
theorem dX8_hears_93 : decode cX8_hears 93 = .ok (.aload_n 0, 1) := by decide +kernel
theorem dX8_hears_94 : decode cX8_hears 94 = .ok (.iload_n 1, 1) := by decide +kernel
theorem dX8_hears_95 : decode cX8_hears 95 = .ok (.bipush 26, 2) := by decide +kernel
theorem dX8_hears_97 : decode cX8_hears 97 = .ok (.aload_n 0, 1) := by decide +kernel
theorem dX8_hears_98 : decode cX8_hears 98 = .ok (.iload_n 2, 1) := by decide +kernel
theorem dX8_hears_99 : decode cX8_hears 99 = .ok (.invokevirtual 90, 3) := by decide +kernel
theorem dX8_hears_102 : decode cX8_hears 102 = .ok (.invokevirtual 55, 3) := by decide +kernel
theorem dX8_hears_105 : decode cX8_hears 105 = .ok (.aload_n 0, 1) := by decide +kernel
theorem dX8_hears_106 : decode cX8_hears 106 = .ok (.iload_n 1, 1) := by decide +kernel
theorem dX8_hears_107 : decode cX8_hears 107 = .ok (.bipush 27, 2) := by decide +kernel
theorem dX8_hears_109 : decode cX8_hears 109 = .ok (.aload_n 0, 1) := by decide +kernel
theorem dX8_hears_110 : decode cX8_hears 110 = .ok (.getfield 7, 3) := by decide +kernel
theorem dX8_hears_113 : decode cX8_hears 113 = .ok (.iconst 5, 1) := by decide +kernel
theorem dX8_hears_114 : decode cX8_hears 114 = .ok (.iaload, 1) := by decide +kernel
theorem dX8_hears_115 : decode cX8_hears 115 = .ok (.invokevirtual 55, 3) := by decide +kernel
theorem dX8_hears_118 : decode cX8_hears 118 = .ok (.return_, 1) := by decide +kernel
theorem dX8_goesOn_0 : decode cX8_goesOn 0 = .ok (.aload_n 0, 1) := by decide +kernel
theorem dX8_goesOn_1 : decode cX8_goesOn 1 = .ok (.iload_n 1, 1) := by decide +kernel
theorem dX8_goesOn_2 : decode cX8_goesOn 2 = .ok (.bipush 17, 2) := by decide +kernel
theorem dX8_goesOn_4 : decode cX8_goesOn 4 = .ok (.invokevirtual 40, 3) := by decide +kernel
theorem dX8_goesOn_7 : decode cX8_goesOn 7 = .ok (.bipush 10, 2) := by decide +kernel
theorem dX8_goesOn_9 : decode cX8_goesOn 9 = .ok (.if_icmp .ne 7, 3) := by decide +kernel
theorem dX8_goesOn_12 : decode cX8_goesOn 12 = .ok (.iconst 1, 1) := by decide +kernel
theorem dX8_goesOn_13 : decode cX8_goesOn 13 = .ok (.goto 4, 3) := by decide +kernel
theorem dX8_goesOn_16 : decode cX8_goesOn 16 = .ok (.iconst 0, 1) := by decide +kernel
theorem dX8_goesOn_17 : decode cX8_goesOn 17 = .ok (.istore_n 2, 1) := by decide +kernel
theorem dX8_goesOn_18 : decode cX8_goesOn 18 = .ok (.aload_n 0, 1) := by decide +kernel
theorem dX8_goesOn_19 : decode cX8_goesOn 19 = .ok (.iload_n 1, 1) := by decide +kernel
theorem dX8_goesOn_20 : decode cX8_goesOn 20 = .ok (.invokevirtual 130, 3) := by decide +kernel
theorem dX8_goesOn_23 : decode cX8_goesOn 23 = .ok (.iconst 1, 1) := by decide +kernel
theorem dX8_goesOn_24 : decode cX8_goesOn 24 = .ok (.if_icmp .ne 16, 3) := by decide +kernel
theorem dX8_goesOn_27 : decode cX8_goesOn 27 = .ok (.aload_n 0, 1) := by decide +kernel
theorem dX8_goesOn_28 : decode cX8_goesOn 28 = .ok (.getfield 30, 3) := by decide +kernel
theorem dX8_goesOn_31 : decode cX8_goesOn 31 = .ok (.aload_n 0, 1) := by decide +kernel
theorem dX8_goesOn_32 : decode cX8_goesOn 32 = .ok (.iload_n 1, 1) := by decide +kernel
theorem dX8_goesOn_33 : decode cX8_goesOn 33 = .ok (.invokevirtual 90, 3) := by decide +kernel
theorem dX8_goesOn_36 : decode cX8_goesOn 36 = .ok (.baload, 1) := by decide +kernel
theorem dX8_goesOn_37 : decode cX8_goesOn 37 = .ok (.ifCond .ne 21, 3) := by decide +kernel
theorem dX8_goesOn_40 : decode cX8_goesOn 40 = .ok (.iload_n 2, 1) := by decide +kernel
theorem dX8_goesOn_41 : decode cX8_goesOn 41 = .ok (.ifCond .eq 24, 3) := by decide +kernel
theorem dX8_goesOn_44 : decode cX8_goesOn 44 = .ok (.aload_n 0, 1) := by decide +kernel
theorem dX8_goesOn_45 : decode cX8_goesOn 45 = .ok (.aload_n 0, 1) := by decide +kernel
theorem dX8_goesOn_46 : decode cX8_goesOn 46 = .ok (.iload_n 1, 1) := by decide +kernel
theorem dX8_goesOn_47 : decode cX8_goesOn 47 = .ok (.bipush 18, 2) := by decide +kernel
theorem dX8_goesOn_49 : decode cX8_goesOn 49 = .ok (.invokevirtual 40, 3) := by decide +kernel
theorem dX8_goesOn_52 : decode cX8_goesOn 52 = .ok (.invokevirtual 133, 3) := by decide +kernel
theorem dX8_goesOn_55 : decode cX8_goesOn 55 = .ok (.ifCond .ne 10, 3) := by decide +kernel
theorem dX8_goesOn_58 : decode cX8_goesOn 58 = .ok (.aload_n 0, 1) := by decide +kernel
theorem dX8_goesOn_59 : decode cX8_goesOn 59 = .ok (.iload_n 1, 1) := by decide +kernel
theorem dX8_goesOn_60 : decode cX8_goesOn 60 = .ok (.invokevirtual 112, 3) := by decide +kernel
theorem dX8_goesOn_63 : decode cX8_goesOn 63 = .ok (.iconst 0, 1) := by decide +kernel
theorem dX8_goesOn_64 : decode cX8_goesOn 64 = .ok (.ireturn, 1) := by decide +kernel
theorem dX8_goesOn_65 : decode cX8_goesOn 65 = .ok (.iload_n 2, 1) := by decide +kernel
theorem dX8_goesOn_66 : decode cX8_goesOn 66 = .ok (.ifCond .ne 13, 3) := by decide +kernel
theorem dX8_goesOn_69 : decode cX8_goesOn 69 = .ok (.aload_n 0, 1) := by decide +kernel
theorem dX8_goesOn_70 : decode cX8_goesOn 70 = .ok (.iload_n 1, 1) := by decide +kernel
theorem dX8_goesOn_71 : decode cX8_goesOn 71 = .ok (.bipush 17, 2) := by decide +kernel
theorem dX8_goesOn_73 : decode cX8_goesOn 73 = .ok (.iconst 1, 1) := by decide +kernel
theorem dX8_goesOn_74 : decode cX8_goesOn 74 = .ok (.invokevirtual 76, 3) := by decide +kernel
theorem dX8_goesOn_77 : decode cX8_goesOn 77 = .ok (.iconst 0, 1) := by decide +kernel
theorem dX8_goesOn_78 : decode cX8_goesOn 78 = .ok (.ireturn, 1) := by decide +kernel
theorem dX8_goesOn_79 : decode cX8_goesOn 79 = .ok (.iconst 0, 1) := by decide +kernel
theorem dX8_goesOn_80 : decode cX8_goesOn 80 = .ok (.istore_n 3, 1) := by decide +kernel
theorem dX8_goesOn_81 : decode cX8_goesOn 81 = .ok (.iload_n 3, 1) := by decide +kernel
theorem dX8_goesOn_82 : decode cX8_goesOn 82 = .ok (.aload_n 0, 1) := by decide +kernel
theorem dX8_goesOn_83 : decode cX8_goesOn 83 = .ok (.getfield 7, 3) := by decide +kernel
theorem dX8_goesOn_86 : decode cX8_goesOn 86 = .ok (.bipush 6, 2) := by decide +kernel
theorem dX8_goesOn_88 : decode cX8_goesOn 88 = .ok (.iaload, 1) := by decide +kernel
theorem dX8_goesOn_89 : decode cX8_goesOn 89 = .ok (.if_icmp .ge 35, 3) := by decide +kernel
theorem dX8_goesOn_92 : decode cX8_goesOn 92 = .ok (.iload_n 3, 1) := by decide +kernel
theorem dX8_goesOn_93 : decode cX8_goesOn 93 = .ok (.iload_n 1, 1) := by decide +kernel
theorem dX8_goesOn_94 : decode cX8_goesOn 94 = .ok (.if_icmp .eq 24, 3) := by decide +kernel
theorem dX8_goesOn_97 : decode cX8_goesOn 97 = .ok (.aload_n 0, 1) := by decide +kernel
theorem dX8_goesOn_98 : decode cX8_goesOn 98 = .ok (.iload_n 1, 1) := by decide +kernel
theorem dX8_goesOn_99 : decode cX8_goesOn 99 = .ok (.bipush 18, 2) := by decide +kernel
theorem dX8_goesOn_101 : decode cX8_goesOn 101 = .ok (.invokevirtual 40, 3) := by decide +kernel
theorem dX8_goesOn_104 : decode cX8_goesOn 104 = .ok (.iload_n 3, 1) := by decide +kernel
theorem dX8_goesOn_105 : decode cX8_goesOn 105 = .ok (.ishr, 1) := by decide +kernel
theorem dX8_goesOn_106 : decode cX8_goesOn 106 = .ok (.iconst 1, 1) := by decide +kernel
theorem dX8_goesOn_107 : decode cX8_goesOn 107 = .ok (.iand, 1) := by decide +kernel
theorem dX8_goesOn_108 : decode cX8_goesOn 108 = .ok (.iconst 1, 1) := by decide +kernel
theorem dX8_goesOn_109 : decode cX8_goesOn 109 = .ok (.if_icmp .ne 9, 3) := by decide +kernel
theorem dX8_goesOn_112 : decode cX8_goesOn 112 = .ok (.aload_n 0, 1) := by decide +kernel
theorem dX8_goesOn_113 : decode cX8_goesOn 113 = .ok (.iload_n 3, 1) := by decide +kernel
theorem dX8_goesOn_114 : decode cX8_goesOn 114 = .ok (.iload_n 1, 1) := by decide +kernel
theorem dX8_goesOn_115 : decode cX8_goesOn 115 = .ok (.invokevirtual 136, 3) := by decide +kernel
theorem dX8_goesOn_118 : decode cX8_goesOn 118 = .ok (.iinc 3 1, 3) := by decide +kernel
theorem dX8_goesOn_121 : decode cX8_goesOn 121 = .ok (.goto (-40), 3) := by decide +kernel
theorem dX8_goesOn_124 : decode cX8_goesOn 124 = .ok (.aload_n 0, 1) := by decide +kernel
theorem dX8_goesOn_125 : decode cX8_goesOn 125 = .ok (.iload_n 1, 1) := by decide +kernel
theorem dX8_goesOn_126 : decode cX8_goesOn 126 = .ok (.bipush 19, 2) := by decide +kernel
theorem dX8_goesOn_128 : decode cX8_goesOn 128 = .ok (.iconst 1, 1) := by decide +kernel
theorem dX8_goesOn_129 : decode cX8_goesOn 129 = .ok (.invokevirtual 76, 3) := by decide +kernel
theorem dX8_goesOn_132 : decode cX8_goesOn 132 = .ok (.aload_n 0, 1) := by decide +kernel
theorem dX8_goesOn_133 : decode cX8_goesOn 133 = .ok (.aload_n 0, 1) := by decide +kernel
theorem dX8_goesOn_134 : decode cX8_goesOn 134 = .ok (.iload_n 1, 1) := by decide +kernel
theorem dX8_goesOn_135 : decode cX8_goesOn 135 = .ok (.invokevirtual 90, 3) := by decide +kernel
theorem dX8_goesOn_138 : decode cX8_goesOn 138 = .ok (.iconst 2, 1) := by decide +kernel
theorem dX8_goesOn_139 : decode cX8_goesOn 139 = .ok (.invokevirtual 93, 3) := by decide +kernel
theorem dX8_goesOn_142 : decode cX8_goesOn 142 = .ok (.aload_n 0, 1) := by decide +kernel
theorem dX8_goesOn_143 : decode cX8_goesOn 143 = .ok (.iload_n 1, 1) := by decide +kernel
theorem dX8_goesOn_144 : decode cX8_goesOn 144 = .ok (.invokevirtual 97, 3) := by decide +kernel
theorem dX8_goesOn_147 : decode cX8_goesOn 147 = .ok (.iconst 1, 1) := by decide +kernel
theorem dX8_goesOn_148 : decode cX8_goesOn 148 = .ok (.ireturn, 1) := by decide +kernel
theorem dX8_charge_0 : decode cX8_charge 0 = .ok (.iconst 0, 1) := by decide +kernel
theorem dX8_charge_1 : decode cX8_charge 1 = .ok (.istore_n 2, 1) := by decide +kernel
theorem dX8_charge_2 : decode cX8_charge 2 = .ok (.iconst 0, 1) := by decide +kernel
theorem dX8_charge_3 : decode cX8_charge 3 = .ok (.istore_n 3, 1) := by decide +kernel
theorem dX8_charge_4 : decode cX8_charge 4 = .ok (.iload_n 3, 1) := by decide +kernel
theorem dX8_charge_5 : decode cX8_charge 5 = .ok (.bipush 6, 2) := by decide +kernel
theorem dX8_charge_7 : decode cX8_charge 7 = .ok (.if_icmp .ge 35, 3) := by decide +kernel
theorem dX8_charge_10 : decode cX8_charge 10 = .ok (.iload_n 2, 1) := by decide +kernel
theorem dX8_charge_11 : decode cX8_charge 11 = .ok (.aload_n 0, 1) := by decide +kernel
theorem dX8_charge_12 : decode cX8_charge 12 = .ok (.iload_n 1, 1) := by decide +kernel
theorem dX8_charge_13 : decode cX8_charge 13 = .ok (.iload_n 3, 1) := by decide +kernel
theorem dX8_charge_14 : decode cX8_charge 14 = .ok (.invokevirtual 73, 3) := by decide +kernel
theorem dX8_charge_17 : decode cX8_charge 17 = .ok (.ifCond .eq 16, 3) := by decide +kernel
theorem dX8_charge_20 : decode cX8_charge 20 = .ok (.aload_n 0, 1) := by decide +kernel
theorem dX8_charge_21 : decode cX8_charge 21 = .ok (.getfield 30, 3) := by decide +kernel
theorem dX8_charge_24 : decode cX8_charge 24 = .ok (.iload_n 3, 1) := by decide +kernel
theorem dX8_charge_25 : decode cX8_charge 25 = .ok (.baload, 1) := by decide +kernel
theorem dX8_charge_26 : decode cX8_charge 26 = .ok (.ifCond .ne 7, 3) := by decide +kernel
theorem dX8_charge_29 : decode cX8_charge 29 = .ok (.iconst 1, 1) := by decide +kernel
theorem dX8_charge_30 : decode cX8_charge 30 = .ok (.goto 4, 3) := by decide +kernel
theorem dX8_charge_33 : decode cX8_charge 33 = .ok (.iconst 0, 1) := by decide +kernel
theorem dX8_charge_34 : decode cX8_charge 34 = .ok (.iadd, 1) := by decide +kernel
theorem dX8_charge_35 : decode cX8_charge 35 = .ok (.istore_n 2, 1) := by decide +kernel
theorem dX8_charge_36 : decode cX8_charge 36 = .ok (.iinc 3 1, 3) := by decide +kernel
theorem dX8_charge_39 : decode cX8_charge 39 = .ok (.goto (-35), 3) := by decide +kernel
theorem dX8_charge_42 : decode cX8_charge 42 = .ok (.aload_n 0, 1) := by decide +kernel
theorem dX8_charge_43 : decode cX8_charge 43 = .ok (.iload_n 1, 1) := by decide +kernel
theorem dX8_charge_44 : decode cX8_charge 44 = .ok (.iconst 1, 1) := by decide +kernel
theorem dX8_charge_45 : decode cX8_charge 45 = .ok (.invokevirtual 40, 3) := by decide +kernel
theorem dX8_charge_48 : decode cX8_charge 48 = .ok (.aload_n 0, 1) := by decide +kernel
theorem dX8_charge_49 : decode cX8_charge 49 = .ok (.getfield 7, 3) := by decide +kernel
theorem dX8_charge_52 : decode cX8_charge 52 = .ok (.iconst 3, 1) := by decide +kernel
theorem dX8_charge_53 : decode cX8_charge 53 = .ok (.iaload, 1) := by decide +kernel
theorem dX8_charge_54 : decode cX8_charge 54 = .ok (.iload_n 2, 1) := by decide +kernel
theorem dX8_charge_55 : decode cX8_charge 55 = .ok (.imul, 1) := by decide +kernel
theorem dX8_charge_56 : decode cX8_charge 56 = .ok (.iadd, 1) := by decide +kernel
theorem dX8_charge_57 : decode cX8_charge 57 = .ok (.aload_n 0, 1) := by decide +kernel
theorem dX8_charge_58 : decode cX8_charge 58 = .ok (.iload_n 1, 1) := by decide +kernel
theorem dX8_charge_59 : decode cX8_charge 59 = .ok (.invokevirtual 121, 3) := by decide +kernel
theorem dX8_charge_62 : decode cX8_charge 62 = .ok (.ifCond .eq 12, 3) := by decide +kernel
theorem dX8_charge_65 : decode cX8_charge 65 = .ok (.aload_n 0, 1) := by decide +kernel
theorem dX8_charge_66 : decode cX8_charge 66 = .ok (.getfield 7, 3) := by decide +kernel
theorem dX8_charge_69 : decode cX8_charge 69 = .ok (.iconst 2, 1) := by decide +kernel
theorem dX8_charge_70 : decode cX8_charge 70 = .ok (.iaload, 1) := by decide +kernel
theorem dX8_charge_71 : decode cX8_charge 71 = .ok (.goto 4, 3) := by decide +kernel
theorem dX8_charge_74 : decode cX8_charge 74 = .ok (.iconst 0, 1) := by decide +kernel
theorem dX8_charge_75 : decode cX8_charge 75 = .ok (.isub, 1) := by decide +kernel
theorem dX8_charge_76 : decode cX8_charge 76 = .ok (.istore_n 3, 1) := by decide +kernel
theorem dX8_charge_77 : decode cX8_charge 77 = .ok (.aload_n 0, 1) := by decide +kernel
theorem dX8_charge_78 : decode cX8_charge 78 = .ok (.iload_n 1, 1) := by decide +kernel
theorem dX8_charge_79 : decode cX8_charge 79 = .ok (.iconst 1, 1) := by decide +kernel
theorem dX8_charge_80 : decode cX8_charge 80 = .ok (.iload_n 3, 1) := by decide +kernel
theorem dX8_charge_81 : decode cX8_charge 81 = .ok (.aload_n 0, 1) := by decide +kernel
theorem dX8_charge_82 : decode cX8_charge 82 = .ok (.getfield 7, 3) := by decide +kernel
theorem dX8_charge_85 : decode cX8_charge 85 = .ok (.iconst 1, 1) := by decide +kernel
theorem dX8_charge_86 : decode cX8_charge 86 = .ok (.iaload, 1) := by decide +kernel
theorem dX8_charge_87 : decode cX8_charge 87 = .ok (.if_icmp .le 12, 3) := by decide +kernel
theorem dX8_charge_90 : decode cX8_charge 90 = .ok (.aload_n 0, 1) := by decide +kernel
theorem dX8_charge_91 : decode cX8_charge 91 = .ok (.getfield 7, 3) := by decide +kernel
theorem dX8_charge_94 : decode cX8_charge 94 = .ok (.iconst 1, 1) := by decide +kernel
theorem dX8_charge_95 : decode cX8_charge 95 = .ok (.iaload, 1) := by decide +kernel
theorem dX8_charge_96 : decode cX8_charge 96 = .ok (.goto 12, 3) := by decide +kernel
theorem dX8_charge_99 : decode cX8_charge 99 = .ok (.iload_n 3, 1) := by decide +kernel
theorem dX8_charge_100 : decode cX8_charge 100 = .ok (.ifCond .ge 7, 3) := by decide +kernel
theorem dX8_charge_103 : decode cX8_charge 103 = .ok (.iconst 0, 1) := by decide +kernel
theorem dX8_charge_104 : decode cX8_charge 104 = .ok (.goto 4, 3) := by decide +kernel
theorem dX8_charge_107 : decode cX8_charge 107 = .ok (.iload_n 3, 1) := by decide +kernel
theorem dX8_charge_108 : decode cX8_charge 108 = .ok (.invokevirtual 55, 3) := by decide +kernel
theorem dX8_charge_111 : decode cX8_charge 111 = .ok (.iload_n 3, 1) := by decide +kernel
theorem dX8_charge_112 : decode cX8_charge 112 = .ok (.ifCond .ge 23, 3) := by decide +kernel
theorem dX8_charge_115 : decode cX8_charge 115 = .ok (.aload_n 0, 1) := by decide +kernel
theorem dX8_charge_116 : decode cX8_charge 116 = .ok (.iload_n 1, 1) := by decide +kernel
theorem dX8_charge_117 : decode cX8_charge 117 = .ok (.iconst 2, 1) := by decide +kernel
theorem dX8_charge_118 : decode cX8_charge 118 = .ok (.iconst 1, 1) := by decide +kernel
theorem dX8_charge_119 : decode cX8_charge 119 = .ok (.invokevirtual 55, 3) := by decide +kernel
theorem dX8_charge_122 : decode cX8_charge 122 = .ok (.aload_n 0, 1) := by decide +kernel
theorem dX8_charge_123 : decode cX8_charge 123 = .ok (.iload_n 1, 1) := by decide +kernel
theorem dX8_charge_124 : decode cX8_charge 124 = .ok (.invokevirtual 109, 3) := by decide +kernel
theorem dX8_charge_127 : decode cX8_charge 127 = .ok (.ifCond .eq 8, 3) := by decide +kernel
theorem dX8_charge_130 : decode cX8_charge 130 = .ok (.aload_n 0, 1) := by decide +kernel
theorem dX8_charge_131 : decode cX8_charge 131 = .ok (.iload_n 1, 1) := by decide +kernel
theorem dX8_charge_132 : decode cX8_charge 132 = .ok (.invokevirtual 112, 3) := by decide +kernel
theorem dX8_charge_135 : decode cX8_charge 135 = .ok (.aload_n 0, 1) := by decide +kernel
theorem dX8_charge_136 : decode cX8_charge 136 = .ok (.iload_n 1, 1) := by decide +kernel
theorem dX8_charge_137 : decode cX8_charge 137 = .ok (.iconst 2, 1) := by decide +kernel
theorem dX8_charge_138 : decode cX8_charge 138 = .ok (.invokevirtual 40, 3) := by decide +kernel
theorem dX8_charge_141 : decode cX8_charge 141 = .ok (.iconst 1, 1) := by decide +kernel
theorem dX8_charge_142 : decode cX8_charge 142 = .ok (.if_icmp .ne 36, 3) := by decide +kernel
theorem dX8_charge_145 : decode cX8_charge 145 = .ok (.aload_n 0, 1) := by decide +kernel
theorem dX8_charge_146 : decode cX8_charge 146 = .ok (.iload_n 1, 1) := by decide +kernel
theorem dX8_charge_147 : decode cX8_charge 147 = .ok (.iconst 3, 1) := by decide +kernel
theorem dX8_charge_148 : decode cX8_charge 148 = .ok (.invokevirtual 40, 3) := by decide +kernel
theorem dX8_charge_151 : decode cX8_charge 151 = .ok (.ifCond .ne 27, 3) := by decide +kernel
theorem dX8_charge_154 : decode cX8_charge 154 = .ok (.aload_n 0, 1) := by decide +kernel
theorem dX8_charge_155 : decode cX8_charge 155 = .ok (.iload_n 1, 1) := by decide +kernel
theorem dX8_charge_156 : decode cX8_charge 156 = .ok (.iconst 1, 1) := by decide +kernel
theorem dX8_charge_157 : decode cX8_charge 157 = .ok (.invokevirtual 40, 3) := by decide +kernel
theorem dX8_charge_160 : decode cX8_charge 160 = .ok (.aload_n 0, 1) := by decide +kernel
theorem dX8_charge_161 : decode cX8_charge 161 = .ok (.getfield 7, 3) := by decide +kernel
theorem dX8_charge_164 : decode cX8_charge 164 = .ok (.iconst 1, 1) := by decide +kernel
theorem dX8_charge_165 : decode cX8_charge 165 = .ok (.iaload, 1) := by decide +kernel
theorem dX8_charge_166 : decode cX8_charge 166 = .ok (.iconst 2, 1) := by decide +kernel
theorem dX8_charge_167 : decode cX8_charge 167 = .ok (.idiv, 1) := by decide +kernel
theorem dX8_charge_168 : decode cX8_charge 168 = .ok (.if_icmp .lt 10, 3) := by decide +kernel
theorem dX8_charge_171 : decode cX8_charge 171 = .ok (.aload_n 0, 1) := by decide +kernel
theorem dX8_charge_172 : decode cX8_charge 172 = .ok (.iload_n 1, 1) := by decide +kernel
theorem dX8_charge_173 : decode cX8_charge 173 = .ok (.iconst 2, 1) := by decide +kernel
theorem dX8_charge_174 : decode cX8_charge 174 = .ok (.iconst 0, 1) := by decide +kernel
theorem dX8_charge_175 : decode cX8_charge 175 = .ok (.invokevirtual 55, 3) := by decide +kernel
theorem dX8_charge_178 : decode cX8_charge 178 = .ok (.return_, 1) := by decide +kernel
theorem dX8_beat_0 : decode cX8_beat 0 = .ok (.iconst 0, 1) := by decide +kernel
theorem dX8_beat_1 : decode cX8_beat 1 = .ok (.istore_n 1, 1) := by decide +kernel
theorem dX8_beat_2 : decode cX8_beat 2 = .ok (.aload_n 0, 1) := by decide +kernel
theorem dX8_beat_3 : decode cX8_beat 3 = .ok (.invokevirtual 139, 3) := by decide +kernel
theorem dX8_beat_6 : decode cX8_beat 6 = .ok (.aload_n 0, 1) := by decide +kernel
theorem dX8_beat_7 : decode cX8_beat 7 = .ok (.invokevirtual 142, 3) := by decide +kernel
theorem dX8_beat_10 : decode cX8_beat 10 = .ok (.iconst 0, 1) := by decide +kernel
theorem dX8_beat_11 : decode cX8_beat 11 = .ok (.istore_n 2, 1) := by decide +kernel
theorem dX8_beat_12 : decode cX8_beat 12 = .ok (.iload_n 2, 1) := by decide +kernel
theorem dX8_beat_13 : decode cX8_beat 13 = .ok (.aload_n 0, 1) := by decide +kernel
theorem dX8_beat_14 : decode cX8_beat 14 = .ok (.getfield 7, 3) := by decide +kernel
theorem dX8_beat_17 : decode cX8_beat 17 = .ok (.bipush 6, 2) := by decide +kernel
theorem dX8_beat_19 : decode cX8_beat 19 = .ok (.iaload, 1) := by decide +kernel
theorem dX8_beat_20 : decode cX8_beat 20 = .ok (.if_icmp .ge 33, 3) := by decide +kernel
theorem dX8_beat_23 : decode cX8_beat 23 = .ok (.iload_n 1, 1) := by decide +kernel
theorem dX8_beat_24 : decode cX8_beat 24 = .ok (.aload_n 0, 1) := by decide +kernel
theorem dX8_beat_25 : decode cX8_beat 25 = .ok (.iload_n 2, 1) := by decide +kernel
theorem dX8_beat_26 : decode cX8_beat 26 = .ok (.invokevirtual 109, 3) := by decide +kernel
theorem dX8_beat_29 : decode cX8_beat 29 = .ok (.ifCond .eq 15, 3) := by decide +kernel
theorem dX8_beat_32 : decode cX8_beat 32 = .ok (.aload_n 0, 1) := by decide +kernel
theorem dX8_beat_33 : decode cX8_beat 33 = .ok (.iload_n 2, 1) := by decide +kernel
theorem dX8_beat_34 : decode cX8_beat 34 = .ok (.invokevirtual 145, 3) := by decide +kernel
theorem dX8_beat_37 : decode cX8_beat 37 = .ok (.ifCond .eq 7, 3) := by decide +kernel
theorem dX8_beat_40 : decode cX8_beat 40 = .ok (.iconst 1, 1) := by decide +kernel
theorem dX8_beat_41 : decode cX8_beat 41 = .ok (.goto 4, 3) := by decide +kernel
theorem dX8_beat_44 : decode cX8_beat 44 = .ok (.iconst 0, 1) := by decide +kernel
theorem dX8_beat_45 : decode cX8_beat 45 = .ok (.iadd, 1) := by decide +kernel
theorem dX8_beat_46 : decode cX8_beat 46 = .ok (.istore_n 1, 1) := by decide +kernel
theorem dX8_beat_47 : decode cX8_beat 47 = .ok (.iinc 2 1, 3) := by decide +kernel
theorem dX8_beat_50 : decode cX8_beat 50 = .ok (.goto (-38), 3) := by decide +kernel
theorem dX8_beat_53 : decode cX8_beat 53 = .ok (.iconst 0, 1) := by decide +kernel
theorem dX8_beat_54 : decode cX8_beat 54 = .ok (.istore_n 2, 1) := by decide +kernel
theorem dX8_beat_55 : decode cX8_beat 55 = .ok (.iload_n 2, 1) := by decide +kernel
theorem dX8_beat_56 : decode cX8_beat 56 = .ok (.aload_n 0, 1) := by decide +kernel
theorem dX8_beat_57 : decode cX8_beat 57 = .ok (.getfield 7, 3) := by decide +kernel
theorem dX8_beat_60 : decode cX8_beat 60 = .ok (.bipush 6, 2) := by decide +kernel
theorem dX8_beat_62 : decode cX8_beat 62 = .ok (.iaload, 1) := by decide +kernel
theorem dX8_beat_63 : decode cX8_beat 63 = .ok (.if_icmp .ge 14, 3) := by decide +kernel
theorem dX8_beat_66 : decode cX8_beat 66 = .ok (.aload_n 0, 1) := by decide +kernel
theorem dX8_beat_67 : decode cX8_beat 67 = .ok (.iload_n 2, 1) := by decide +kernel
theorem dX8_beat_68 : decode cX8_beat 68 = .ok (.invokevirtual 148, 3) := by decide +kernel
theorem dX8_beat_71 : decode cX8_beat 71 = .ok (.iinc 2 1, 3) := by decide +kernel
theorem dX8_beat_74 : decode cX8_beat 74 = .ok (.goto (-19), 3) := by decide +kernel
theorem dX8_beat_77 : decode cX8_beat 77 = .ok (.iconst 0, 1) := by decide +kernel
theorem dX8_beat_78 : decode cX8_beat 78 = .ok (.istore_n 2, 1) := by decide +kernel
theorem dX8_beat_79 : decode cX8_beat 79 = .ok (.iload_n 2, 1) := by decide +kernel
theorem dX8_beat_80 : decode cX8_beat 80 = .ok (.bipush 6, 2) := by decide +kernel
theorem dX8_beat_82 : decode cX8_beat 82 = .ok (.if_icmp .ge 63, 3) := by decide +kernel
theorem dX8_beat_85 : decode cX8_beat 85 = .ok (.aload_n 0, 1) := by decide +kernel
theorem dX8_beat_86 : decode cX8_beat 86 = .ok (.iload_n 2, 1) := by decide +kernel
theorem dX8_beat_87 : decode cX8_beat 87 = .ok (.iconst 0, 1) := by decide +kernel
theorem dX8_beat_88 : decode cX8_beat 88 = .ok (.invokevirtual 100, 3) := by decide +kernel
theorem dX8_beat_91 : decode cX8_beat 91 = .ok (.sipush 999, 3) := by decide +kernel
theorem dX8_beat_94 : decode cX8_beat 94 = .ok (.if_icmp .ge 14, 3) := by decide +kernel
theorem dX8_beat_97 : decode cX8_beat 97 = .ok (.aload_n 0, 1) := by decide +kernel
theorem dX8_beat_98 : decode cX8_beat 98 = .ok (.iload_n 2, 1) := by decide +kernel
theorem dX8_beat_99 : decode cX8_beat 99 = .ok (.iconst 0, 1) := by decide +kernel
theorem dX8_beat_100 : decode cX8_beat 100 = .ok (.invokevirtual 100, 3) := by decide +kernel
theorem dX8_beat_103 : decode cX8_beat 103 = .ok (.iconst 1, 1) := by decide +kernel
theorem dX8_beat_104 : decode cX8_beat 104 = .ok (.iadd, 1) := by decide +kernel
theorem dX8_beat_105 : decode cX8_beat 105 = .ok (.goto 6, 3) := by decide +kernel
theorem dX8_beat_108 : decode cX8_beat 108 = .ok (.sipush 999, 3) := by decide +kernel
theorem dX8_beat_111 : decode cX8_beat 111 = .ok (.istore_n 3, 1) := by decide +kernel
theorem dX8_beat_112 : decode cX8_beat 112 = .ok (.aload_n 0, 1) := by decide +kernel
theorem dX8_beat_113 : decode cX8_beat 113 = .ok (.getfield 7, 3) := by decide +kernel
theorem dX8_beat_116 : decode cX8_beat 116 = .ok (.bipush 7, 2) := by decide +kernel
theorem dX8_beat_118 : decode cX8_beat 118 = .ok (.iconst 4, 1) := by decide +kernel
theorem dX8_beat_119 : decode cX8_beat 119 = .ok (.iload_n 2, 1) := by decide +kernel
theorem dX8_beat_120 : decode cX8_beat 120 = .ok (.imul, 1) := by decide +kernel
theorem dX8_beat_121 : decode cX8_beat 121 = .ok (.iadd, 1) := by decide +kernel
theorem dX8_beat_122 : decode cX8_beat 122 = .ok (.iconst 0, 1) := by decide +kernel
theorem dX8_beat_123 : decode cX8_beat 123 = .ok (.iadd, 1) := by decide +kernel
theorem dX8_beat_124 : decode cX8_beat 124 = .ok (.aload_n 0, 1) := by decide +kernel
theorem dX8_beat_125 : decode cX8_beat 125 = .ok (.getfield 30, 3) := by decide +kernel
theorem dX8_beat_128 : decode cX8_beat 128 = .ok (.iload_n 2, 1) := by decide +kernel
theorem dX8_beat_129 : decode cX8_beat 129 = .ok (.baload, 1) := by decide +kernel
theorem dX8_beat_130 : decode cX8_beat 130 = .ok (.ifCond .eq 7, 3) := by decide +kernel
theorem dX8_beat_133 : decode cX8_beat 133 = .ok (.iconst 0, 1) := by decide +kernel
theorem dX8_beat_134 : decode cX8_beat 134 = .ok (.goto 4, 3) := by decide +kernel
theorem dX8_beat_137 : decode cX8_beat 137 = .ok (.iload_n 3, 1) := by decide +kernel
theorem dX8_beat_138 : decode cX8_beat 138 = .ok (.iastore, 1) := by decide +kernel
theorem dX8_beat_139 : decode cX8_beat 139 = .ok (.iinc 2 1, 3) := by decide +kernel
theorem dX8_beat_142 : decode cX8_beat 142 = .ok (.goto (-63), 3) := by decide +kernel
theorem dX8_beat_145 : decode cX8_beat 145 = .ok (.aload_n 0, 1) := by decide +kernel
theorem dX8_beat_146 : decode cX8_beat 146 = .ok (.getfield 7, 3) := by decide +kernel
theorem dX8_beat_149 : decode cX8_beat 149 = .ok (.iconst 5, 1) := by decide +kernel
theorem dX8_beat_150 : decode cX8_beat 150 = .ok (.dup2, 1) := by decide +kernel
theorem dX8_beat_151 : decode cX8_beat 151 = .ok (.iaload, 1) := by decide +kernel
theorem dX8_beat_152 : decode cX8_beat 152 = .ok (.iconst 1, 1) := by decide +kernel
theorem dX8_beat_153 : decode cX8_beat 153 = .ok (.iadd, 1) := by decide +kernel
theorem dX8_beat_154 : decode cX8_beat 154 = .ok (.iastore, 1) := by decide +kernel
theorem dX8_beat_155 : decode cX8_beat 155 = .ok (.iload_n 1, 1) := by decide +kernel
theorem dX8_beat_156 : decode cX8_beat 156 = .ok (.ireturn, 1) := by decide +kernel
theorem dX8_whyNotPass_0 : decode cX8_whyNotPass 0 = .ok (.iload_n 1, 1) := by decide +kernel
theorem dX8_whyNotPass_1 : decode cX8_whyNotPass 1 = .ok (.iconst 1, 1) := by decide +kernel
theorem dX8_whyNotPass_2 : decode cX8_whyNotPass 2 = .ok (.sipush 999, 3) := by decide +kernel
theorem dX8_whyNotPass_5 : decode cX8_whyNotPass 5 = .ok (.invokestatic 36, 3) := by decide +kernel
theorem dX8_whyNotPass_8 : decode cX8_whyNotPass 8 = .ok (.ifCond .ne 8, 3) := by decide +kernel
theorem dX8_whyNotPass_11 : decode cX8_whyNotPass 11 = .ok (.bipush (-2), 2) := by decide +kernel
theorem dX8_whyNotPass_13 : decode cX8_whyNotPass 13 = .ok (.goto 22, 3) := by decide +kernel
theorem dX8_whyNotPass_16 : decode cX8_whyNotPass 16 = .ok (.aload_n 0, 1) := by decide +kernel
theorem dX8_whyNotPass_17 : decode cX8_whyNotPass 17 = .ok (.getfield 7, 3) := by decide +kernel
theorem dX8_whyNotPass_20 : decode cX8_whyNotPass 20 = .ok (.iconst 5, 1) := by decide +kernel
theorem dX8_whyNotPass_21 : decode cX8_whyNotPass 21 = .ok (.iaload, 1) := by decide +kernel
theorem dX8_whyNotPass_22 : decode cX8_whyNotPass 22 = .ok (.iload_n 1, 1) := by decide +kernel
theorem dX8_whyNotPass_23 : decode cX8_whyNotPass 23 = .ok (.iadd, 1) := by decide +kernel
theorem dX8_whyNotPass_24 : decode cX8_whyNotPass 24 = .ok (.ldc 151, 2) := by decide +kernel
theorem dX8_whyNotPass_26 : decode cX8_whyNotPass 26 = .ok (.if_icmp .le 8, 3) := by decide +kernel
theorem dX8_whyNotPass_29 : decode cX8_whyNotPass 29 = .ok (.bipush (-5), 2) := by decide +kernel
theorem dX8_whyNotPass_31 : decode cX8_whyNotPass 31 = .ok (.goto 4, 3) := by decide +kernel
theorem dX8_whyNotPass_34 : decode cX8_whyNotPass 34 = .ok (.iconst 0, 1) := by decide +kernel
theorem dX8_whyNotPass_35 : decode cX8_whyNotPass 35 = .ok (.ireturn, 1) := by decide +kernel
theorem dX8_beats_0 : decode cX8_beats 0 = .ok (.iconst 0, 1) := by decide +kernel
theorem dX8_beats_1 : decode cX8_beats 1 = .ok (.istore_n 2, 1) := by decide +kernel
theorem dX8_beats_2 : decode cX8_beats 2 = .ok (.iconst 0, 1) := by decide +kernel
theorem dX8_beats_3 : decode cX8_beats 3 = .ok (.istore_n 3, 1) := by decide +kernel
theorem dX8_beats_4 : decode cX8_beats 4 = .ok (.iload_n 3, 1) := by decide +kernel
theorem dX8_beats_5 : decode cX8_beats 5 = .ok (.iload_n 1, 1) := by decide +kernel
theorem dX8_beats_6 : decode cX8_beats 6 = .ok (.if_icmp .ge 16, 3) := by decide +kernel
theorem dX8_beats_9 : decode cX8_beats 9 = .ok (.iload_n 2, 1) := by decide +kernel
theorem dX8_beats_10 : decode cX8_beats 10 = .ok (.aload_n 0, 1) := by decide +kernel
theorem dX8_beats_11 : decode cX8_beats 11 = .ok (.invokevirtual 152, 3) := by decide +kernel
theorem dX8_beats_14 : decode cX8_beats 14 = .ok (.iadd, 1) := by decide +kernel
theorem dX8_beats_15 : decode cX8_beats 15 = .ok (.istore_n 2, 1) := by decide +kernel
theorem dX8_beats_16 : decode cX8_beats 16 = .ok (.iinc 3 1, 3) := by decide +kernel
theorem dX8_beats_19 : decode cX8_beats 19 = .ok (.goto (-15), 3) := by decide +kernel
theorem dX8_beats_22 : decode cX8_beats 22 = .ok (.iload_n 2, 1) := by decide +kernel
theorem dX8_beats_23 : decode cX8_beats 23 = .ok (.ireturn, 1) := by decide +kernel
theorem dX8_pass_0 : decode cX8_pass 0 = .ok (.aload_n 0, 1) := by decide +kernel
theorem dX8_pass_1 : decode cX8_pass 1 = .ok (.iload_n 1, 1) := by decide +kernel
theorem dX8_pass_2 : decode cX8_pass 2 = .ok (.invokevirtual 156, 3) := by decide +kernel
theorem dX8_pass_5 : decode cX8_pass 5 = .ok (.istore_n 2, 1) := by decide +kernel
theorem dX8_pass_6 : decode cX8_pass 6 = .ok (.iload_n 2, 1) := by decide +kernel
theorem dX8_pass_7 : decode cX8_pass 7 = .ok (.ifCond .ge 5, 3) := by decide +kernel
theorem dX8_pass_10 : decode cX8_pass 10 = .ok (.iload_n 2, 1) := by decide +kernel
theorem dX8_pass_11 : decode cX8_pass 11 = .ok (.ireturn, 1) := by decide +kernel
theorem dX8_pass_12 : decode cX8_pass 12 = .ok (.aload_n 0, 1) := by decide +kernel
theorem dX8_pass_13 : decode cX8_pass 13 = .ok (.invokevirtual 48, 3) := by decide +kernel
theorem dX8_pass_16 : decode cX8_pass 16 = .ok (.aload_n 0, 1) := by decide +kernel
theorem dX8_pass_17 : decode cX8_pass 17 = .ok (.iload_n 1, 1) := by decide +kernel
theorem dX8_pass_18 : decode cX8_pass 18 = .ok (.invokevirtual 159, 3) := by decide +kernel
theorem dX8_pass_21 : decode cX8_pass 21 = .ok (.ireturn, 1) := by decide +kernel
theorem dX8_waiting_0 : decode cX8_waiting 0 = .ok (.iconst 0, 1) := by decide +kernel
theorem dX8_waiting_1 : decode cX8_waiting 1 = .ok (.istore_n 2, 1) := by decide +kernel
theorem dX8_waiting_2 : decode cX8_waiting 2 = .ok (.iconst 0, 1) := by decide +kernel
theorem dX8_waiting_3 : decode cX8_waiting 3 = .ok (.istore_n 3, 1) := by decide +kernel
theorem dX8_waiting_4 : decode cX8_waiting 4 = .ok (.iload_n 3, 1) := by decide +kernel
theorem dX8_waiting_5 : decode cX8_waiting 5 = .ok (.aload_n 0, 1) := by decide +kernel
theorem dX8_waiting_6 : decode cX8_waiting 6 = .ok (.getfield 7, 3) := by decide +kernel
theorem dX8_waiting_9 : decode cX8_waiting 9 = .ok (.bipush 6, 2) := by decide +kernel
theorem dX8_waiting_11 : decode cX8_waiting 11 = .ok (.iaload, 1) := by decide +kernel
theorem dX8_waiting_12 : decode cX8_waiting 12 = .ok (.if_icmp .ge 54, 3) := by decide +kernel
theorem dX8_waiting_15 : decode cX8_waiting 15 = .ok (.iconst 0, 1) := by decide +kernel
theorem dX8_waiting_16 : decode cX8_waiting 16 = .ok (.istore 4, 2) := by decide +kernel
theorem dX8_waiting_18 : decode cX8_waiting 18 = .ok (.iload 4, 2) := by decide +kernel
theorem dX8_waiting_20 : decode cX8_waiting 20 = .ok (.aload_n 0, 1) := by decide +kernel
theorem dX8_waiting_21 : decode cX8_waiting 21 = .ok (.iload_n 3, 1) := by decide +kernel
theorem dX8_waiting_22 : decode cX8_waiting 22 = .ok (.iconst 4, 1) := by decide +kernel
theorem dX8_waiting_23 : decode cX8_waiting 23 = .ok (.invokevirtual 40, 3) := by decide +kernel
theorem dX8_waiting_26 : decode cX8_waiting 26 = .ok (.if_icmp .ge 34, 3) := by decide +kernel
theorem dX8_waiting_29 : decode cX8_waiting 29 = .ok (.iload_n 2, 1) := by decide +kernel
theorem dX8_waiting_30 : decode cX8_waiting 30 = .ok (.aload_n 0, 1) := by decide +kernel
theorem dX8_waiting_31 : decode cX8_waiting 31 = .ok (.iload_n 3, 1) := by decide +kernel
theorem dX8_waiting_32 : decode cX8_waiting 32 = .ok (.iconst 5, 1) := by decide +kernel
theorem dX8_waiting_33 : decode cX8_waiting 33 = .ok (.iconst 3, 1) := by decide +kernel
theorem dX8_waiting_34 : decode cX8_waiting 34 = .ok (.iload 4, 2) := by decide +kernel
theorem dX8_waiting_36 : decode cX8_waiting 36 = .ok (.imul, 1) := by decide +kernel
theorem dX8_waiting_37 : decode cX8_waiting 37 = .ok (.iadd, 1) := by decide +kernel
theorem dX8_waiting_38 : decode cX8_waiting 38 = .ok (.iconst 1, 1) := by decide +kernel
theorem dX8_waiting_39 : decode cX8_waiting 39 = .ok (.iadd, 1) := by decide +kernel
theorem dX8_waiting_40 : decode cX8_waiting 40 = .ok (.invokevirtual 40, 3) := by decide +kernel
theorem dX8_waiting_43 : decode cX8_waiting 43 = .ok (.iload_n 1, 1) := by decide +kernel
theorem dX8_waiting_44 : decode cX8_waiting 44 = .ok (.if_icmp .ne 7, 3) := by decide +kernel
theorem dX8_waiting_47 : decode cX8_waiting 47 = .ok (.iconst 1, 1) := by decide +kernel
theorem dX8_waiting_48 : decode cX8_waiting 48 = .ok (.goto 4, 3) := by decide +kernel
theorem dX8_waiting_51 : decode cX8_waiting 51 = .ok (.iconst 0, 1) := by decide +kernel
theorem dX8_waiting_52 : decode cX8_waiting 52 = .ok (.iadd, 1) := by decide +kernel
theorem dX8_waiting_53 : decode cX8_waiting 53 = .ok (.istore_n 2, 1) := by decide +kernel
theorem dX8_waiting_54 : decode cX8_waiting 54 = .ok (.iinc 4 1, 3) := by decide +kernel
theorem dX8_waiting_57 : decode cX8_waiting 57 = .ok (.goto (-39), 3) := by decide +kernel
theorem dX8_waiting_60 : decode cX8_waiting 60 = .ok (.iinc 3 1, 3) := by decide +kernel
theorem dX8_waiting_63 : decode cX8_waiting 63 = .ok (.goto (-59), 3) := by decide +kernel
theorem dX8_waiting_66 : decode cX8_waiting 66 = .ok (.iload_n 2, 1) := by decide +kernel
theorem dX8_waiting_67 : decode cX8_waiting 67 = .ok (.ireturn, 1) := by decide +kernel
theorem dX8_stationsAt_0 : decode cX8_stationsAt 0 = .ok (.iconst 0, 1) := by decide +kernel
theorem dX8_stationsAt_1 : decode cX8_stationsAt 1 = .ok (.istore_n 2, 1) := by decide +kernel
theorem dX8_stationsAt_2 : decode cX8_stationsAt 2 = .ok (.iconst 0, 1) := by decide +kernel
theorem dX8_stationsAt_3 : decode cX8_stationsAt 3 = .ok (.istore_n 3, 1) := by decide +kernel
theorem dX8_stationsAt_4 : decode cX8_stationsAt 4 = .ok (.iload_n 3, 1) := by decide +kernel
theorem dX8_stationsAt_5 : decode cX8_stationsAt 5 = .ok (.aload_n 0, 1) := by decide +kernel
theorem dX8_stationsAt_6 : decode cX8_stationsAt 6 = .ok (.getfield 7, 3) := by decide +kernel
theorem dX8_stationsAt_9 : decode cX8_stationsAt 9 = .ok (.bipush 6, 2) := by decide +kernel
theorem dX8_stationsAt_11 : decode cX8_stationsAt 11 = .ok (.iaload, 1) := by decide +kernel
theorem dX8_stationsAt_12 : decode cX8_stationsAt 12 = .ok (.if_icmp .ge 28, 3) := by decide +kernel
theorem dX8_stationsAt_15 : decode cX8_stationsAt 15 = .ok (.iload_n 2, 1) := by decide +kernel
theorem dX8_stationsAt_16 : decode cX8_stationsAt 16 = .ok (.aload_n 0, 1) := by decide +kernel
theorem dX8_stationsAt_17 : decode cX8_stationsAt 17 = .ok (.iload_n 3, 1) := by decide +kernel
theorem dX8_stationsAt_18 : decode cX8_stationsAt 18 = .ok (.iload_n 1, 1) := by decide +kernel
theorem dX8_stationsAt_19 : decode cX8_stationsAt 19 = .ok (.invokevirtual 73, 3) := by decide +kernel
theorem dX8_stationsAt_22 : decode cX8_stationsAt 22 = .ok (.ifCond .eq 9, 3) := by decide +kernel
theorem dX8_stationsAt_25 : decode cX8_stationsAt 25 = .ok (.iconst 1, 1) := by decide +kernel
theorem dX8_stationsAt_26 : decode cX8_stationsAt 26 = .ok (.iload_n 3, 1) := by decide +kernel
theorem dX8_stationsAt_27 : decode cX8_stationsAt 27 = .ok (.ishl, 1) := by decide +kernel
theorem dX8_stationsAt_28 : decode cX8_stationsAt 28 = .ok (.goto 4, 3) := by decide +kernel
theorem dX8_stationsAt_31 : decode cX8_stationsAt 31 = .ok (.iconst 0, 1) := by decide +kernel
theorem dX8_stationsAt_32 : decode cX8_stationsAt 32 = .ok (.ior, 1) := by decide +kernel
theorem dX8_stationsAt_33 : decode cX8_stationsAt 33 = .ok (.istore_n 2, 1) := by decide +kernel
theorem dX8_stationsAt_34 : decode cX8_stationsAt 34 = .ok (.iinc 3 1, 3) := by decide +kernel
theorem dX8_stationsAt_37 : decode cX8_stationsAt 37 = .ok (.goto (-33), 3) := by decide +kernel
theorem dX8_stationsAt_40 : decode cX8_stationsAt 40 = .ok (.iload_n 2, 1) := by decide +kernel
theorem dX8_stationsAt_41 : decode cX8_stationsAt 41 = .ok (.ireturn, 1) := by decide +kernel
theorem dX8_speakersOn_0 : decode cX8_speakersOn 0 = .ok (.iconst 0, 1) := by decide +kernel
theorem dX8_speakersOn_1 : decode cX8_speakersOn 1 = .ok (.istore_n 2, 1) := by decide +kernel
theorem dX8_speakersOn_2 : decode cX8_speakersOn 2 = .ok (.iconst 0, 1) := by decide +kernel
theorem dX8_speakersOn_3 : decode cX8_speakersOn 3 = .ok (.istore_n 3, 1) := by decide +kernel
theorem dX8_speakersOn_4 : decode cX8_speakersOn 4 = .ok (.iload_n 3, 1) := by decide +kernel
theorem dX8_speakersOn_5 : decode cX8_speakersOn 5 = .ok (.aload_n 0, 1) := by decide +kernel
theorem dX8_speakersOn_6 : decode cX8_speakersOn 6 = .ok (.getfield 7, 3) := by decide +kernel
theorem dX8_speakersOn_9 : decode cX8_speakersOn 9 = .ok (.bipush 6, 2) := by decide +kernel
theorem dX8_speakersOn_11 : decode cX8_speakersOn 11 = .ok (.iaload, 1) := by decide +kernel
theorem dX8_speakersOn_12 : decode cX8_speakersOn 12 = .ok (.if_icmp .ge 36, 3) := by decide +kernel
theorem dX8_speakersOn_15 : decode cX8_speakersOn 15 = .ok (.iload_n 2, 1) := by decide +kernel
theorem dX8_speakersOn_16 : decode cX8_speakersOn 16 = .ok (.aload_n 0, 1) := by decide +kernel
theorem dX8_speakersOn_17 : decode cX8_speakersOn 17 = .ok (.iload_n 3, 1) := by decide +kernel
theorem dX8_speakersOn_18 : decode cX8_speakersOn 18 = .ok (.invokevirtual 109, 3) := by decide +kernel
theorem dX8_speakersOn_21 : decode cX8_speakersOn 21 = .ok (.ifCond .eq 18, 3) := by decide +kernel
theorem dX8_speakersOn_24 : decode cX8_speakersOn 24 = .ok (.aload_n 0, 1) := by decide +kernel
theorem dX8_speakersOn_25 : decode cX8_speakersOn 25 = .ok (.iload_n 3, 1) := by decide +kernel
theorem dX8_speakersOn_26 : decode cX8_speakersOn 26 = .ok (.invokevirtual 90, 3) := by decide +kernel
theorem dX8_speakersOn_29 : decode cX8_speakersOn 29 = .ok (.iload_n 1, 1) := by decide +kernel
theorem dX8_speakersOn_30 : decode cX8_speakersOn 30 = .ok (.if_icmp .ne 9, 3) := by decide +kernel
theorem dX8_speakersOn_33 : decode cX8_speakersOn 33 = .ok (.iconst 1, 1) := by decide +kernel
theorem dX8_speakersOn_34 : decode cX8_speakersOn 34 = .ok (.iload_n 3, 1) := by decide +kernel
theorem dX8_speakersOn_35 : decode cX8_speakersOn 35 = .ok (.ishl, 1) := by decide +kernel
theorem dX8_speakersOn_36 : decode cX8_speakersOn 36 = .ok (.goto 4, 3) := by decide +kernel
theorem dX8_speakersOn_39 : decode cX8_speakersOn 39 = .ok (.iconst 0, 1) := by decide +kernel
theorem dX8_speakersOn_40 : decode cX8_speakersOn 40 = .ok (.ior, 1) := by decide +kernel
theorem dX8_speakersOn_41 : decode cX8_speakersOn 41 = .ok (.istore_n 2, 1) := by decide +kernel
theorem dX8_speakersOn_42 : decode cX8_speakersOn 42 = .ok (.iinc 3 1, 3) := by decide +kernel
theorem dX8_speakersOn_45 : decode cX8_speakersOn 45 = .ok (.goto (-41), 3) := by decide +kernel
theorem dX8_speakersOn_48 : decode cX8_speakersOn 48 = .ok (.iload_n 2, 1) := by decide +kernel
theorem dX8_speakersOn_49 : decode cX8_speakersOn 49 = .ok (.ireturn, 1) := by decide +kernel
theorem dX8_ofWire_0 : decode cX8_ofWire 0 = .ok (.iload_n 1, 1) := by decide +kernel
theorem dX8_ofWire_1 : decode cX8_ofWire 1 = .ok (.invokestatic 70, 3) := by decide +kernel
theorem dX8_ofWire_4 : decode cX8_ofWire 4 = .ok (.ifCond .ne 5, 3) := by decide +kernel
theorem dX8_ofWire_7 : decode cX8_ofWire 7 = .ok (.iconst (-1), 1) := by decide +kernel
theorem dX8_ofWire_8 : decode cX8_ofWire 8 = .ok (.ireturn, 1) := by decide +kernel
theorem dX8_ofWire_9 : decode cX8_ofWire 9 = .ok (.iload_n 2, 1) := by decide +kernel
theorem dX8_ofWire_10 : decode cX8_ofWire 10 = .ok (.tableswitch 76 0 6 #[42, 42, 49, 55, 61, 67, 67], 42) := by decide +kernel
theorem dX8_ofWire_52 : decode cX8_ofWire 52 = .ok (.aload_n 0, 1) := by decide +kernel
theorem dX8_ofWire_53 : decode cX8_ofWire 53 = .ok (.iload_n 1, 1) := by decide +kernel
theorem dX8_ofWire_54 : decode cX8_ofWire 54 = .ok (.iload_n 2, 1) := by decide +kernel
theorem dX8_ofWire_55 : decode cX8_ofWire 55 = .ok (.invokevirtual 100, 3) := by decide +kernel
theorem dX8_ofWire_58 : decode cX8_ofWire 58 = .ok (.ireturn, 1) := by decide +kernel
theorem dX8_ofWire_59 : decode cX8_ofWire 59 = .ok (.aload_n 0, 1) := by decide +kernel
theorem dX8_ofWire_60 : decode cX8_ofWire 60 = .ok (.iload_n 1, 1) := by decide +kernel
theorem dX8_ofWire_61 : decode cX8_ofWire 61 = .ok (.invokevirtual 162, 3) := by decide +kernel
theorem dX8_ofWire_64 : decode cX8_ofWire 64 = .ok (.ireturn, 1) := by decide +kernel
theorem dX8_ofWire_65 : decode cX8_ofWire 65 = .ok (.aload_n 0, 1) := by decide +kernel
theorem dX8_ofWire_66 : decode cX8_ofWire 66 = .ok (.iload_n 1, 1) := by decide +kernel
theorem dX8_ofWire_67 : decode cX8_ofWire 67 = .ok (.invokevirtual 165, 3) := by decide +kernel
theorem dX8_ofWire_70 : decode cX8_ofWire 70 = .ok (.ireturn, 1) := by decide +kernel
theorem dX8_ofWire_71 : decode cX8_ofWire 71 = .ok (.aload_n 0, 1) := by decide +kernel
theorem dX8_ofWire_72 : decode cX8_ofWire 72 = .ok (.iload_n 1, 1) := by decide +kernel
theorem dX8_ofWire_73 : decode cX8_ofWire 73 = .ok (.invokevirtual 168, 3) := by decide +kernel
theorem dX8_ofWire_76 : decode cX8_ofWire 76 = .ok (.ireturn, 1) := by decide +kernel
theorem dX8_ofWire_77 : decode cX8_ofWire 77 = .ok (.aload_n 0, 1) := by decide +kernel
theorem dX8_ofWire_78 : decode cX8_ofWire 78 = .ok (.iload_n 1, 1) := by decide +kernel
theorem dX8_ofWire_79 : decode cX8_ofWire 79 = .ok (.iload_n 2, 1) := by decide +kernel
theorem dX8_ofWire_80 : decode cX8_ofWire 80 = .ok (.iconst 3, 1) := by decide +kernel
theorem dX8_ofWire_81 : decode cX8_ofWire 81 = .ok (.isub, 1) := by decide +kernel
theorem dX8_ofWire_82 : decode cX8_ofWire 82 = .ok (.invokevirtual 100, 3) := by decide +kernel
theorem dX8_ofWire_85 : decode cX8_ofWire 85 = .ok (.ireturn, 1) := by decide +kernel
theorem dX8_ofWire_86 : decode cX8_ofWire 86 = .ok (.bipush (-2), 2) := by decide +kernel
theorem dX8_ofWire_88 : decode cX8_ofWire 88 = .ok (.ireturn, 1) := by decide +kernel
theorem dX8_of_0 : decode cX8_of 0 = .ok (.aload_n 0, 1) := by decide +kernel
theorem dX8_of_1 : decode cX8_of 1 = .ok (.iload_n 1, 1) := by decide +kernel
theorem dX8_of_2 : decode cX8_of 2 = .ok (.invokevirtual 66, 3) := by decide +kernel
theorem dX8_of_5 : decode cX8_of 5 = .ok (.ifCond .ne 5, 3) := by decide +kernel
theorem dX8_of_8 : decode cX8_of 8 = .ok (.iconst (-1), 1) := by decide +kernel
theorem dX8_of_9 : decode cX8_of 9 = .ok (.ireturn, 1) := by decide +kernel
theorem dX8_of_10 : decode cX8_of 10 = .ok (.iload_n 2, 1) := by decide +kernel
theorem dX8_of_11 : decode cX8_of 11 = .ok (.tableswitch 136 0 9 #[53, 53, 60, 81, 88, 96, 104, 112, 120, 128], 53) := by decide +kernel
theorem dX8_of_64 : decode cX8_of 64 = .ok (.aload_n 0, 1) := by decide +kernel
theorem dX8_of_65 : decode cX8_of 65 = .ok (.iload_n 1, 1) := by decide +kernel
theorem dX8_of_66 : decode cX8_of 66 = .ok (.iload_n 2, 1) := by decide +kernel
theorem dX8_of_67 : decode cX8_of 67 = .ok (.invokevirtual 40, 3) := by decide +kernel
theorem dX8_of_70 : decode cX8_of 70 = .ok (.ireturn, 1) := by decide +kernel
theorem dX8_of_71 : decode cX8_of 71 = .ok (.aload_n 0, 1) := by decide +kernel
theorem dX8_of_72 : decode cX8_of 72 = .ok (.iload_n 1, 1) := by decide +kernel
theorem dX8_of_73 : decode cX8_of 73 = .ok (.iconst 3, 1) := by decide +kernel
theorem dX8_of_74 : decode cX8_of 74 = .ok (.invokevirtual 40, 3) := by decide +kernel
theorem dX8_of_77 : decode cX8_of 77 = .ok (.iconst 1, 1) := by decide +kernel
theorem dX8_of_78 : decode cX8_of 78 = .ok (.if_icmp .ne 7, 3) := by decide +kernel
theorem dX8_of_81 : decode cX8_of 81 = .ok (.iconst 2, 1) := by decide +kernel
theorem dX8_of_82 : decode cX8_of 82 = .ok (.goto 9, 3) := by decide +kernel
theorem dX8_of_85 : decode cX8_of 85 = .ok (.aload_n 0, 1) := by decide +kernel
theorem dX8_of_86 : decode cX8_of 86 = .ok (.iload_n 1, 1) := by decide +kernel
theorem dX8_of_87 : decode cX8_of 87 = .ok (.iconst 2, 1) := by decide +kernel
theorem dX8_of_88 : decode cX8_of 88 = .ok (.invokevirtual 40, 3) := by decide +kernel
theorem dX8_of_91 : decode cX8_of 91 = .ok (.ireturn, 1) := by decide +kernel
theorem dX8_of_92 : decode cX8_of 92 = .ok (.aload_n 0, 1) := by decide +kernel
theorem dX8_of_93 : decode cX8_of 93 = .ok (.iload_n 1, 1) := by decide +kernel
theorem dX8_of_94 : decode cX8_of 94 = .ok (.iconst 4, 1) := by decide +kernel
theorem dX8_of_95 : decode cX8_of 95 = .ok (.invokevirtual 40, 3) := by decide +kernel
theorem dX8_of_98 : decode cX8_of 98 = .ok (.ireturn, 1) := by decide +kernel
theorem dX8_of_99 : decode cX8_of 99 = .ok (.aload_n 0, 1) := by decide +kernel
theorem dX8_of_100 : decode cX8_of 100 = .ok (.iload_n 1, 1) := by decide +kernel
theorem dX8_of_101 : decode cX8_of 101 = .ok (.bipush 17, 2) := by decide +kernel
theorem dX8_of_103 : decode cX8_of 103 = .ok (.invokevirtual 40, 3) := by decide +kernel
theorem dX8_of_106 : decode cX8_of 106 = .ok (.ireturn, 1) := by decide +kernel
theorem dX8_of_107 : decode cX8_of 107 = .ok (.aload_n 0, 1) := by decide +kernel
theorem dX8_of_108 : decode cX8_of 108 = .ok (.iload_n 1, 1) := by decide +kernel
theorem dX8_of_109 : decode cX8_of 109 = .ok (.bipush 18, 2) := by decide +kernel
theorem dX8_of_111 : decode cX8_of 111 = .ok (.invokevirtual 40, 3) := by decide +kernel
theorem dX8_of_114 : decode cX8_of 114 = .ok (.ireturn, 1) := by decide +kernel
theorem dX8_of_115 : decode cX8_of 115 = .ok (.aload_n 0, 1) := by decide +kernel
theorem dX8_of_116 : decode cX8_of 116 = .ok (.iload_n 1, 1) := by decide +kernel
theorem dX8_of_117 : decode cX8_of 117 = .ok (.bipush 19, 2) := by decide +kernel
theorem dX8_of_119 : decode cX8_of 119 = .ok (.invokevirtual 40, 3) := by decide +kernel
theorem dX8_of_122 : decode cX8_of 122 = .ok (.ireturn, 1) := by decide +kernel
theorem dX8_of_123 : decode cX8_of 123 = .ok (.aload_n 0, 1) := by decide +kernel
theorem dX8_of_124 : decode cX8_of 124 = .ok (.iload_n 1, 1) := by decide +kernel
theorem dX8_of_125 : decode cX8_of 125 = .ok (.bipush 20, 2) := by decide +kernel
theorem dX8_of_127 : decode cX8_of 127 = .ok (.invokevirtual 40, 3) := by decide +kernel
theorem dX8_of_130 : decode cX8_of 130 = .ok (.ireturn, 1) := by decide +kernel
theorem dX8_of_131 : decode cX8_of 131 = .ok (.aload_n 0, 1) := by decide +kernel
theorem dX8_of_132 : decode cX8_of 132 = .ok (.iload_n 1, 1) := by decide +kernel
theorem dX8_of_133 : decode cX8_of 133 = .ok (.bipush 21, 2) := by decide +kernel
theorem dX8_of_135 : decode cX8_of 135 = .ok (.invokevirtual 40, 3) := by decide +kernel
theorem dX8_of_138 : decode cX8_of 138 = .ok (.ireturn, 1) := by decide +kernel
theorem dX8_of_139 : decode cX8_of 139 = .ok (.aload_n 0, 1) := by decide +kernel
theorem dX8_of_140 : decode cX8_of 140 = .ok (.iload_n 1, 1) := by decide +kernel
theorem dX8_of_141 : decode cX8_of 141 = .ok (.bipush 22, 2) := by decide +kernel
theorem dX8_of_143 : decode cX8_of 143 = .ok (.invokevirtual 40, 3) := by decide +kernel
theorem dX8_of_146 : decode cX8_of 146 = .ok (.ireturn, 1) := by decide +kernel
theorem dX8_of_147 : decode cX8_of 147 = .ok (.bipush (-2), 2) := by decide +kernel
theorem dX8_of_149 : decode cX8_of 149 = .ok (.ireturn, 1) := by decide +kernel
theorem dX8_row_0 : decode cX8_row 0 = .ok (.aload_n 0, 1) := by decide +kernel
theorem dX8_row_1 : decode cX8_row 1 = .ok (.iload_n 1, 1) := by decide +kernel
theorem dX8_row_2 : decode cX8_row 2 = .ok (.invokevirtual 66, 3) := by decide +kernel
theorem dX8_row_5 : decode cX8_row 5 = .ok (.ifCond .eq 19, 3) := by decide +kernel
theorem dX8_row_8 : decode cX8_row 8 = .ok (.iload_n 2, 1) := by decide +kernel
theorem dX8_row_9 : decode cX8_row 9 = .ok (.iconst 0, 1) := by decide +kernel
theorem dX8_row_10 : decode cX8_row 10 = .ok (.aload_n 0, 1) := by decide +kernel
theorem dX8_row_11 : decode cX8_row 11 = .ok (.iload_n 1, 1) := by decide +kernel
theorem dX8_row_12 : decode cX8_row 12 = .ok (.iconst 4, 1) := by decide +kernel
theorem dX8_row_13 : decode cX8_row 13 = .ok (.invokevirtual 40, 3) := by decide +kernel
theorem dX8_row_16 : decode cX8_row 16 = .ok (.iconst 1, 1) := by decide +kernel
theorem dX8_row_17 : decode cX8_row 17 = .ok (.isub, 1) := by decide +kernel
theorem dX8_row_18 : decode cX8_row 18 = .ok (.invokestatic 36, 3) := by decide +kernel
theorem dX8_row_21 : decode cX8_row 21 = .ok (.ifCond .ne 5, 3) := by decide +kernel
theorem dX8_row_24 : decode cX8_row 24 = .ok (.iconst (-1), 1) := by decide +kernel
theorem dX8_row_25 : decode cX8_row 25 = .ok (.ireturn, 1) := by decide +kernel
theorem dX8_row_26 : decode cX8_row 26 = .ok (.iload_n 3, 1) := by decide +kernel
theorem dX8_row_27 : decode cX8_row 27 = .ok (.iconst 0, 1) := by decide +kernel
theorem dX8_row_28 : decode cX8_row 28 = .ok (.iconst 2, 1) := by decide +kernel
theorem dX8_row_29 : decode cX8_row 29 = .ok (.invokestatic 36, 3) := by decide +kernel
theorem dX8_row_32 : decode cX8_row 32 = .ok (.ifCond .eq 18, 3) := by decide +kernel
theorem dX8_row_35 : decode cX8_row 35 = .ok (.aload_n 0, 1) := by decide +kernel
theorem dX8_row_36 : decode cX8_row 36 = .ok (.iload_n 1, 1) := by decide +kernel
theorem dX8_row_37 : decode cX8_row 37 = .ok (.iconst 5, 1) := by decide +kernel
theorem dX8_row_38 : decode cX8_row 38 = .ok (.iconst 3, 1) := by decide +kernel
theorem dX8_row_39 : decode cX8_row 39 = .ok (.iload_n 2, 1) := by decide +kernel
theorem dX8_row_40 : decode cX8_row 40 = .ok (.imul, 1) := by decide +kernel
theorem dX8_row_41 : decode cX8_row 41 = .ok (.iadd, 1) := by decide +kernel
theorem dX8_row_42 : decode cX8_row 42 = .ok (.iload_n 3, 1) := by decide +kernel
theorem dX8_row_43 : decode cX8_row 43 = .ok (.iadd, 1) := by decide +kernel
theorem dX8_row_44 : decode cX8_row 44 = .ok (.invokevirtual 40, 3) := by decide +kernel
theorem dX8_row_47 : decode cX8_row 47 = .ok (.goto 5, 3) := by decide +kernel
theorem dX8_row_50 : decode cX8_row 50 = .ok (.bipush (-2), 2) := by decide +kernel
theorem dX8_row_52 : decode cX8_row 52 = .ok (.ireturn, 1) := by decide +kernel
theorem dX8_heard_0 : decode cX8_heard 0 = .ok (.aload_n 0, 1) := by decide +kernel
theorem dX8_heard_1 : decode cX8_heard 1 = .ok (.iload_n 1, 1) := by decide +kernel
theorem dX8_heard_2 : decode cX8_heard 2 = .ok (.invokevirtual 66, 3) := by decide +kernel
theorem dX8_heard_5 : decode cX8_heard 5 = .ok (.ifCond .eq 20, 3) := by decide +kernel
theorem dX8_heard_8 : decode cX8_heard 8 = .ok (.iload_n 2, 1) := by decide +kernel
theorem dX8_heard_9 : decode cX8_heard 9 = .ok (.iconst 0, 1) := by decide +kernel
theorem dX8_heard_10 : decode cX8_heard 10 = .ok (.aload_n 0, 1) := by decide +kernel
theorem dX8_heard_11 : decode cX8_heard 11 = .ok (.iload_n 1, 1) := by decide +kernel
theorem dX8_heard_12 : decode cX8_heard 12 = .ok (.bipush 23, 2) := by decide +kernel
theorem dX8_heard_14 : decode cX8_heard 14 = .ok (.invokevirtual 40, 3) := by decide +kernel
theorem dX8_heard_17 : decode cX8_heard 17 = .ok (.iconst 1, 1) := by decide +kernel
theorem dX8_heard_18 : decode cX8_heard 18 = .ok (.isub, 1) := by decide +kernel
theorem dX8_heard_19 : decode cX8_heard 19 = .ok (.invokestatic 36, 3) := by decide +kernel
theorem dX8_heard_22 : decode cX8_heard 22 = .ok (.ifCond .ne 5, 3) := by decide +kernel
theorem dX8_heard_25 : decode cX8_heard 25 = .ok (.iconst (-1), 1) := by decide +kernel
theorem dX8_heard_26 : decode cX8_heard 26 = .ok (.ireturn, 1) := by decide +kernel
theorem dX8_heard_27 : decode cX8_heard 27 = .ok (.iload_n 3, 1) := by decide +kernel
theorem dX8_heard_28 : decode cX8_heard 28 = .ok (.iconst 0, 1) := by decide +kernel
theorem dX8_heard_29 : decode cX8_heard 29 = .ok (.iconst 3, 1) := by decide +kernel
theorem dX8_heard_30 : decode cX8_heard 30 = .ok (.invokestatic 36, 3) := by decide +kernel
theorem dX8_heard_33 : decode cX8_heard 33 = .ok (.ifCond .eq 19, 3) := by decide +kernel
theorem dX8_heard_36 : decode cX8_heard 36 = .ok (.aload_n 0, 1) := by decide +kernel
theorem dX8_heard_37 : decode cX8_heard 37 = .ok (.iload_n 1, 1) := by decide +kernel
theorem dX8_heard_38 : decode cX8_heard 38 = .ok (.bipush 24, 2) := by decide +kernel
theorem dX8_heard_40 : decode cX8_heard 40 = .ok (.iconst 4, 1) := by decide +kernel
theorem dX8_heard_41 : decode cX8_heard 41 = .ok (.iload_n 2, 1) := by decide +kernel
theorem dX8_heard_42 : decode cX8_heard 42 = .ok (.imul, 1) := by decide +kernel
theorem dX8_heard_43 : decode cX8_heard 43 = .ok (.iadd, 1) := by decide +kernel
theorem dX8_heard_44 : decode cX8_heard 44 = .ok (.iload_n 3, 1) := by decide +kernel
theorem dX8_heard_45 : decode cX8_heard 45 = .ok (.iadd, 1) := by decide +kernel
theorem dX8_heard_46 : decode cX8_heard 46 = .ok (.invokevirtual 40, 3) := by decide +kernel
theorem dX8_heard_49 : decode cX8_heard 49 = .ok (.goto 5, 3) := by decide +kernel
theorem dX8_heard_52 : decode cX8_heard 52 = .ok (.bipush (-2), 2) := by decide +kernel
theorem dX8_heard_54 : decode cX8_heard 54 = .ok (.ireturn, 1) := by decide +kernel
theorem dX8_sum_0 : decode cX8_sum 0 = .ok (.iconst 0, 1) := by decide +kernel
theorem dX8_sum_1 : decode cX8_sum 1 = .ok (.istore_n 2, 1) := by decide +kernel
theorem dX8_sum_2 : decode cX8_sum 2 = .ok (.iconst 0, 1) := by decide +kernel
theorem dX8_sum_3 : decode cX8_sum 3 = .ok (.istore_n 3, 1) := by decide +kernel
theorem dX8_sum_4 : decode cX8_sum 4 = .ok (.iload_n 3, 1) := by decide +kernel
theorem dX8_sum_5 : decode cX8_sum 5 = .ok (.aload_n 0, 1) := by decide +kernel
theorem dX8_sum_6 : decode cX8_sum 6 = .ok (.getfield 7, 3) := by decide +kernel
theorem dX8_sum_9 : decode cX8_sum 9 = .ok (.bipush 6, 2) := by decide +kernel
theorem dX8_sum_11 : decode cX8_sum 11 = .ok (.iaload, 1) := by decide +kernel
theorem dX8_sum_12 : decode cX8_sum 12 = .ok (.if_icmp .ge 18, 3) := by decide +kernel
theorem dX8_sum_15 : decode cX8_sum 15 = .ok (.iload_n 2, 1) := by decide +kernel
theorem dX8_sum_16 : decode cX8_sum 16 = .ok (.aload_n 0, 1) := by decide +kernel
theorem dX8_sum_17 : decode cX8_sum 17 = .ok (.iload_n 3, 1) := by decide +kernel
theorem dX8_sum_18 : decode cX8_sum 18 = .ok (.iload_n 1, 1) := by decide +kernel
theorem dX8_sum_19 : decode cX8_sum 19 = .ok (.invokevirtual 40, 3) := by decide +kernel
theorem dX8_sum_22 : decode cX8_sum 22 = .ok (.iadd, 1) := by decide +kernel
theorem dX8_sum_23 : decode cX8_sum 23 = .ok (.istore_n 2, 1) := by decide +kernel
theorem dX8_sum_24 : decode cX8_sum 24 = .ok (.iinc 3 1, 3) := by decide +kernel
theorem dX8_sum_27 : decode cX8_sum 27 = .ok (.goto (-23), 3) := by decide +kernel
theorem dX8_sum_30 : decode cX8_sum 30 = .ok (.iload_n 2, 1) := by decide +kernel
theorem dX8_sum_31 : decode cX8_sum 31 = .ok (.ireturn, 1) := by decide +kernel
theorem dX8_speakers_0 : decode cX8_speakers 0 = .ok (.iconst 0, 1) := by decide +kernel
theorem dX8_speakers_1 : decode cX8_speakers 1 = .ok (.istore_n 1, 1) := by decide +kernel
theorem dX8_speakers_2 : decode cX8_speakers 2 = .ok (.iconst 0, 1) := by decide +kernel
theorem dX8_speakers_3 : decode cX8_speakers 3 = .ok (.istore_n 2, 1) := by decide +kernel
theorem dX8_speakers_4 : decode cX8_speakers 4 = .ok (.iload_n 2, 1) := by decide +kernel
theorem dX8_speakers_5 : decode cX8_speakers 5 = .ok (.aload_n 0, 1) := by decide +kernel
theorem dX8_speakers_6 : decode cX8_speakers 6 = .ok (.getfield 7, 3) := by decide +kernel
theorem dX8_speakers_9 : decode cX8_speakers 9 = .ok (.bipush 6, 2) := by decide +kernel
theorem dX8_speakers_11 : decode cX8_speakers 11 = .ok (.iaload, 1) := by decide +kernel
theorem dX8_speakers_12 : decode cX8_speakers 12 = .ok (.if_icmp .ge 27, 3) := by decide +kernel
theorem dX8_speakers_15 : decode cX8_speakers 15 = .ok (.iload_n 1, 1) := by decide +kernel
theorem dX8_speakers_16 : decode cX8_speakers 16 = .ok (.aload_n 0, 1) := by decide +kernel
theorem dX8_speakers_17 : decode cX8_speakers 17 = .ok (.iload_n 2, 1) := by decide +kernel
theorem dX8_speakers_18 : decode cX8_speakers 18 = .ok (.invokevirtual 109, 3) := by decide +kernel
theorem dX8_speakers_21 : decode cX8_speakers 21 = .ok (.ifCond .eq 9, 3) := by decide +kernel
theorem dX8_speakers_24 : decode cX8_speakers 24 = .ok (.iconst 1, 1) := by decide +kernel
theorem dX8_speakers_25 : decode cX8_speakers 25 = .ok (.iload_n 2, 1) := by decide +kernel
theorem dX8_speakers_26 : decode cX8_speakers 26 = .ok (.ishl, 1) := by decide +kernel
theorem dX8_speakers_27 : decode cX8_speakers 27 = .ok (.goto 4, 3) := by decide +kernel
theorem dX8_speakers_30 : decode cX8_speakers 30 = .ok (.iconst 0, 1) := by decide +kernel
theorem dX8_speakers_31 : decode cX8_speakers 31 = .ok (.ior, 1) := by decide +kernel
theorem dX8_speakers_32 : decode cX8_speakers 32 = .ok (.istore_n 1, 1) := by decide +kernel
theorem dX8_speakers_33 : decode cX8_speakers 33 = .ok (.iinc 2 1, 3) := by decide +kernel
theorem dX8_speakers_36 : decode cX8_speakers 36 = .ok (.goto (-32), 3) := by decide +kernel
theorem dX8_speakers_39 : decode cX8_speakers 39 = .ok (.iload_n 1, 1) := by decide +kernel
theorem dX8_speakers_40 : decode cX8_speakers 40 = .ok (.ireturn, 1) := by decide +kernel
theorem dX8_awake_0 : decode cX8_awake 0 = .ok (.iconst 0, 1) := by decide +kernel
theorem dX8_awake_1 : decode cX8_awake 1 = .ok (.istore_n 1, 1) := by decide +kernel
theorem dX8_awake_2 : decode cX8_awake 2 = .ok (.iconst 0, 1) := by decide +kernel
theorem dX8_awake_3 : decode cX8_awake 3 = .ok (.istore_n 2, 1) := by decide +kernel
theorem dX8_awake_4 : decode cX8_awake 4 = .ok (.iload_n 2, 1) := by decide +kernel
theorem dX8_awake_5 : decode cX8_awake 5 = .ok (.aload_n 0, 1) := by decide +kernel
theorem dX8_awake_6 : decode cX8_awake 6 = .ok (.getfield 7, 3) := by decide +kernel
theorem dX8_awake_9 : decode cX8_awake 9 = .ok (.bipush 6, 2) := by decide +kernel
theorem dX8_awake_11 : decode cX8_awake 11 = .ok (.iaload, 1) := by decide +kernel
theorem dX8_awake_12 : decode cX8_awake 12 = .ok (.if_icmp .ge 27, 3) := by decide +kernel
theorem dX8_awake_15 : decode cX8_awake 15 = .ok (.iload_n 1, 1) := by decide +kernel
theorem dX8_awake_16 : decode cX8_awake 16 = .ok (.aload_n 0, 1) := by decide +kernel
theorem dX8_awake_17 : decode cX8_awake 17 = .ok (.iload_n 2, 1) := by decide +kernel
theorem dX8_awake_18 : decode cX8_awake 18 = .ok (.invokevirtual 121, 3) := by decide +kernel
theorem dX8_awake_21 : decode cX8_awake 21 = .ok (.ifCond .eq 9, 3) := by decide +kernel
theorem dX8_awake_24 : decode cX8_awake 24 = .ok (.iconst 1, 1) := by decide +kernel
theorem dX8_awake_25 : decode cX8_awake 25 = .ok (.iload_n 2, 1) := by decide +kernel
theorem dX8_awake_26 : decode cX8_awake 26 = .ok (.ishl, 1) := by decide +kernel
theorem dX8_awake_27 : decode cX8_awake 27 = .ok (.goto 4, 3) := by decide +kernel
theorem dX8_awake_30 : decode cX8_awake 30 = .ok (.iconst 0, 1) := by decide +kernel
theorem dX8_awake_31 : decode cX8_awake 31 = .ok (.ior, 1) := by decide +kernel
theorem dX8_awake_32 : decode cX8_awake 32 = .ok (.istore_n 1, 1) := by decide +kernel
theorem dX8_awake_33 : decode cX8_awake 33 = .ok (.iinc 2 1, 3) := by decide +kernel
theorem dX8_awake_36 : decode cX8_awake 36 = .ok (.goto (-32), 3) := by decide +kernel
theorem dX8_awake_39 : decode cX8_awake 39 = .ok (.iload_n 1, 1) := by decide +kernel
theorem dX8_awake_40 : decode cX8_awake 40 = .ok (.ireturn, 1) := by decide +kernel
theorem dX8_faults_0 : decode cX8_faults 0 = .ok (.iconst 0, 1) := by decide +kernel
theorem dX8_faults_1 : decode cX8_faults 1 = .ok (.istore_n 1, 1) := by decide +kernel
theorem dX8_faults_2 : decode cX8_faults 2 = .ok (.iconst 0, 1) := by decide +kernel
theorem dX8_faults_3 : decode cX8_faults 3 = .ok (.istore_n 2, 1) := by decide +kernel
theorem dX8_faults_4 : decode cX8_faults 4 = .ok (.iload_n 2, 1) := by decide +kernel
theorem dX8_faults_5 : decode cX8_faults 5 = .ok (.bipush 6, 2) := by decide +kernel
theorem dX8_faults_7 : decode cX8_faults 7 = .ok (.if_icmp .ge 20, 3) := by decide +kernel
theorem dX8_faults_10 : decode cX8_faults 10 = .ok (.iload_n 1, 1) := by decide +kernel
theorem dX8_faults_11 : decode cX8_faults 11 = .ok (.aload_n 0, 1) := by decide +kernel
theorem dX8_faults_12 : decode cX8_faults 12 = .ok (.iload_n 2, 1) := by decide +kernel
theorem dX8_faults_13 : decode cX8_faults 13 = .ok (.iconst 1, 1) := by decide +kernel
theorem dX8_faults_14 : decode cX8_faults 14 = .ok (.invokevirtual 100, 3) := by decide +kernel
theorem dX8_faults_17 : decode cX8_faults 17 = .ok (.iload_n 2, 1) := by decide +kernel
theorem dX8_faults_18 : decode cX8_faults 18 = .ok (.ishl, 1) := by decide +kernel
theorem dX8_faults_19 : decode cX8_faults 19 = .ok (.ior, 1) := by decide +kernel
theorem dX8_faults_20 : decode cX8_faults 20 = .ok (.istore_n 1, 1) := by decide +kernel
theorem dX8_faults_21 : decode cX8_faults 21 = .ok (.iinc 2 1, 3) := by decide +kernel
theorem dX8_faults_24 : decode cX8_faults 24 = .ok (.goto (-20), 3) := by decide +kernel
theorem dX8_faults_27 : decode cX8_faults 27 = .ok (.iload_n 1, 1) := by decide +kernel
theorem dX8_faults_28 : decode cX8_faults 28 = .ok (.ireturn, 1) := by decide +kernel
theorem dX8_count_0 : decode cX8_count 0 = .ok (.iload_n 1, 1) := by decide +kernel
theorem dX8_count_1 : decode cX8_count 1 = .ok (.tableswitch 166 0 16 #[83, 90, 98, 103, 108, 114, 121, 128, 135, 140, 146, 146, 146, 146, 146, 156, 161], 83) := by decide +kernel
theorem dX8_count_84 : decode cX8_count 84 = .ok (.aload_n 0, 1) := by decide +kernel
theorem dX8_count_85 : decode cX8_count 85 = .ok (.getfield 7, 3) := by decide +kernel
theorem dX8_count_88 : decode cX8_count 88 = .ok (.iconst 5, 1) := by decide +kernel
theorem dX8_count_89 : decode cX8_count 89 = .ok (.iaload, 1) := by decide +kernel
theorem dX8_count_90 : decode cX8_count 90 = .ok (.ireturn, 1) := by decide +kernel
theorem dX8_count_91 : decode cX8_count 91 = .ok (.aload_n 0, 1) := by decide +kernel
theorem dX8_count_92 : decode cX8_count 92 = .ok (.getfield 7, 3) := by decide +kernel
theorem dX8_count_95 : decode cX8_count 95 = .ok (.bipush 6, 2) := by decide +kernel
theorem dX8_count_97 : decode cX8_count 97 = .ok (.iaload, 1) := by decide +kernel
theorem dX8_count_98 : decode cX8_count 98 = .ok (.ireturn, 1) := by decide +kernel
theorem dX8_count_99 : decode cX8_count 99 = .ok (.aload_n 0, 1) := by decide +kernel
theorem dX8_count_100 : decode cX8_count 100 = .ok (.invokevirtual 171, 3) := by decide +kernel
theorem dX8_count_103 : decode cX8_count 103 = .ok (.ireturn, 1) := by decide +kernel
theorem dX8_count_104 : decode cX8_count 104 = .ok (.aload_n 0, 1) := by decide +kernel
theorem dX8_count_105 : decode cX8_count 105 = .ok (.invokevirtual 174, 3) := by decide +kernel
theorem dX8_count_108 : decode cX8_count 108 = .ok (.ireturn, 1) := by decide +kernel
theorem dX8_count_109 : decode cX8_count 109 = .ok (.aload_n 0, 1) := by decide +kernel
theorem dX8_count_110 : decode cX8_count 110 = .ok (.iconst 4, 1) := by decide +kernel
theorem dX8_count_111 : decode cX8_count 111 = .ok (.invokevirtual 177, 3) := by decide +kernel
theorem dX8_count_114 : decode cX8_count 114 = .ok (.ireturn, 1) := by decide +kernel
theorem dX8_count_115 : decode cX8_count 115 = .ok (.aload_n 0, 1) := by decide +kernel
theorem dX8_count_116 : decode cX8_count 116 = .ok (.bipush 19, 2) := by decide +kernel
theorem dX8_count_118 : decode cX8_count 118 = .ok (.invokevirtual 177, 3) := by decide +kernel
theorem dX8_count_121 : decode cX8_count 121 = .ok (.ireturn, 1) := by decide +kernel
theorem dX8_count_122 : decode cX8_count 122 = .ok (.aload_n 0, 1) := by decide +kernel
theorem dX8_count_123 : decode cX8_count 123 = .ok (.bipush 20, 2) := by decide +kernel
theorem dX8_count_125 : decode cX8_count 125 = .ok (.invokevirtual 177, 3) := by decide +kernel
theorem dX8_count_128 : decode cX8_count 128 = .ok (.ireturn, 1) := by decide +kernel
theorem dX8_count_129 : decode cX8_count 129 = .ok (.aload_n 0, 1) := by decide +kernel
theorem dX8_count_130 : decode cX8_count 130 = .ok (.bipush 22, 2) := by decide +kernel
theorem dX8_count_132 : decode cX8_count 132 = .ok (.invokevirtual 177, 3) := by decide +kernel
theorem dX8_count_135 : decode cX8_count 135 = .ok (.ireturn, 1) := by decide +kernel
theorem dX8_count_136 : decode cX8_count 136 = .ok (.aload_n 0, 1) := by decide +kernel
theorem dX8_count_137 : decode cX8_count 137 = .ok (.invokevirtual 180, 3) := by decide +kernel
theorem dX8_count_140 : decode cX8_count 140 = .ok (.ireturn, 1) := by decide +kernel
theorem dX8_count_141 : decode cX8_count 141 = .ok (.aload_n 0, 1) := by decide +kernel
theorem dX8_count_142 : decode cX8_count 142 = .ok (.iconst 1, 1) := by decide +kernel
theorem dX8_count_143 : decode cX8_count 143 = .ok (.invokevirtual 177, 3) := by decide +kernel
theorem dX8_count_146 : decode cX8_count 146 = .ok (.ireturn, 1) := by decide +kernel
theorem dX8_count_147 : decode cX8_count 147 = .ok (.aload_n 0, 1) := by decide +kernel
theorem dX8_count_148 : decode cX8_count 148 = .ok (.getfield 7, 3) := by decide +kernel
theorem dX8_count_151 : decode cX8_count 151 = .ok (.iload_n 1, 1) := by decide +kernel
theorem dX8_count_152 : decode cX8_count 152 = .ok (.bipush 10, 2) := by decide +kernel
theorem dX8_count_154 : decode cX8_count 154 = .ok (.isub, 1) := by decide +kernel
theorem dX8_count_155 : decode cX8_count 155 = .ok (.iaload, 1) := by decide +kernel
theorem dX8_count_156 : decode cX8_count 156 = .ok (.ireturn, 1) := by decide +kernel
theorem dX8_count_157 : decode cX8_count 157 = .ok (.aload_n 0, 1) := by decide +kernel
theorem dX8_count_158 : decode cX8_count 158 = .ok (.getfield 183, 3) := by decide +kernel
theorem dX8_count_161 : decode cX8_count 161 = .ok (.ireturn, 1) := by decide +kernel
theorem dX8_count_162 : decode cX8_count 162 = .ok (.aload_n 0, 1) := by decide +kernel
theorem dX8_count_163 : decode cX8_count 163 = .ok (.getfield 44, 3) := by decide +kernel
theorem dX8_count_166 : decode cX8_count 166 = .ok (.ireturn, 1) := by decide +kernel
theorem dX8_count_167 : decode cX8_count 167 = .ok (.bipush (-2), 2) := by decide +kernel
theorem dX8_count_169 : decode cX8_count 169 = .ok (.ireturn, 1) := by decide +kernel
theorem dX8_why_0 : decode cX8_why 0 = .ok (.aload_n 0, 1) := by decide +kernel
theorem dX8_why_1 : decode cX8_why 1 = .ok (.iload_n 1, 1) := by decide +kernel
theorem dX8_why_2 : decode cX8_why 2 = .ok (.invokevirtual 66, 3) := by decide +kernel
theorem dX8_why_5 : decode cX8_why 5 = .ok (.ifCond .ne 5, 3) := by decide +kernel
theorem dX8_why_8 : decode cX8_why 8 = .ok (.iconst (-1), 1) := by decide +kernel
theorem dX8_why_9 : decode cX8_why 9 = .ok (.ireturn, 1) := by decide +kernel
theorem dX8_why_10 : decode cX8_why 10 = .ok (.aload_n 0, 1) := by decide +kernel
theorem dX8_why_11 : decode cX8_why 11 = .ok (.iload_n 1, 1) := by decide +kernel
theorem dX8_why_12 : decode cX8_why 12 = .ok (.invokevirtual 109, 3) := by decide +kernel
theorem dX8_why_15 : decode cX8_why 15 = .ok (.ifCond .eq 5, 3) := by decide +kernel
theorem dX8_why_18 : decode cX8_why 18 = .ok (.iconst 1, 1) := by decide +kernel
theorem dX8_why_19 : decode cX8_why 19 = .ok (.ireturn, 1) := by decide +kernel
theorem dX8_why_20 : decode cX8_why 20 = .ok (.aload_n 0, 1) := by decide +kernel
theorem dX8_why_21 : decode cX8_why 21 = .ok (.iload_n 1, 1) := by decide +kernel
theorem dX8_why_22 : decode cX8_why 22 = .ok (.invokevirtual 121, 3) := by decide +kernel
theorem dX8_why_25 : decode cX8_why 25 = .ok (.ifCond .ne 19, 3) := by decide +kernel
theorem dX8_why_28 : decode cX8_why 28 = .ok (.aload_n 0, 1) := by decide +kernel
theorem dX8_why_29 : decode cX8_why 29 = .ok (.iload_n 1, 1) := by decide +kernel
theorem dX8_why_30 : decode cX8_why 30 = .ok (.iconst 3, 1) := by decide +kernel
theorem dX8_why_31 : decode cX8_why 31 = .ok (.invokevirtual 40, 3) := by decide +kernel
theorem dX8_why_34 : decode cX8_why 34 = .ok (.iconst 1, 1) := by decide +kernel
theorem dX8_why_35 : decode cX8_why 35 = .ok (.if_icmp .ne 7, 3) := by decide +kernel
theorem dX8_why_38 : decode cX8_why 38 = .ok (.iconst 2, 1) := by decide +kernel
theorem dX8_why_39 : decode cX8_why 39 = .ok (.goto 4, 3) := by decide +kernel
theorem dX8_why_42 : decode cX8_why 42 = .ok (.iconst 3, 1) := by decide +kernel
theorem dX8_why_43 : decode cX8_why 43 = .ok (.ireturn, 1) := by decide +kernel
theorem dX8_why_44 : decode cX8_why 44 = .ok (.aload_n 0, 1) := by decide +kernel
theorem dX8_why_45 : decode cX8_why 45 = .ok (.iload_n 1, 1) := by decide +kernel
theorem dX8_why_46 : decode cX8_why 46 = .ok (.iconst 4, 1) := by decide +kernel
theorem dX8_why_47 : decode cX8_why 47 = .ok (.invokevirtual 40, 3) := by decide +kernel
theorem dX8_why_50 : decode cX8_why 50 = .ok (.ifCond .ne 5, 3) := by decide +kernel
theorem dX8_why_53 : decode cX8_why 53 = .ok (.iconst 4, 1) := by decide +kernel
theorem dX8_why_54 : decode cX8_why 54 = .ok (.ireturn, 1) := by decide +kernel
theorem dX8_why_55 : decode cX8_why 55 = .ok (.aload_n 0, 1) := by decide +kernel
theorem dX8_why_56 : decode cX8_why 56 = .ok (.aload_n 0, 1) := by decide +kernel
theorem dX8_why_57 : decode cX8_why 57 = .ok (.iload_n 1, 1) := by decide +kernel
theorem dX8_why_58 : decode cX8_why 58 = .ok (.invokevirtual 90, 3) := by decide +kernel
theorem dX8_why_61 : decode cX8_why 61 = .ok (.iconst 0, 1) := by decide +kernel
theorem dX8_why_62 : decode cX8_why 62 = .ok (.invokevirtual 100, 3) := by decide +kernel
theorem dX8_why_65 : decode cX8_why 65 = .ok (.aload_n 0, 1) := by decide +kernel
theorem dX8_why_66 : decode cX8_why 66 = .ok (.getfield 7, 3) := by decide +kernel
theorem dX8_why_69 : decode cX8_why 69 = .ok (.iconst 0, 1) := by decide +kernel
theorem dX8_why_70 : decode cX8_why 70 = .ok (.iaload, 1) := by decide +kernel
theorem dX8_why_71 : decode cX8_why 71 = .ok (.if_icmp .lt 7, 3) := by decide +kernel
theorem dX8_why_74 : decode cX8_why 74 = .ok (.iconst 0, 1) := by decide +kernel
theorem dX8_why_75 : decode cX8_why 75 = .ok (.goto 23, 3) := by decide +kernel
theorem dX8_why_78 : decode cX8_why 78 = .ok (.aload_n 0, 1) := by decide +kernel
theorem dX8_why_79 : decode cX8_why 79 = .ok (.aload_n 0, 1) := by decide +kernel
theorem dX8_why_80 : decode cX8_why 80 = .ok (.iload_n 1, 1) := by decide +kernel
theorem dX8_why_81 : decode cX8_why 81 = .ok (.invokevirtual 90, 3) := by decide +kernel
theorem dX8_why_84 : decode cX8_why 84 = .ok (.iconst 1, 1) := by decide +kernel
theorem dX8_why_85 : decode cX8_why 85 = .ok (.invokevirtual 100, 3) := by decide +kernel
theorem dX8_why_88 : decode cX8_why 88 = .ok (.iconst 1, 1) := by decide +kernel
theorem dX8_why_89 : decode cX8_why 89 = .ok (.if_icmp .ne 7, 3) := by decide +kernel
theorem dX8_why_92 : decode cX8_why 92 = .ok (.iconst 5, 1) := by decide +kernel
theorem dX8_why_93 : decode cX8_why 93 = .ok (.goto 5, 3) := by decide +kernel
theorem dX8_why_96 : decode cX8_why 96 = .ok (.bipush 6, 2) := by decide +kernel
theorem dX8_why_98 : decode cX8_why 98 = .ok (.ireturn, 1) := by decide +kernel
theorem dX8_endsIn_0 : decode cX8_endsIn 0 = .ok (.aload_n 0, 1) := by decide +kernel
theorem dX8_endsIn_1 : decode cX8_endsIn 1 = .ok (.iload_n 1, 1) := by decide +kernel
theorem dX8_endsIn_2 : decode cX8_endsIn 2 = .ok (.invokevirtual 66, 3) := by decide +kernel
theorem dX8_endsIn_5 : decode cX8_endsIn 5 = .ok (.ifCond .ne 5, 3) := by decide +kernel
theorem dX8_endsIn_8 : decode cX8_endsIn 8 = .ok (.iconst (-1), 1) := by decide +kernel
theorem dX8_endsIn_9 : decode cX8_endsIn 9 = .ok (.ireturn, 1) := by decide +kernel
theorem dX8_endsIn_10 : decode cX8_endsIn 10 = .ok (.iload_n 2, 1) := by decide +kernel
theorem dX8_endsIn_11 : decode cX8_endsIn 11 = .ok (.iconst 0, 1) := by decide +kernel
theorem dX8_endsIn_12 : decode cX8_endsIn 12 = .ok (.iconst 1, 1) := by decide +kernel
theorem dX8_endsIn_13 : decode cX8_endsIn 13 = .ok (.invokestatic 36, 3) := by decide +kernel
theorem dX8_endsIn_16 : decode cX8_endsIn 16 = .ok (.ifCond .ne 6, 3) := by decide +kernel
theorem dX8_endsIn_19 : decode cX8_endsIn 19 = .ok (.bipush (-2), 2) := by decide +kernel
theorem dX8_endsIn_21 : decode cX8_endsIn 21 = .ok (.ireturn, 1) := by decide +kernel
theorem dX8_endsIn_22 : decode cX8_endsIn 22 = .ok (.aload_n 0, 1) := by decide +kernel
theorem dX8_endsIn_23 : decode cX8_endsIn 23 = .ok (.iload_n 1, 1) := by decide +kernel
theorem dX8_endsIn_24 : decode cX8_endsIn 24 = .ok (.iconst 4, 1) := by decide +kernel
theorem dX8_endsIn_25 : decode cX8_endsIn 25 = .ok (.invokevirtual 40, 3) := by decide +kernel
theorem dX8_endsIn_28 : decode cX8_endsIn 28 = .ok (.ifCond .ne 6, 3) := by decide +kernel
theorem dX8_endsIn_31 : decode cX8_endsIn 31 = .ok (.bipush (-5), 2) := by decide +kernel
theorem dX8_endsIn_33 : decode cX8_endsIn 33 = .ok (.ireturn, 1) := by decide +kernel
theorem dX8_endsIn_34 : decode cX8_endsIn 34 = .ok (.aload_n 0, 1) := by decide +kernel
theorem dX8_endsIn_35 : decode cX8_endsIn 35 = .ok (.invokevirtual 186, 3) := by decide +kernel
theorem dX8_endsIn_38 : decode cX8_endsIn 38 = .ok (.aload_n 0, 1) := by decide +kernel
theorem dX8_endsIn_39 : decode cX8_endsIn 39 = .ok (.iload_n 1, 1) := by decide +kernel
theorem dX8_endsIn_40 : decode cX8_endsIn 40 = .ok (.iconst 4, 1) := by decide +kernel
theorem dX8_endsIn_41 : decode cX8_endsIn 41 = .ok (.invokevirtual 40, 3) := by decide +kernel
theorem dX8_endsIn_44 : decode cX8_endsIn 44 = .ok (.istore_n 3, 1) := by decide +kernel
theorem dX8_endsIn_45 : decode cX8_endsIn 45 = .ok (.aload_n 0, 1) := by decide +kernel
theorem dX8_endsIn_46 : decode cX8_endsIn 46 = .ok (.iload_n 1, 1) := by decide +kernel
theorem dX8_endsIn_47 : decode cX8_endsIn 47 = .ok (.bipush 19, 2) := by decide +kernel
theorem dX8_endsIn_49 : decode cX8_endsIn 49 = .ok (.invokevirtual 40, 3) := by decide +kernel
theorem dX8_endsIn_52 : decode cX8_endsIn 52 = .ok (.istore 4, 2) := by decide +kernel
theorem dX8_endsIn_54 : decode cX8_endsIn 54 = .ok (.iconst 0, 1) := by decide +kernel
theorem dX8_endsIn_55 : decode cX8_endsIn 55 = .ok (.istore 5, 2) := by decide +kernel
theorem dX8_endsIn_57 : decode cX8_endsIn 57 = .ok (.iload 5, 2) := by decide +kernel
theorem dX8_endsIn_59 : decode cX8_endsIn 59 = .ok (.sipush 600, 3) := by decide +kernel
theorem dX8_endsIn_62 : decode cX8_endsIn 62 = .ok (.if_icmp .gt 24, 3) := by decide +kernel
theorem dX8_endsIn_65 : decode cX8_endsIn 65 = .ok (.aload_n 0, 1) := by decide +kernel
theorem dX8_endsIn_66 : decode cX8_endsIn 66 = .ok (.iload_n 1, 1) := by decide +kernel
theorem dX8_endsIn_67 : decode cX8_endsIn 67 = .ok (.iconst 4, 1) := by decide +kernel
theorem dX8_endsIn_68 : decode cX8_endsIn 68 = .ok (.invokevirtual 40, 3) := by decide +kernel
theorem dX8_endsIn_71 : decode cX8_endsIn 71 = .ok (.iload_n 3, 1) := by decide +kernel
theorem dX8_endsIn_72 : decode cX8_endsIn 72 = .ok (.if_icmp .ne 14, 3) := by decide +kernel
theorem dX8_endsIn_75 : decode cX8_endsIn 75 = .ok (.aload_n 0, 1) := by decide +kernel
theorem dX8_endsIn_76 : decode cX8_endsIn 76 = .ok (.invokevirtual 152, 3) := by decide +kernel
theorem dX8_endsIn_79 : decode cX8_endsIn 79 = .ok (.pop, 1) := by decide +kernel
theorem dX8_endsIn_80 : decode cX8_endsIn 80 = .ok (.iinc 5 1, 3) := by decide +kernel
theorem dX8_endsIn_83 : decode cX8_endsIn 83 = .ok (.goto (-26), 3) := by decide +kernel
theorem dX8_endsIn_86 : decode cX8_endsIn 86 = .ok (.iload_n 2, 1) := by decide +kernel
theorem dX8_endsIn_87 : decode cX8_endsIn 87 = .ok (.ifCond .ne 8, 3) := by decide +kernel
theorem dX8_endsIn_90 : decode cX8_endsIn 90 = .ok (.iload 5, 2) := by decide +kernel
theorem dX8_endsIn_92 : decode cX8_endsIn 92 = .ok (.goto 20, 3) := by decide +kernel
theorem dX8_endsIn_95 : decode cX8_endsIn 95 = .ok (.aload_n 0, 1) := by decide +kernel
theorem dX8_endsIn_96 : decode cX8_endsIn 96 = .ok (.iload_n 1, 1) := by decide +kernel
theorem dX8_endsIn_97 : decode cX8_endsIn 97 = .ok (.bipush 19, 2) := by decide +kernel
theorem dX8_endsIn_99 : decode cX8_endsIn 99 = .ok (.invokevirtual 40, 3) := by decide +kernel
theorem dX8_endsIn_102 : decode cX8_endsIn 102 = .ok (.iload 4, 2) := by decide +kernel
theorem dX8_endsIn_104 : decode cX8_endsIn 104 = .ok (.if_icmp .le 7, 3) := by decide +kernel
theorem dX8_endsIn_107 : decode cX8_endsIn 107 = .ok (.iconst 1, 1) := by decide +kernel
theorem dX8_endsIn_108 : decode cX8_endsIn 108 = .ok (.goto 4, 3) := by decide +kernel
theorem dX8_endsIn_111 : decode cX8_endsIn 111 = .ok (.iconst 2, 1) := by decide +kernel
theorem dX8_endsIn_112 : decode cX8_endsIn 112 = .ok (.istore 6, 2) := by decide +kernel
theorem dX8_endsIn_114 : decode cX8_endsIn 114 = .ok (.aload_n 0, 1) := by decide +kernel
theorem dX8_endsIn_115 : decode cX8_endsIn 115 = .ok (.invokevirtual 189, 3) := by decide +kernel
theorem dX8_endsIn_118 : decode cX8_endsIn 118 = .ok (.iload 5, 2) := by decide +kernel
theorem dX8_endsIn_120 : decode cX8_endsIn 120 = .ok (.sipush 600, 3) := by decide +kernel
theorem dX8_endsIn_123 : decode cX8_endsIn 123 = .ok (.if_icmp .le 8, 3) := by decide +kernel
theorem dX8_endsIn_126 : decode cX8_endsIn 126 = .ok (.bipush (-6), 2) := by decide +kernel
theorem dX8_endsIn_128 : decode cX8_endsIn 128 = .ok (.goto 5, 3) := by decide +kernel
theorem dX8_endsIn_131 : decode cX8_endsIn 131 = .ok (.iload 6, 2) := by decide +kernel
theorem dX8_endsIn_133 : decode cX8_endsIn 133 = .ok (.ireturn, 1) := by decide +kernel
theorem dX8_quietIn_0 : decode cX8_quietIn 0 = .ok (.aload_n 0, 1) := by decide +kernel
theorem dX8_quietIn_1 : decode cX8_quietIn 1 = .ok (.invokevirtual 186, 3) := by decide +kernel
theorem dX8_quietIn_4 : decode cX8_quietIn 4 = .ok (.iconst 0, 1) := by decide +kernel
theorem dX8_quietIn_5 : decode cX8_quietIn 5 = .ok (.istore_n 1, 1) := by decide +kernel
theorem dX8_quietIn_6 : decode cX8_quietIn 6 = .ok (.iload_n 1, 1) := by decide +kernel
theorem dX8_quietIn_7 : decode cX8_quietIn 7 = .ok (.sipush 900, 3) := by decide +kernel
theorem dX8_quietIn_10 : decode cX8_quietIn 10 = .ok (.if_icmp .gt 22, 3) := by decide +kernel
theorem dX8_quietIn_13 : decode cX8_quietIn 13 = .ok (.aload_n 0, 1) := by decide +kernel
theorem dX8_quietIn_14 : decode cX8_quietIn 14 = .ok (.iconst 4, 1) := by decide +kernel
theorem dX8_quietIn_15 : decode cX8_quietIn 15 = .ok (.invokevirtual 177, 3) := by decide +kernel
theorem dX8_quietIn_18 : decode cX8_quietIn 18 = .ok (.ifCond .le 14, 3) := by decide +kernel
theorem dX8_quietIn_21 : decode cX8_quietIn 21 = .ok (.aload_n 0, 1) := by decide +kernel
theorem dX8_quietIn_22 : decode cX8_quietIn 22 = .ok (.invokevirtual 152, 3) := by decide +kernel
theorem dX8_quietIn_25 : decode cX8_quietIn 25 = .ok (.pop, 1) := by decide +kernel
theorem dX8_quietIn_26 : decode cX8_quietIn 26 = .ok (.iinc 1 1, 3) := by decide +kernel
theorem dX8_quietIn_29 : decode cX8_quietIn 29 = .ok (.goto (-23), 3) := by decide +kernel
theorem dX8_quietIn_32 : decode cX8_quietIn 32 = .ok (.aload_n 0, 1) := by decide +kernel
theorem dX8_quietIn_33 : decode cX8_quietIn 33 = .ok (.invokevirtual 189, 3) := by decide +kernel
theorem dX8_quietIn_36 : decode cX8_quietIn 36 = .ok (.iload_n 1, 1) := by decide +kernel
theorem dX8_quietIn_37 : decode cX8_quietIn 37 = .ok (.sipush 900, 3) := by decide +kernel
theorem dX8_quietIn_40 : decode cX8_quietIn 40 = .ok (.if_icmp .le 8, 3) := by decide +kernel
theorem dX8_quietIn_43 : decode cX8_quietIn 43 = .ok (.bipush (-6), 2) := by decide +kernel
theorem dX8_quietIn_45 : decode cX8_quietIn 45 = .ok (.goto 4, 3) := by decide +kernel
theorem dX8_quietIn_48 : decode cX8_quietIn 48 = .ok (.iload_n 1, 1) := by decide +kernel
theorem dX8_quietIn_49 : decode cX8_quietIn 49 = .ok (.ireturn, 1) := by decide +kernel
theorem dX8_bestRest_0 : decode cX8_bestRest 0 = .ok (.iload_n 1, 1) := by decide +kernel
theorem dX8_bestRest_1 : decode cX8_bestRest 1 = .ok (.iconst 1, 1) := by decide +kernel
theorem dX8_bestRest_2 : decode cX8_bestRest 2 = .ok (.sipush 200, 3) := by decide +kernel
theorem dX8_bestRest_5 : decode cX8_bestRest 5 = .ok (.invokestatic 36, 3) := by decide +kernel
theorem dX8_bestRest_8 : decode cX8_bestRest 8 = .ok (.ifCond .eq 12, 3) := by decide +kernel
theorem dX8_bestRest_11 : decode cX8_bestRest 11 = .ok (.iload_n 2, 1) := by decide +kernel
theorem dX8_bestRest_12 : decode cX8_bestRest 12 = .ok (.iconst 0, 1) := by decide +kernel
theorem dX8_bestRest_13 : decode cX8_bestRest 13 = .ok (.iconst 1, 1) := by decide +kernel
theorem dX8_bestRest_14 : decode cX8_bestRest 14 = .ok (.invokestatic 36, 3) := by decide +kernel
theorem dX8_bestRest_17 : decode cX8_bestRest 17 = .ok (.ifCond .ne 6, 3) := by decide +kernel
theorem dX8_bestRest_20 : decode cX8_bestRest 20 = .ok (.bipush (-2), 2) := by decide +kernel
theorem dX8_bestRest_22 : decode cX8_bestRest 22 = .ok (.ireturn, 1) := by decide +kernel
theorem dX8_bestRest_23 : decode cX8_bestRest 23 = .ok (.iconst 0, 1) := by decide +kernel
theorem dX8_bestRest_24 : decode cX8_bestRest 24 = .ok (.istore_n 3, 1) := by decide +kernel
theorem dX8_bestRest_25 : decode cX8_bestRest 25 = .ok (.iconst 0, 1) := by decide +kernel
theorem dX8_bestRest_26 : decode cX8_bestRest 26 = .ok (.istore 4, 2) := by decide +kernel
theorem dX8_bestRest_28 : decode cX8_bestRest 28 = .ok (.iconst 1, 1) := by decide +kernel
theorem dX8_bestRest_29 : decode cX8_bestRest 29 = .ok (.istore 5, 2) := by decide +kernel
theorem dX8_bestRest_31 : decode cX8_bestRest 31 = .ok (.iload 5, 2) := by decide +kernel
theorem dX8_bestRest_33 : decode cX8_bestRest 33 = .ok (.bipush 20, 2) := by decide +kernel
theorem dX8_bestRest_35 : decode cX8_bestRest 35 = .ok (.if_icmp .gt 62, 3) := by decide +kernel
theorem dX8_bestRest_38 : decode cX8_bestRest 38 = .ok (.aload_n 0, 1) := by decide +kernel
theorem dX8_bestRest_39 : decode cX8_bestRest 39 = .ok (.invokevirtual 186, 3) := by decide +kernel
theorem dX8_bestRest_42 : decode cX8_bestRest 42 = .ok (.aload_n 0, 1) := by decide +kernel
theorem dX8_bestRest_43 : decode cX8_bestRest 43 = .ok (.getfield 7, 3) := by decide +kernel
theorem dX8_bestRest_46 : decode cX8_bestRest 46 = .ok (.iconst 0, 1) := by decide +kernel
theorem dX8_bestRest_47 : decode cX8_bestRest 47 = .ok (.iload 5, 2) := by decide +kernel
theorem dX8_bestRest_49 : decode cX8_bestRest 49 = .ok (.iastore, 1) := by decide +kernel
theorem dX8_bestRest_50 : decode cX8_bestRest 50 = .ok (.aload_n 0, 1) := by decide +kernel
theorem dX8_bestRest_51 : decode cX8_bestRest 51 = .ok (.iload_n 1, 1) := by decide +kernel
theorem dX8_bestRest_52 : decode cX8_bestRest 52 = .ok (.invokevirtual 159, 3) := by decide +kernel
theorem dX8_bestRest_55 : decode cX8_bestRest 55 = .ok (.istore 6, 2) := by decide +kernel
theorem dX8_bestRest_57 : decode cX8_bestRest 57 = .ok (.aload_n 0, 1) := by decide +kernel
theorem dX8_bestRest_58 : decode cX8_bestRest 58 = .ok (.invokevirtual 189, 3) := by decide +kernel
theorem dX8_bestRest_61 : decode cX8_bestRest 61 = .ok (.iload 6, 2) := by decide +kernel
theorem dX8_bestRest_63 : decode cX8_bestRest 63 = .ok (.iload 4, 2) := by decide +kernel
theorem dX8_bestRest_65 : decode cX8_bestRest 65 = .ok (.if_icmp .lt 8, 3) := by decide +kernel
theorem dX8_bestRest_68 : decode cX8_bestRest 68 = .ok (.iload 5, 2) := by decide +kernel
theorem dX8_bestRest_70 : decode cX8_bestRest 70 = .ok (.goto 4, 3) := by decide +kernel
theorem dX8_bestRest_73 : decode cX8_bestRest 73 = .ok (.iload_n 3, 1) := by decide +kernel
theorem dX8_bestRest_74 : decode cX8_bestRest 74 = .ok (.istore_n 3, 1) := by decide +kernel
theorem dX8_bestRest_75 : decode cX8_bestRest 75 = .ok (.iload 6, 2) := by decide +kernel
theorem dX8_bestRest_77 : decode cX8_bestRest 77 = .ok (.iload 4, 2) := by decide +kernel
theorem dX8_bestRest_79 : decode cX8_bestRest 79 = .ok (.if_icmp .lt 8, 3) := by decide +kernel
theorem dX8_bestRest_82 : decode cX8_bestRest 82 = .ok (.iload 6, 2) := by decide +kernel
theorem dX8_bestRest_84 : decode cX8_bestRest 84 = .ok (.goto 5, 3) := by decide +kernel
theorem dX8_bestRest_87 : decode cX8_bestRest 87 = .ok (.iload 4, 2) := by decide +kernel
theorem dX8_bestRest_89 : decode cX8_bestRest 89 = .ok (.istore 4, 2) := by decide +kernel
theorem dX8_bestRest_91 : decode cX8_bestRest 91 = .ok (.iinc 5 1, 3) := by decide +kernel
theorem dX8_bestRest_94 : decode cX8_bestRest 94 = .ok (.goto (-63), 3) := by decide +kernel
theorem dX8_bestRest_97 : decode cX8_bestRest 97 = .ok (.iload_n 2, 1) := by decide +kernel
theorem dX8_bestRest_98 : decode cX8_bestRest 98 = .ok (.ifCond .ne 7, 3) := by decide +kernel
theorem dX8_bestRest_101 : decode cX8_bestRest 101 = .ok (.iload_n 3, 1) := by decide +kernel
theorem dX8_bestRest_102 : decode cX8_bestRest 102 = .ok (.goto 5, 3) := by decide +kernel
theorem dX8_bestRest_105 : decode cX8_bestRest 105 = .ok (.iload 4, 2) := by decide +kernel
theorem dX8_bestRest_107 : decode cX8_bestRest 107 = .ok (.ireturn, 1) := by decide +kernel
theorem dX8_busiest_0 : decode cX8_busiest 0 = .ok (.bipush (-6), 2) := by decide +kernel
theorem dX8_busiest_2 : decode cX8_busiest 2 = .ok (.istore_n 1, 1) := by decide +kernel
theorem dX8_busiest_3 : decode cX8_busiest 3 = .ok (.iconst 0, 1) := by decide +kernel
theorem dX8_busiest_4 : decode cX8_busiest 4 = .ok (.istore_n 2, 1) := by decide +kernel
theorem dX8_busiest_5 : decode cX8_busiest 5 = .ok (.iconst 0, 1) := by decide +kernel
theorem dX8_busiest_6 : decode cX8_busiest 6 = .ok (.istore_n 3, 1) := by decide +kernel
theorem dX8_busiest_7 : decode cX8_busiest 7 = .ok (.iload_n 3, 1) := by decide +kernel
theorem dX8_busiest_8 : decode cX8_busiest 8 = .ok (.bipush 6, 2) := by decide +kernel
theorem dX8_busiest_10 : decode cX8_busiest 10 = .ok (.if_icmp .ge 41, 3) := by decide +kernel
theorem dX8_busiest_13 : decode cX8_busiest 13 = .ok (.aload_n 0, 1) := by decide +kernel
theorem dX8_busiest_14 : decode cX8_busiest 14 = .ok (.iload_n 3, 1) := by decide +kernel
theorem dX8_busiest_15 : decode cX8_busiest 15 = .ok (.invokevirtual 168, 3) := by decide +kernel
theorem dX8_busiest_18 : decode cX8_busiest 18 = .ok (.istore 4, 2) := by decide +kernel
theorem dX8_busiest_20 : decode cX8_busiest 20 = .ok (.iload 4, 2) := by decide +kernel
theorem dX8_busiest_22 : decode cX8_busiest 22 = .ok (.iload_n 2, 1) := by decide +kernel
theorem dX8_busiest_23 : decode cX8_busiest 23 = .ok (.if_icmp .le 7, 3) := by decide +kernel
theorem dX8_busiest_26 : decode cX8_busiest 26 = .ok (.iload_n 3, 1) := by decide +kernel
theorem dX8_busiest_27 : decode cX8_busiest 27 = .ok (.goto 4, 3) := by decide +kernel
theorem dX8_busiest_30 : decode cX8_busiest 30 = .ok (.iload_n 1, 1) := by decide +kernel
theorem dX8_busiest_31 : decode cX8_busiest 31 = .ok (.istore_n 1, 1) := by decide +kernel
theorem dX8_busiest_32 : decode cX8_busiest 32 = .ok (.iload 4, 2) := by decide +kernel
theorem dX8_busiest_34 : decode cX8_busiest 34 = .ok (.iload_n 2, 1) := by decide +kernel
theorem dX8_busiest_35 : decode cX8_busiest 35 = .ok (.if_icmp .le 8, 3) := by decide +kernel
theorem dX8_busiest_38 : decode cX8_busiest 38 = .ok (.iload 4, 2) := by decide +kernel
theorem dX8_busiest_40 : decode cX8_busiest 40 = .ok (.goto 4, 3) := by decide +kernel
theorem dX8_busiest_43 : decode cX8_busiest 43 = .ok (.iload_n 2, 1) := by decide +kernel
theorem dX8_busiest_44 : decode cX8_busiest 44 = .ok (.istore_n 2, 1) := by decide +kernel
theorem dX8_busiest_45 : decode cX8_busiest 45 = .ok (.iinc 3 1, 3) := by decide +kernel
theorem dX8_busiest_48 : decode cX8_busiest 48 = .ok (.goto (-41), 3) := by decide +kernel
theorem dX8_busiest_51 : decode cX8_busiest 51 = .ok (.iload_n 1, 1) := by decide +kernel
theorem dX8_busiest_52 : decode cX8_busiest 52 = .ok (.ireturn, 1) := by decide +kernel
theorem dX8_sleepsIn_0 : decode cX8_sleepsIn 0 = .ok (.aload_n 0, 1) := by decide +kernel
theorem dX8_sleepsIn_1 : decode cX8_sleepsIn 1 = .ok (.iload_n 1, 1) := by decide +kernel
theorem dX8_sleepsIn_2 : decode cX8_sleepsIn 2 = .ok (.invokevirtual 66, 3) := by decide +kernel
theorem dX8_sleepsIn_5 : decode cX8_sleepsIn 5 = .ok (.ifCond .ne 5, 3) := by decide +kernel
theorem dX8_sleepsIn_8 : decode cX8_sleepsIn 8 = .ok (.iconst (-1), 1) := by decide +kernel
theorem dX8_sleepsIn_9 : decode cX8_sleepsIn 9 = .ok (.ireturn, 1) := by decide +kernel
theorem dX8_sleepsIn_10 : decode cX8_sleepsIn 10 = .ok (.aload_n 0, 1) := by decide +kernel
theorem dX8_sleepsIn_11 : decode cX8_sleepsIn 11 = .ok (.invokevirtual 186, 3) := by decide +kernel
theorem dX8_sleepsIn_14 : decode cX8_sleepsIn 14 = .ok (.iconst 0, 1) := by decide +kernel
theorem dX8_sleepsIn_15 : decode cX8_sleepsIn 15 = .ok (.istore_n 2, 1) := by decide +kernel
theorem dX8_sleepsIn_16 : decode cX8_sleepsIn 16 = .ok (.iload_n 2, 1) := by decide +kernel
theorem dX8_sleepsIn_17 : decode cX8_sleepsIn 17 = .ok (.sipush 600, 3) := by decide +kernel
theorem dX8_sleepsIn_20 : decode cX8_sleepsIn 20 = .ok (.if_icmp .gt 23, 3) := by decide +kernel
theorem dX8_sleepsIn_23 : decode cX8_sleepsIn 23 = .ok (.aload_n 0, 1) := by decide +kernel
theorem dX8_sleepsIn_24 : decode cX8_sleepsIn 24 = .ok (.iload_n 1, 1) := by decide +kernel
theorem dX8_sleepsIn_25 : decode cX8_sleepsIn 25 = .ok (.iconst 2, 1) := by decide +kernel
theorem dX8_sleepsIn_26 : decode cX8_sleepsIn 26 = .ok (.invokevirtual 40, 3) := by decide +kernel
theorem dX8_sleepsIn_29 : decode cX8_sleepsIn 29 = .ok (.ifCond .ne 14, 3) := by decide +kernel
theorem dX8_sleepsIn_32 : decode cX8_sleepsIn 32 = .ok (.aload_n 0, 1) := by decide +kernel
theorem dX8_sleepsIn_33 : decode cX8_sleepsIn 33 = .ok (.invokevirtual 152, 3) := by decide +kernel
theorem dX8_sleepsIn_36 : decode cX8_sleepsIn 36 = .ok (.pop, 1) := by decide +kernel
theorem dX8_sleepsIn_37 : decode cX8_sleepsIn 37 = .ok (.iinc 2 1, 3) := by decide +kernel
theorem dX8_sleepsIn_40 : decode cX8_sleepsIn 40 = .ok (.goto (-24), 3) := by decide +kernel
theorem dX8_sleepsIn_43 : decode cX8_sleepsIn 43 = .ok (.aload_n 0, 1) := by decide +kernel
theorem dX8_sleepsIn_44 : decode cX8_sleepsIn 44 = .ok (.invokevirtual 189, 3) := by decide +kernel
theorem dX8_sleepsIn_47 : decode cX8_sleepsIn 47 = .ok (.iload_n 2, 1) := by decide +kernel
theorem dX8_sleepsIn_48 : decode cX8_sleepsIn 48 = .ok (.sipush 600, 3) := by decide +kernel
theorem dX8_sleepsIn_51 : decode cX8_sleepsIn 51 = .ok (.if_icmp .le 8, 3) := by decide +kernel
theorem dX8_sleepsIn_54 : decode cX8_sleepsIn 54 = .ok (.bipush (-6), 2) := by decide +kernel
theorem dX8_sleepsIn_56 : decode cX8_sleepsIn 56 = .ok (.goto 4, 3) := by decide +kernel
theorem dX8_sleepsIn_59 : decode cX8_sleepsIn 59 = .ok (.iload_n 2, 1) := by decide +kernel
theorem dX8_sleepsIn_60 : decode cX8_sleepsIn 60 = .ok (.ireturn, 1) := by decide +kernel
theorem dX8_letter_0 : decode cX8_letter 0 = .ok (.aload_n 0, 1) := by decide +kernel
theorem dX8_letter_1 : decode cX8_letter 1 = .ok (.getfield 192, 3) := by decide +kernel
theorem dX8_letter_4 : decode cX8_letter 4 = .ok (.aload_n 0, 1) := by decide +kernel
theorem dX8_letter_5 : decode cX8_letter 5 = .ok (.getfield 183, 3) := by decide +kernel
theorem dX8_letter_8 : decode cX8_letter 8 = .ok (.if_icmp .ge 15, 3) := by decide +kernel
theorem dX8_letter_11 : decode cX8_letter 11 = .ok (.aload_n 0, 1) := by decide +kernel
theorem dX8_letter_12 : decode cX8_letter 12 = .ok (.getfield 26, 3) := by decide +kernel
theorem dX8_letter_15 : decode cX8_letter 15 = .ok (.aload_n 0, 1) := by decide +kernel
theorem dX8_letter_16 : decode cX8_letter 16 = .ok (.getfield 192, 3) := by decide +kernel
theorem dX8_letter_19 : decode cX8_letter 19 = .ok (.caload, 1) := by decide +kernel
theorem dX8_letter_20 : decode cX8_letter 20 = .ok (.goto 5, 3) := by decide +kernel
theorem dX8_letter_23 : decode cX8_letter 23 = .ok (.bipush (-6), 2) := by decide +kernel
theorem dX8_letter_25 : decode cX8_letter 25 = .ok (.ireturn, 1) := by decide +kernel
theorem dX8_wants_0 : decode cX8_wants 0 = .ok (.aload_n 0, 1) := by decide +kernel
theorem dX8_wants_1 : decode cX8_wants 1 = .ok (.getfield 195, 3) := by decide +kernel
theorem dX8_wants_4 : decode cX8_wants 4 = .ok (.bipush (-6), 2) := by decide +kernel
theorem dX8_wants_6 : decode cX8_wants 6 = .ok (.if_icmp .ne 30, 3) := by decide +kernel
theorem dX8_wants_9 : decode cX8_wants 9 = .ok (.aload_n 0, 1) := by decide +kernel
theorem dX8_wants_10 : decode cX8_wants 10 = .ok (.iload_n 1, 1) := by decide +kernel
theorem dX8_wants_11 : decode cX8_wants 11 = .ok (.ifCond .eq 8, 3) := by decide +kernel
theorem dX8_wants_14 : decode cX8_wants 14 = .ok (.bipush (-6), 2) := by decide +kernel
theorem dX8_wants_16 : decode cX8_wants 16 = .ok (.goto 7, 3) := by decide +kernel
theorem dX8_wants_19 : decode cX8_wants 19 = .ok (.aload_n 0, 1) := by decide +kernel
theorem dX8_wants_20 : decode cX8_wants 20 = .ok (.getfield 192, 3) := by decide +kernel
theorem dX8_wants_23 : decode cX8_wants 23 = .ok (.putfield 195, 3) := by decide +kernel
theorem dX8_wants_26 : decode cX8_wants 26 = .ok (.aload_n 0, 1) := by decide +kernel
theorem dX8_wants_27 : decode cX8_wants 27 = .ok (.dup, 1) := by decide +kernel
theorem dX8_wants_28 : decode cX8_wants 28 = .ok (.getfield 192, 3) := by decide +kernel
theorem dX8_wants_31 : decode cX8_wants 31 = .ok (.iconst 1, 1) := by decide +kernel
theorem dX8_wants_32 : decode cX8_wants 32 = .ok (.iadd, 1) := by decide +kernel
theorem dX8_wants_33 : decode cX8_wants 33 = .ok (.putfield 192, 3) := by decide +kernel
theorem dX8_wants_36 : decode cX8_wants 36 = .ok (.return_, 1) := by decide +kernel
theorem dX8_digit_0 : decode cX8_digit 0 = .ok (.aload_n 0, 1) := by decide +kernel
theorem dX8_digit_1 : decode cX8_digit 1 = .ok (.invokevirtual 198, 3) := by decide +kernel
theorem dX8_digit_4 : decode cX8_digit 4 = .ok (.bipush 48, 2) := by decide +kernel
theorem dX8_digit_6 : decode cX8_digit 6 = .ok (.isub, 1) := by decide +kernel
theorem dX8_digit_7 : decode cX8_digit 7 = .ok (.istore_n 1, 1) := by decide +kernel
theorem dX8_digit_8 : decode cX8_digit 8 = .ok (.aload_n 0, 1) := by decide +kernel
theorem dX8_digit_9 : decode cX8_digit 9 = .ok (.iload_n 1, 1) := by decide +kernel
theorem dX8_digit_10 : decode cX8_digit 10 = .ok (.iconst 0, 1) := by decide +kernel
theorem dX8_digit_11 : decode cX8_digit 11 = .ok (.bipush 9, 2) := by decide +kernel
theorem dX8_digit_13 : decode cX8_digit 13 = .ok (.invokestatic 36, 3) := by decide +kernel
theorem dX8_digit_16 : decode cX8_digit 16 = .ok (.invokevirtual 201, 3) := by decide +kernel
theorem dX8_digit_19 : decode cX8_digit 19 = .ok (.iload_n 1, 1) := by decide +kernel
theorem dX8_digit_20 : decode cX8_digit 20 = .ok (.ireturn, 1) := by decide +kernel
theorem dX8_wireRead_0 : decode cX8_wireRead 0 = .ok (.aload_n 0, 1) := by decide +kernel
theorem dX8_wireRead_1 : decode cX8_wireRead 1 = .ok (.invokevirtual 198, 3) := by decide +kernel
theorem dX8_wireRead_4 : decode cX8_wireRead 4 = .ok (.bipush 97, 2) := by decide +kernel
theorem dX8_wireRead_6 : decode cX8_wireRead 6 = .ok (.isub, 1) := by decide +kernel
theorem dX8_wireRead_7 : decode cX8_wireRead 7 = .ok (.istore_n 1, 1) := by decide +kernel
theorem dX8_wireRead_8 : decode cX8_wireRead 8 = .ok (.aload_n 0, 1) := by decide +kernel
theorem dX8_wireRead_9 : decode cX8_wireRead 9 = .ok (.iload_n 1, 1) := by decide +kernel
theorem dX8_wireRead_10 : decode cX8_wireRead 10 = .ok (.invokestatic 70, 3) := by decide +kernel
theorem dX8_wireRead_13 : decode cX8_wireRead 13 = .ok (.invokevirtual 201, 3) := by decide +kernel
theorem dX8_wireRead_16 : decode cX8_wireRead 16 = .ok (.iload_n 1, 1) := by decide +kernel
theorem dX8_wireRead_17 : decode cX8_wireRead 17 = .ok (.ireturn, 1) := by decide +kernel
theorem dX8_number_0 : decode cX8_number 0 = .ok (.aload_n 0, 1) := by decide +kernel
theorem dX8_number_1 : decode cX8_number 1 = .ok (.invokevirtual 205, 3) := by decide +kernel
theorem dX8_number_4 : decode cX8_number 4 = .ok (.istore_n 1, 1) := by decide +kernel
theorem dX8_number_5 : decode cX8_number 5 = .ok (.aload_n 0, 1) := by decide +kernel
theorem dX8_number_6 : decode cX8_number 6 = .ok (.invokevirtual 198, 3) := by decide +kernel
theorem dX8_number_9 : decode cX8_number 9 = .ok (.bipush 48, 2) := by decide +kernel
theorem dX8_number_11 : decode cX8_number 11 = .ok (.isub, 1) := by decide +kernel
theorem dX8_number_12 : decode cX8_number 12 = .ok (.istore_n 2, 1) := by decide +kernel
theorem dX8_number_13 : decode cX8_number 13 = .ok (.aload_n 0, 1) := by decide +kernel
theorem dX8_number_14 : decode cX8_number 14 = .ok (.getfield 195, 3) := by decide +kernel
theorem dX8_number_17 : decode cX8_number 17 = .ok (.bipush (-6), 2) := by decide +kernel
theorem dX8_number_19 : decode cX8_number 19 = .ok (.if_icmp .ne 57, 3) := by decide +kernel
theorem dX8_number_22 : decode cX8_number 22 = .ok (.iload_n 1, 1) := by decide +kernel
theorem dX8_number_23 : decode cX8_number 23 = .ok (.ifCond .le 53, 3) := by decide +kernel
theorem dX8_number_26 : decode cX8_number 26 = .ok (.iload_n 2, 1) := by decide +kernel
theorem dX8_number_27 : decode cX8_number 27 = .ok (.iconst 0, 1) := by decide +kernel
theorem dX8_number_28 : decode cX8_number 28 = .ok (.bipush 9, 2) := by decide +kernel
theorem dX8_number_30 : decode cX8_number 30 = .ok (.invokestatic 36, 3) := by decide +kernel
theorem dX8_number_33 : decode cX8_number 33 = .ok (.ifCond .eq 43, 3) := by decide +kernel
theorem dX8_number_36 : decode cX8_number 36 = .ok (.bipush 10, 2) := by decide +kernel
theorem dX8_number_38 : decode cX8_number 38 = .ok (.iload_n 1, 1) := by decide +kernel
theorem dX8_number_39 : decode cX8_number 39 = .ok (.imul, 1) := by decide +kernel
theorem dX8_number_40 : decode cX8_number 40 = .ok (.iload_n 2, 1) := by decide +kernel
theorem dX8_number_41 : decode cX8_number 41 = .ok (.iadd, 1) := by decide +kernel
theorem dX8_number_42 : decode cX8_number 42 = .ok (.sipush 999, 3) := by decide +kernel
theorem dX8_number_45 : decode cX8_number 45 = .ok (.if_icmp .gt 31, 3) := by decide +kernel
theorem dX8_number_48 : decode cX8_number 48 = .ok (.bipush 10, 2) := by decide +kernel
theorem dX8_number_50 : decode cX8_number 50 = .ok (.iload_n 1, 1) := by decide +kernel
theorem dX8_number_51 : decode cX8_number 51 = .ok (.imul, 1) := by decide +kernel
theorem dX8_number_52 : decode cX8_number 52 = .ok (.iload_n 2, 1) := by decide +kernel
theorem dX8_number_53 : decode cX8_number 53 = .ok (.iadd, 1) := by decide +kernel
theorem dX8_number_54 : decode cX8_number 54 = .ok (.istore_n 1, 1) := by decide +kernel
theorem dX8_number_55 : decode cX8_number 55 = .ok (.aload_n 0, 1) := by decide +kernel
theorem dX8_number_56 : decode cX8_number 56 = .ok (.dup, 1) := by decide +kernel
theorem dX8_number_57 : decode cX8_number 57 = .ok (.getfield 192, 3) := by decide +kernel
theorem dX8_number_60 : decode cX8_number 60 = .ok (.iconst 1, 1) := by decide +kernel
theorem dX8_number_61 : decode cX8_number 61 = .ok (.iadd, 1) := by decide +kernel
theorem dX8_number_62 : decode cX8_number 62 = .ok (.putfield 192, 3) := by decide +kernel
theorem dX8_number_65 : decode cX8_number 65 = .ok (.aload_n 0, 1) := by decide +kernel
theorem dX8_number_66 : decode cX8_number 66 = .ok (.invokevirtual 198, 3) := by decide +kernel
theorem dX8_number_69 : decode cX8_number 69 = .ok (.bipush 48, 2) := by decide +kernel
theorem dX8_number_71 : decode cX8_number 71 = .ok (.isub, 1) := by decide +kernel
theorem dX8_number_72 : decode cX8_number 72 = .ok (.istore_n 2, 1) := by decide +kernel
theorem dX8_number_73 : decode cX8_number 73 = .ok (.goto (-60), 3) := by decide +kernel
theorem dX8_number_76 : decode cX8_number 76 = .ok (.iload_n 1, 1) := by decide +kernel
theorem dX8_number_77 : decode cX8_number 77 = .ok (.ireturn, 1) := by decide +kernel
theorem dX8_wiresRead_0 : decode cX8_wiresRead 0 = .ok (.iconst 1, 1) := by decide +kernel
theorem dX8_wiresRead_1 : decode cX8_wiresRead 1 = .ok (.aload_n 0, 1) := by decide +kernel
theorem dX8_wiresRead_2 : decode cX8_wiresRead 2 = .ok (.invokevirtual 208, 3) := by decide +kernel
theorem dX8_wiresRead_5 : decode cX8_wiresRead 5 = .ok (.ishl, 1) := by decide +kernel
theorem dX8_wiresRead_6 : decode cX8_wiresRead 6 = .ok (.istore_n 1, 1) := by decide +kernel
theorem dX8_wiresRead_7 : decode cX8_wiresRead 7 = .ok (.aload_n 0, 1) := by decide +kernel
theorem dX8_wiresRead_8 : decode cX8_wiresRead 8 = .ok (.getfield 195, 3) := by decide +kernel
theorem dX8_wiresRead_11 : decode cX8_wiresRead 11 = .ok (.bipush (-6), 2) := by decide +kernel
theorem dX8_wiresRead_13 : decode cX8_wiresRead 13 = .ok (.if_icmp .ne 55, 3) := by decide +kernel
theorem dX8_wiresRead_16 : decode cX8_wiresRead 16 = .ok (.aload_n 0, 1) := by decide +kernel
theorem dX8_wiresRead_17 : decode cX8_wiresRead 17 = .ok (.invokevirtual 198, 3) := by decide +kernel
theorem dX8_wiresRead_20 : decode cX8_wiresRead 20 = .ok (.bipush 97, 2) := by decide +kernel
theorem dX8_wiresRead_22 : decode cX8_wiresRead 22 = .ok (.isub, 1) := by decide +kernel
theorem dX8_wiresRead_23 : decode cX8_wiresRead 23 = .ok (.invokestatic 70, 3) := by decide +kernel
theorem dX8_wiresRead_26 : decode cX8_wiresRead 26 = .ok (.ifCond .eq 42, 3) := by decide +kernel
theorem dX8_wiresRead_29 : decode cX8_wiresRead 29 = .ok (.iload_n 1, 1) := by decide +kernel
theorem dX8_wiresRead_30 : decode cX8_wiresRead 30 = .ok (.aload_n 0, 1) := by decide +kernel
theorem dX8_wiresRead_31 : decode cX8_wiresRead 31 = .ok (.invokevirtual 198, 3) := by decide +kernel
theorem dX8_wiresRead_34 : decode cX8_wiresRead 34 = .ok (.bipush 97, 2) := by decide +kernel
theorem dX8_wiresRead_36 : decode cX8_wiresRead 36 = .ok (.isub, 1) := by decide +kernel
theorem dX8_wiresRead_37 : decode cX8_wiresRead 37 = .ok (.ishr, 1) := by decide +kernel
theorem dX8_wiresRead_38 : decode cX8_wiresRead 38 = .ok (.iconst 1, 1) := by decide +kernel
theorem dX8_wiresRead_39 : decode cX8_wiresRead 39 = .ok (.iand, 1) := by decide +kernel
theorem dX8_wiresRead_40 : decode cX8_wiresRead 40 = .ok (.ifCond .ne 28, 3) := by decide +kernel
theorem dX8_wiresRead_43 : decode cX8_wiresRead 43 = .ok (.iload_n 1, 1) := by decide +kernel
theorem dX8_wiresRead_44 : decode cX8_wiresRead 44 = .ok (.iconst 1, 1) := by decide +kernel
theorem dX8_wiresRead_45 : decode cX8_wiresRead 45 = .ok (.aload_n 0, 1) := by decide +kernel
theorem dX8_wiresRead_46 : decode cX8_wiresRead 46 = .ok (.invokevirtual 198, 3) := by decide +kernel
theorem dX8_wiresRead_49 : decode cX8_wiresRead 49 = .ok (.bipush 97, 2) := by decide +kernel
theorem dX8_wiresRead_51 : decode cX8_wiresRead 51 = .ok (.isub, 1) := by decide +kernel
theorem dX8_wiresRead_52 : decode cX8_wiresRead 52 = .ok (.ishl, 1) := by decide +kernel
theorem dX8_wiresRead_53 : decode cX8_wiresRead 53 = .ok (.ior, 1) := by decide +kernel
theorem dX8_wiresRead_54 : decode cX8_wiresRead 54 = .ok (.istore_n 1, 1) := by decide +kernel
theorem dX8_wiresRead_55 : decode cX8_wiresRead 55 = .ok (.aload_n 0, 1) := by decide +kernel
theorem dX8_wiresRead_56 : decode cX8_wiresRead 56 = .ok (.dup, 1) := by decide +kernel
theorem dX8_wiresRead_57 : decode cX8_wiresRead 57 = .ok (.getfield 192, 3) := by decide +kernel
theorem dX8_wiresRead_60 : decode cX8_wiresRead 60 = .ok (.iconst 1, 1) := by decide +kernel
theorem dX8_wiresRead_61 : decode cX8_wiresRead 61 = .ok (.iadd, 1) := by decide +kernel
theorem dX8_wiresRead_62 : decode cX8_wiresRead 62 = .ok (.putfield 192, 3) := by decide +kernel
theorem dX8_wiresRead_65 : decode cX8_wiresRead 65 = .ok (.goto (-58), 3) := by decide +kernel
theorem dX8_wiresRead_68 : decode cX8_wiresRead 68 = .ok (.iload_n 1, 1) := by decide +kernel
theorem dX8_wiresRead_69 : decode cX8_wiresRead 69 = .ok (.ireturn, 1) := by decide +kernel
theorem dX8_readOrder_0 : decode cX8_readOrder 0 = .ok (.iconst 4, 1) := by decide +kernel
theorem dX8_readOrder_1 : decode cX8_readOrder 1 = .ok (.aload_n 0, 1) := by decide +kernel
theorem dX8_readOrder_2 : decode cX8_readOrder 2 = .ok (.getfield 211, 3) := by decide +kernel
theorem dX8_readOrder_5 : decode cX8_readOrder 5 = .ok (.imul, 1) := by decide +kernel
theorem dX8_readOrder_6 : decode cX8_readOrder 6 = .ok (.istore_n 1, 1) := by decide +kernel
theorem dX8_readOrder_7 : decode cX8_readOrder 7 = .ok (.aload_n 0, 1) := by decide +kernel
theorem dX8_readOrder_8 : decode cX8_readOrder 8 = .ok (.invokevirtual 198, 3) := by decide +kernel
theorem dX8_readOrder_11 : decode cX8_readOrder 11 = .ok (.istore_n 2, 1) := by decide +kernel
theorem dX8_readOrder_12 : decode cX8_readOrder 12 = .ok (.aload_n 0, 1) := by decide +kernel
theorem dX8_readOrder_13 : decode cX8_readOrder 13 = .ok (.getfield 33, 3) := by decide +kernel
theorem dX8_readOrder_16 : decode cX8_readOrder 16 = .ok (.iload_n 1, 1) := by decide +kernel
theorem dX8_readOrder_17 : decode cX8_readOrder 17 = .ok (.iload_n 2, 1) := by decide +kernel
theorem dX8_readOrder_18 : decode cX8_readOrder 18 = .ok (.iastore, 1) := by decide +kernel
theorem dX8_readOrder_19 : decode cX8_readOrder 19 = .ok (.aload_n 0, 1) := by decide +kernel
theorem dX8_readOrder_20 : decode cX8_readOrder 20 = .ok (.iload_n 2, 1) := by decide +kernel
theorem dX8_readOrder_21 : decode cX8_readOrder 21 = .ok (.bipush 115, 2) := by decide +kernel
theorem dX8_readOrder_23 : decode cX8_readOrder 23 = .ok (.if_icmp .eq 27, 3) := by decide +kernel
theorem dX8_readOrder_26 : decode cX8_readOrder 26 = .ok (.iload_n 2, 1) := by decide +kernel
theorem dX8_readOrder_27 : decode cX8_readOrder 27 = .ok (.bipush 119, 2) := by decide +kernel
theorem dX8_readOrder_29 : decode cX8_readOrder 29 = .ok (.if_icmp .eq 21, 3) := by decide +kernel
theorem dX8_readOrder_32 : decode cX8_readOrder 32 = .ok (.iload_n 2, 1) := by decide +kernel
theorem dX8_readOrder_33 : decode cX8_readOrder 33 = .ok (.bipush 33, 2) := by decide +kernel
theorem dX8_readOrder_35 : decode cX8_readOrder 35 = .ok (.if_icmp .eq 15, 3) := by decide +kernel
theorem dX8_readOrder_38 : decode cX8_readOrder 38 = .ok (.iload_n 2, 1) := by decide +kernel
theorem dX8_readOrder_39 : decode cX8_readOrder 39 = .ok (.bipush 122, 2) := by decide +kernel
theorem dX8_readOrder_41 : decode cX8_readOrder 41 = .ok (.if_icmp .eq 9, 3) := by decide +kernel
theorem dX8_readOrder_44 : decode cX8_readOrder 44 = .ok (.iload_n 2, 1) := by decide +kernel
theorem dX8_readOrder_45 : decode cX8_readOrder 45 = .ok (.bipush 98, 2) := by decide +kernel
theorem dX8_readOrder_47 : decode cX8_readOrder 47 = .ok (.if_icmp .ne 7, 3) := by decide +kernel
theorem dX8_readOrder_50 : decode cX8_readOrder 50 = .ok (.iconst 1, 1) := by decide +kernel
theorem dX8_readOrder_51 : decode cX8_readOrder 51 = .ok (.goto 4, 3) := by decide +kernel
theorem dX8_readOrder_54 : decode cX8_readOrder 54 = .ok (.iconst 0, 1) := by decide +kernel
theorem dX8_readOrder_55 : decode cX8_readOrder 55 = .ok (.invokevirtual 201, 3) := by decide +kernel
theorem dX8_readOrder_58 : decode cX8_readOrder 58 = .ok (.iload_n 2, 1) := by decide +kernel
theorem dX8_readOrder_59 : decode cX8_readOrder 59 = .ok (.lookupswitch 143 #[(33, 113), (115, 41), (119, 56), (122, 128)], 41) := by decide +kernel
theorem dX8_readOrder_100 : decode cX8_readOrder 100 = .ok (.aload_n 0, 1) := by decide +kernel
theorem dX8_readOrder_101 : decode cX8_readOrder 101 = .ok (.getfield 33, 3) := by decide +kernel
theorem dX8_readOrder_104 : decode cX8_readOrder 104 = .ok (.iload_n 1, 1) := by decide +kernel
theorem dX8_readOrder_105 : decode cX8_readOrder 105 = .ok (.iconst 1, 1) := by decide +kernel
theorem dX8_readOrder_106 : decode cX8_readOrder 106 = .ok (.iadd, 1) := by decide +kernel
theorem dX8_readOrder_107 : decode cX8_readOrder 107 = .ok (.aload_n 0, 1) := by decide +kernel
theorem dX8_readOrder_108 : decode cX8_readOrder 108 = .ok (.invokevirtual 214, 3) := by decide +kernel
theorem dX8_readOrder_111 : decode cX8_readOrder 111 = .ok (.iastore, 1) := by decide +kernel
theorem dX8_readOrder_112 : decode cX8_readOrder 112 = .ok (.goto 102, 3) := by decide +kernel
theorem dX8_readOrder_115 : decode cX8_readOrder 115 = .ok (.aload_n 0, 1) := by decide +kernel
theorem dX8_readOrder_116 : decode cX8_readOrder 116 = .ok (.getfield 33, 3) := by decide +kernel
theorem dX8_readOrder_119 : decode cX8_readOrder 119 = .ok (.iload_n 1, 1) := by decide +kernel
theorem dX8_readOrder_120 : decode cX8_readOrder 120 = .ok (.iconst 1, 1) := by decide +kernel
theorem dX8_readOrder_121 : decode cX8_readOrder 121 = .ok (.iadd, 1) := by decide +kernel
theorem dX8_readOrder_122 : decode cX8_readOrder 122 = .ok (.aload_n 0, 1) := by decide +kernel
theorem dX8_readOrder_123 : decode cX8_readOrder 123 = .ok (.invokevirtual 205, 3) := by decide +kernel
theorem dX8_readOrder_126 : decode cX8_readOrder 126 = .ok (.iastore, 1) := by decide +kernel
theorem dX8_readOrder_127 : decode cX8_readOrder 127 = .ok (.aload_n 0, 1) := by decide +kernel
theorem dX8_readOrder_128 : decode cX8_readOrder 128 = .ok (.getfield 33, 3) := by decide +kernel
theorem dX8_readOrder_131 : decode cX8_readOrder 131 = .ok (.iload_n 1, 1) := by decide +kernel
theorem dX8_readOrder_132 : decode cX8_readOrder 132 = .ok (.iconst 2, 1) := by decide +kernel
theorem dX8_readOrder_133 : decode cX8_readOrder 133 = .ok (.iadd, 1) := by decide +kernel
theorem dX8_readOrder_134 : decode cX8_readOrder 134 = .ok (.aload_n 0, 1) := by decide +kernel
theorem dX8_readOrder_135 : decode cX8_readOrder 135 = .ok (.invokevirtual 208, 3) := by decide +kernel
theorem dX8_readOrder_138 : decode cX8_readOrder 138 = .ok (.iastore, 1) := by decide +kernel
theorem dX8_readOrder_139 : decode cX8_readOrder 139 = .ok (.aload_n 0, 1) := by decide +kernel
theorem dX8_readOrder_140 : decode cX8_readOrder 140 = .ok (.aload_n 0, 1) := by decide +kernel
theorem dX8_readOrder_141 : decode cX8_readOrder 141 = .ok (.invokevirtual 198, 3) := by decide +kernel
theorem dX8_readOrder_144 : decode cX8_readOrder 144 = .ok (.bipush 61, 2) := by decide +kernel
theorem dX8_readOrder_146 : decode cX8_readOrder 146 = .ok (.if_icmp .ne 7, 3) := by decide +kernel
theorem dX8_readOrder_149 : decode cX8_readOrder 149 = .ok (.iconst 1, 1) := by decide +kernel
theorem dX8_readOrder_150 : decode cX8_readOrder 150 = .ok (.goto 4, 3) := by decide +kernel
theorem dX8_readOrder_153 : decode cX8_readOrder 153 = .ok (.iconst 0, 1) := by decide +kernel
theorem dX8_readOrder_154 : decode cX8_readOrder 154 = .ok (.invokevirtual 201, 3) := by decide +kernel
theorem dX8_readOrder_157 : decode cX8_readOrder 157 = .ok (.aload_n 0, 1) := by decide +kernel
theorem dX8_readOrder_158 : decode cX8_readOrder 158 = .ok (.getfield 33, 3) := by decide +kernel
theorem dX8_readOrder_161 : decode cX8_readOrder 161 = .ok (.iload_n 1, 1) := by decide +kernel
theorem dX8_readOrder_162 : decode cX8_readOrder 162 = .ok (.iconst 3, 1) := by decide +kernel
theorem dX8_readOrder_163 : decode cX8_readOrder 163 = .ok (.iadd, 1) := by decide +kernel
theorem dX8_readOrder_164 : decode cX8_readOrder 164 = .ok (.aload_n 0, 1) := by decide +kernel
theorem dX8_readOrder_165 : decode cX8_readOrder 165 = .ok (.invokevirtual 217, 3) := by decide +kernel
theorem dX8_readOrder_168 : decode cX8_readOrder 168 = .ok (.iastore, 1) := by decide +kernel
theorem dX8_readOrder_169 : decode cX8_readOrder 169 = .ok (.goto 45, 3) := by decide +kernel
theorem dX8_readOrder_172 : decode cX8_readOrder 172 = .ok (.aload_n 0, 1) := by decide +kernel
theorem dX8_readOrder_173 : decode cX8_readOrder 173 = .ok (.getfield 33, 3) := by decide +kernel
theorem dX8_readOrder_176 : decode cX8_readOrder 176 = .ok (.iload_n 1, 1) := by decide +kernel
theorem dX8_readOrder_177 : decode cX8_readOrder 177 = .ok (.iconst 1, 1) := by decide +kernel
theorem dX8_readOrder_178 : decode cX8_readOrder 178 = .ok (.iadd, 1) := by decide +kernel
theorem dX8_readOrder_179 : decode cX8_readOrder 179 = .ok (.aload_n 0, 1) := by decide +kernel
theorem dX8_readOrder_180 : decode cX8_readOrder 180 = .ok (.invokevirtual 208, 3) := by decide +kernel
theorem dX8_readOrder_183 : decode cX8_readOrder 183 = .ok (.iastore, 1) := by decide +kernel
theorem dX8_readOrder_184 : decode cX8_readOrder 184 = .ok (.goto 30, 3) := by decide +kernel
theorem dX8_readOrder_187 : decode cX8_readOrder 187 = .ok (.aload_n 0, 1) := by decide +kernel
theorem dX8_readOrder_188 : decode cX8_readOrder 188 = .ok (.getfield 33, 3) := by decide +kernel
theorem dX8_readOrder_191 : decode cX8_readOrder 191 = .ok (.iload_n 1, 1) := by decide +kernel
theorem dX8_readOrder_192 : decode cX8_readOrder 192 = .ok (.iconst 1, 1) := by decide +kernel
theorem dX8_readOrder_193 : decode cX8_readOrder 193 = .ok (.iadd, 1) := by decide +kernel
theorem dX8_readOrder_194 : decode cX8_readOrder 194 = .ok (.aload_n 0, 1) := by decide +kernel
theorem dX8_readOrder_195 : decode cX8_readOrder 195 = .ok (.invokevirtual 205, 3) := by decide +kernel
theorem dX8_readOrder_198 : decode cX8_readOrder 198 = .ok (.iastore, 1) := by decide +kernel
theorem dX8_readOrder_199 : decode cX8_readOrder 199 = .ok (.goto 15, 3) := by decide +kernel
theorem dX8_readOrder_202 : decode cX8_readOrder 202 = .ok (.aload_n 0, 1) := by decide +kernel
theorem dX8_readOrder_203 : decode cX8_readOrder 203 = .ok (.getfield 33, 3) := by decide +kernel
theorem dX8_readOrder_206 : decode cX8_readOrder 206 = .ok (.iload_n 1, 1) := by decide +kernel
theorem dX8_readOrder_207 : decode cX8_readOrder 207 = .ok (.iconst 1, 1) := by decide +kernel
theorem dX8_readOrder_208 : decode cX8_readOrder 208 = .ok (.iadd, 1) := by decide +kernel
theorem dX8_readOrder_209 : decode cX8_readOrder 209 = .ok (.aload_n 0, 1) := by decide +kernel
theorem dX8_readOrder_210 : decode cX8_readOrder 210 = .ok (.invokevirtual 217, 3) := by decide +kernel
theorem dX8_readOrder_213 : decode cX8_readOrder 213 = .ok (.iastore, 1) := by decide +kernel
theorem dX8_readOrder_214 : decode cX8_readOrder 214 = .ok (.aload_n 0, 1) := by decide +kernel
theorem dX8_readOrder_215 : decode cX8_readOrder 215 = .ok (.dup, 1) := by decide +kernel
theorem dX8_readOrder_216 : decode cX8_readOrder 216 = .ok (.getfield 211, 3) := by decide +kernel
theorem dX8_readOrder_219 : decode cX8_readOrder 219 = .ok (.iconst 1, 1) := by decide +kernel
theorem dX8_readOrder_220 : decode cX8_readOrder 220 = .ok (.iadd, 1) := by decide +kernel
theorem dX8_readOrder_221 : decode cX8_readOrder 221 = .ok (.putfield 211, 3) := by decide +kernel
theorem dX8_readOrder_224 : decode cX8_readOrder 224 = .ok (.return_, 1) := by decide +kernel
theorem dX8_readPad_0 : decode cX8_readPad 0 = .ok (.aload_n 0, 1) := by decide +kernel
theorem dX8_readPad_1 : decode cX8_readPad 1 = .ok (.iconst 0, 1) := by decide +kernel
theorem dX8_readPad_2 : decode cX8_readPad 2 = .ok (.putfield 211, 3) := by decide +kernel
theorem dX8_readPad_5 : decode cX8_readPad 5 = .ok (.aload_n 0, 1) := by decide +kernel
theorem dX8_readPad_6 : decode cX8_readPad 6 = .ok (.iconst 0, 1) := by decide +kernel
theorem dX8_readPad_7 : decode cX8_readPad 7 = .ok (.putfield 192, 3) := by decide +kernel
theorem dX8_readPad_10 : decode cX8_readPad 10 = .ok (.aload_n 0, 1) := by decide +kernel
theorem dX8_readPad_11 : decode cX8_readPad 11 = .ok (.bipush (-6), 2) := by decide +kernel
theorem dX8_readPad_13 : decode cX8_readPad 13 = .ok (.putfield 195, 3) := by decide +kernel
theorem dX8_readPad_16 : decode cX8_readPad 16 = .ok (.iconst 1, 1) := by decide +kernel
theorem dX8_readPad_17 : decode cX8_readPad 17 = .ok (.istore_n 1, 1) := by decide +kernel
theorem dX8_readPad_18 : decode cX8_readPad 18 = .ok (.iload_n 1, 1) := by decide +kernel
theorem dX8_readPad_19 : decode cX8_readPad 19 = .ok (.ifCond .eq 73, 3) := by decide +kernel
theorem dX8_readPad_22 : decode cX8_readPad 22 = .ok (.aload_n 0, 1) := by decide +kernel
theorem dX8_readPad_23 : decode cX8_readPad 23 = .ok (.invokevirtual 220, 3) := by decide +kernel
theorem dX8_readPad_26 : decode cX8_readPad 26 = .ok (.aload_n 0, 1) := by decide +kernel
theorem dX8_readPad_27 : decode cX8_readPad 27 = .ok (.getfield 195, 3) := by decide +kernel
theorem dX8_readPad_30 : decode cX8_readPad 30 = .ok (.bipush (-6), 2) := by decide +kernel
theorem dX8_readPad_32 : decode cX8_readPad 32 = .ok (.if_icmp .ne 18, 3) := by decide +kernel
theorem dX8_readPad_35 : decode cX8_readPad 35 = .ok (.aload_n 0, 1) := by decide +kernel
theorem dX8_readPad_36 : decode cX8_readPad 36 = .ok (.getfield 192, 3) := by decide +kernel
theorem dX8_readPad_39 : decode cX8_readPad 39 = .ok (.aload_n 0, 1) := by decide +kernel
theorem dX8_readPad_40 : decode cX8_readPad 40 = .ok (.getfield 183, 3) := by decide +kernel
theorem dX8_readPad_43 : decode cX8_readPad 43 = .ok (.if_icmp .ge 7, 3) := by decide +kernel
theorem dX8_readPad_46 : decode cX8_readPad 46 = .ok (.iconst 1, 1) := by decide +kernel
theorem dX8_readPad_47 : decode cX8_readPad 47 = .ok (.goto 4, 3) := by decide +kernel
theorem dX8_readPad_50 : decode cX8_readPad 50 = .ok (.iconst 0, 1) := by decide +kernel
theorem dX8_readPad_51 : decode cX8_readPad 51 = .ok (.istore_n 1, 1) := by decide +kernel
theorem dX8_readPad_52 : decode cX8_readPad 52 = .ok (.iload_n 1, 1) := by decide +kernel
theorem dX8_readPad_53 : decode cX8_readPad 53 = .ok (.ifCond .eq (-35), 3) := by decide +kernel
theorem dX8_readPad_56 : decode cX8_readPad 56 = .ok (.aload_n 0, 1) := by decide +kernel
theorem dX8_readPad_57 : decode cX8_readPad 57 = .ok (.aload_n 0, 1) := by decide +kernel
theorem dX8_readPad_58 : decode cX8_readPad 58 = .ok (.invokevirtual 198, 3) := by decide +kernel
theorem dX8_readPad_61 : decode cX8_readPad 61 = .ok (.bipush 59, 2) := by decide +kernel
theorem dX8_readPad_63 : decode cX8_readPad 63 = .ok (.if_icmp .ne 7, 3) := by decide +kernel
theorem dX8_readPad_66 : decode cX8_readPad 66 = .ok (.iconst 1, 1) := by decide +kernel
theorem dX8_readPad_67 : decode cX8_readPad 67 = .ok (.goto 4, 3) := by decide +kernel
theorem dX8_readPad_70 : decode cX8_readPad 70 = .ok (.iconst 0, 1) := by decide +kernel
theorem dX8_readPad_71 : decode cX8_readPad 71 = .ok (.invokevirtual 201, 3) := by decide +kernel
theorem dX8_readPad_74 : decode cX8_readPad 74 = .ok (.aload_n 0, 1) := by decide +kernel
theorem dX8_readPad_75 : decode cX8_readPad 75 = .ok (.getfield 195, 3) := by decide +kernel
theorem dX8_readPad_78 : decode cX8_readPad 78 = .ok (.bipush (-6), 2) := by decide +kernel
theorem dX8_readPad_80 : decode cX8_readPad 80 = .ok (.if_icmp .ne 7, 3) := by decide +kernel
theorem dX8_readPad_83 : decode cX8_readPad 83 = .ok (.iconst 1, 1) := by decide +kernel
theorem dX8_readPad_84 : decode cX8_readPad 84 = .ok (.goto 4, 3) := by decide +kernel
theorem dX8_readPad_87 : decode cX8_readPad 87 = .ok (.iconst 0, 1) := by decide +kernel
theorem dX8_readPad_88 : decode cX8_readPad 88 = .ok (.istore_n 1, 1) := by decide +kernel
theorem dX8_readPad_89 : decode cX8_readPad 89 = .ok (.goto (-71), 3) := by decide +kernel
theorem dX8_readPad_92 : decode cX8_readPad 92 = .ok (.aload_n 0, 1) := by decide +kernel
theorem dX8_readPad_93 : decode cX8_readPad 93 = .ok (.getfield 195, 3) := by decide +kernel
theorem dX8_readPad_96 : decode cX8_readPad 96 = .ok (.ireturn, 1) := by decide +kernel
theorem dX8_fault_0 : decode cX8_fault 0 = .ok (.aload_n 0, 1) := by decide +kernel
theorem dX8_fault_1 : decode cX8_fault 1 = .ok (.invokevirtual 223, 3) := by decide +kernel
theorem dX8_fault_4 : decode cX8_fault 4 = .ok (.ireturn, 1) := by decide +kernel
theorem dX8_whyNot_0 : decode cX8_whyNot 0 = .ok (.aload_n 0, 1) := by decide +kernel
theorem dX8_whyNot_1 : decode cX8_whyNot 1 = .ok (.getfield 33, 3) := by decide +kernel
theorem dX8_whyNot_4 : decode cX8_whyNot 4 = .ok (.iload_n 1, 1) := by decide +kernel
theorem dX8_whyNot_5 : decode cX8_whyNot 5 = .ok (.iconst 1, 1) := by decide +kernel
theorem dX8_whyNot_6 : decode cX8_whyNot 6 = .ok (.iadd, 1) := by decide +kernel
theorem dX8_whyNot_7 : decode cX8_whyNot 7 = .ok (.iaload, 1) := by decide +kernel
theorem dX8_whyNot_8 : decode cX8_whyNot 8 = .ok (.istore_n 2, 1) := by decide +kernel
theorem dX8_whyNot_9 : decode cX8_whyNot 9 = .ok (.aload_n 0, 1) := by decide +kernel
theorem dX8_whyNot_10 : decode cX8_whyNot 10 = .ok (.getfield 33, 3) := by decide +kernel
theorem dX8_whyNot_13 : decode cX8_whyNot 13 = .ok (.iload_n 1, 1) := by decide +kernel
theorem dX8_whyNot_14 : decode cX8_whyNot 14 = .ok (.iaload, 1) := by decide +kernel
theorem dX8_whyNot_15 : decode cX8_whyNot 15 = .ok (.lookupswitch 81 #[(33, 69), (115, 41), (119, 47), (122, 75)], 41) := by decide +kernel
theorem dX8_whyNot_56 : decode cX8_whyNot 56 = .ok (.aload_n 0, 1) := by decide +kernel
theorem dX8_whyNot_57 : decode cX8_whyNot 57 = .ok (.iload_n 2, 1) := by decide +kernel
theorem dX8_whyNot_58 : decode cX8_whyNot 58 = .ok (.invokevirtual 59, 3) := by decide +kernel
theorem dX8_whyNot_61 : decode cX8_whyNot 61 = .ok (.ireturn, 1) := by decide +kernel
theorem dX8_whyNot_62 : decode cX8_whyNot 62 = .ok (.aload_n 0, 1) := by decide +kernel
theorem dX8_whyNot_63 : decode cX8_whyNot 63 = .ok (.iload_n 2, 1) := by decide +kernel
theorem dX8_whyNot_64 : decode cX8_whyNot 64 = .ok (.aload_n 0, 1) := by decide +kernel
theorem dX8_whyNot_65 : decode cX8_whyNot 65 = .ok (.getfield 33, 3) := by decide +kernel
theorem dX8_whyNot_68 : decode cX8_whyNot 68 = .ok (.iload_n 1, 1) := by decide +kernel
theorem dX8_whyNot_69 : decode cX8_whyNot 69 = .ok (.iconst 2, 1) := by decide +kernel
theorem dX8_whyNot_70 : decode cX8_whyNot 70 = .ok (.iadd, 1) := by decide +kernel
theorem dX8_whyNot_71 : decode cX8_whyNot 71 = .ok (.iaload, 1) := by decide +kernel
theorem dX8_whyNot_72 : decode cX8_whyNot 72 = .ok (.aload_n 0, 1) := by decide +kernel
theorem dX8_whyNot_73 : decode cX8_whyNot 73 = .ok (.getfield 33, 3) := by decide +kernel
theorem dX8_whyNot_76 : decode cX8_whyNot 76 = .ok (.iload_n 1, 1) := by decide +kernel
theorem dX8_whyNot_77 : decode cX8_whyNot 77 = .ok (.iconst 3, 1) := by decide +kernel
theorem dX8_whyNot_78 : decode cX8_whyNot 78 = .ok (.iadd, 1) := by decide +kernel
theorem dX8_whyNot_79 : decode cX8_whyNot 79 = .ok (.iaload, 1) := by decide +kernel
theorem dX8_whyNot_80 : decode cX8_whyNot 80 = .ok (.invokevirtual 79, 3) := by decide +kernel
theorem dX8_whyNot_83 : decode cX8_whyNot 83 = .ok (.ireturn, 1) := by decide +kernel
theorem dX8_whyNot_84 : decode cX8_whyNot 84 = .ok (.aload_n 0, 1) := by decide +kernel
theorem dX8_whyNot_85 : decode cX8_whyNot 85 = .ok (.iload_n 2, 1) := by decide +kernel
theorem dX8_whyNot_86 : decode cX8_whyNot 86 = .ok (.invokevirtual 103, 3) := by decide +kernel
theorem dX8_whyNot_89 : decode cX8_whyNot 89 = .ok (.ireturn, 1) := by decide +kernel
theorem dX8_whyNot_90 : decode cX8_whyNot 90 = .ok (.aload_n 0, 1) := by decide +kernel
theorem dX8_whyNot_91 : decode cX8_whyNot 91 = .ok (.iload_n 2, 1) := by decide +kernel
theorem dX8_whyNot_92 : decode cX8_whyNot 92 = .ok (.invokevirtual 115, 3) := by decide +kernel
theorem dX8_whyNot_95 : decode cX8_whyNot 95 = .ok (.ireturn, 1) := by decide +kernel
theorem dX8_whyNot_96 : decode cX8_whyNot 96 = .ok (.aload_n 0, 1) := by decide +kernel
theorem dX8_whyNot_97 : decode cX8_whyNot 97 = .ok (.iload_n 2, 1) := by decide +kernel
theorem dX8_whyNot_98 : decode cX8_whyNot 98 = .ok (.invokevirtual 156, 3) := by decide +kernel
theorem dX8_whyNot_101 : decode cX8_whyNot 101 = .ok (.ireturn, 1) := by decide +kernel
theorem dX8_does_0 : decode cX8_does 0 = .ok (.aload_n 0, 1) := by decide +kernel
theorem dX8_does_1 : decode cX8_does 1 = .ok (.getfield 33, 3) := by decide +kernel
theorem dX8_does_4 : decode cX8_does 4 = .ok (.iload_n 1, 1) := by decide +kernel
theorem dX8_does_5 : decode cX8_does 5 = .ok (.iconst 1, 1) := by decide +kernel
theorem dX8_does_6 : decode cX8_does 6 = .ok (.iadd, 1) := by decide +kernel
theorem dX8_does_7 : decode cX8_does 7 = .ok (.iaload, 1) := by decide +kernel
theorem dX8_does_8 : decode cX8_does 8 = .ok (.istore_n 2, 1) := by decide +kernel
theorem dX8_does_9 : decode cX8_does 9 = .ok (.aload_n 0, 1) := by decide +kernel
theorem dX8_does_10 : decode cX8_does 10 = .ok (.getfield 33, 3) := by decide +kernel
theorem dX8_does_13 : decode cX8_does 13 = .ok (.iload_n 1, 1) := by decide +kernel
theorem dX8_does_14 : decode cX8_does 14 = .ok (.iaload, 1) := by decide +kernel
theorem dX8_does_15 : decode cX8_does 15 = .ok (.lookupswitch 93 #[(33, 75), (115, 41), (119, 50), (122, 84)], 41) := by decide +kernel
theorem dX8_does_56 : decode cX8_does 56 = .ok (.aload_n 0, 1) := by decide +kernel
theorem dX8_does_57 : decode cX8_does 57 = .ok (.iload_n 2, 1) := by decide +kernel
theorem dX8_does_58 : decode cX8_does 58 = .ok (.invokevirtual 63, 3) := by decide +kernel
theorem dX8_does_61 : decode cX8_does 61 = .ok (.pop, 1) := by decide +kernel
theorem dX8_does_62 : decode cX8_does 62 = .ok (.goto 52, 3) := by decide +kernel
theorem dX8_does_65 : decode cX8_does 65 = .ok (.aload_n 0, 1) := by decide +kernel
theorem dX8_does_66 : decode cX8_does 66 = .ok (.iload_n 2, 1) := by decide +kernel
theorem dX8_does_67 : decode cX8_does 67 = .ok (.aload_n 0, 1) := by decide +kernel
theorem dX8_does_68 : decode cX8_does 68 = .ok (.getfield 33, 3) := by decide +kernel
theorem dX8_does_71 : decode cX8_does 71 = .ok (.iload_n 1, 1) := by decide +kernel
theorem dX8_does_72 : decode cX8_does 72 = .ok (.iconst 2, 1) := by decide +kernel
theorem dX8_does_73 : decode cX8_does 73 = .ok (.iadd, 1) := by decide +kernel
theorem dX8_does_74 : decode cX8_does 74 = .ok (.iaload, 1) := by decide +kernel
theorem dX8_does_75 : decode cX8_does 75 = .ok (.aload_n 0, 1) := by decide +kernel
theorem dX8_does_76 : decode cX8_does 76 = .ok (.getfield 33, 3) := by decide +kernel
theorem dX8_does_79 : decode cX8_does 79 = .ok (.iload_n 1, 1) := by decide +kernel
theorem dX8_does_80 : decode cX8_does 80 = .ok (.iconst 3, 1) := by decide +kernel
theorem dX8_does_81 : decode cX8_does 81 = .ok (.iadd, 1) := by decide +kernel
theorem dX8_does_82 : decode cX8_does 82 = .ok (.iaload, 1) := by decide +kernel
theorem dX8_does_83 : decode cX8_does 83 = .ok (.invokevirtual 83, 3) := by decide +kernel
theorem dX8_does_86 : decode cX8_does 86 = .ok (.pop, 1) := by decide +kernel
theorem dX8_does_87 : decode cX8_does 87 = .ok (.goto 27, 3) := by decide +kernel
theorem dX8_does_90 : decode cX8_does 90 = .ok (.aload_n 0, 1) := by decide +kernel
theorem dX8_does_91 : decode cX8_does 91 = .ok (.iload_n 2, 1) := by decide +kernel
theorem dX8_does_92 : decode cX8_does 92 = .ok (.invokevirtual 106, 3) := by decide +kernel
theorem dX8_does_95 : decode cX8_does 95 = .ok (.pop, 1) := by decide +kernel
theorem dX8_does_96 : decode cX8_does 96 = .ok (.goto 18, 3) := by decide +kernel
theorem dX8_does_99 : decode cX8_does 99 = .ok (.aload_n 0, 1) := by decide +kernel
theorem dX8_does_100 : decode cX8_does 100 = .ok (.iload_n 2, 1) := by decide +kernel
theorem dX8_does_101 : decode cX8_does 101 = .ok (.invokevirtual 118, 3) := by decide +kernel
theorem dX8_does_104 : decode cX8_does 104 = .ok (.pop, 1) := by decide +kernel
theorem dX8_does_105 : decode cX8_does 105 = .ok (.goto 9, 3) := by decide +kernel
theorem dX8_does_108 : decode cX8_does 108 = .ok (.aload_n 0, 1) := by decide +kernel
theorem dX8_does_109 : decode cX8_does 109 = .ok (.iload_n 2, 1) := by decide +kernel
theorem dX8_does_110 : decode cX8_does 110 = .ok (.invokevirtual 159, 3) := by decide +kernel
theorem dX8_does_113 : decode cX8_does 113 = .ok (.pop, 1) := by decide +kernel
theorem dX8_does_114 : decode cX8_does 114 = .ok (.return_, 1) := by decide +kernel
theorem dX8_carryOut_0 : decode cX8_carryOut 0 = .ok (.aload_n 0, 1) := by decide +kernel
theorem dX8_carryOut_1 : decode cX8_carryOut 1 = .ok (.invokevirtual 223, 3) := by decide +kernel
theorem dX8_carryOut_4 : decode cX8_carryOut 4 = .ok (.bipush (-6), 2) := by decide +kernel
theorem dX8_carryOut_6 : decode cX8_carryOut 6 = .ok (.if_icmp .eq 6, 3) := by decide +kernel
theorem dX8_carryOut_9 : decode cX8_carryOut 9 = .ok (.bipush (-3), 2) := by decide +kernel
theorem dX8_carryOut_11 : decode cX8_carryOut 11 = .ok (.ireturn, 1) := by decide +kernel
theorem dX8_carryOut_12 : decode cX8_carryOut 12 = .ok (.aload_n 0, 1) := by decide +kernel
theorem dX8_carryOut_13 : decode cX8_carryOut 13 = .ok (.invokevirtual 48, 3) := by decide +kernel
theorem dX8_carryOut_16 : decode cX8_carryOut 16 = .ok (.iconst 0, 1) := by decide +kernel
theorem dX8_carryOut_17 : decode cX8_carryOut 17 = .ok (.istore_n 1, 1) := by decide +kernel
theorem dX8_carryOut_18 : decode cX8_carryOut 18 = .ok (.iload_n 1, 1) := by decide +kernel
theorem dX8_carryOut_19 : decode cX8_carryOut 19 = .ok (.aload_n 0, 1) := by decide +kernel
theorem dX8_carryOut_20 : decode cX8_carryOut 20 = .ok (.getfield 211, 3) := by decide +kernel
theorem dX8_carryOut_23 : decode cX8_carryOut 23 = .ok (.if_icmp .ge 26, 3) := by decide +kernel
theorem dX8_carryOut_26 : decode cX8_carryOut 26 = .ok (.aload_n 0, 1) := by decide +kernel
theorem dX8_carryOut_27 : decode cX8_carryOut 27 = .ok (.iconst 4, 1) := by decide +kernel
theorem dX8_carryOut_28 : decode cX8_carryOut 28 = .ok (.iload_n 1, 1) := by decide +kernel
theorem dX8_carryOut_29 : decode cX8_carryOut 29 = .ok (.imul, 1) := by decide +kernel
theorem dX8_carryOut_30 : decode cX8_carryOut 30 = .ok (.invokevirtual 226, 3) := by decide +kernel
theorem dX8_carryOut_33 : decode cX8_carryOut 33 = .ok (.ifCond .ne 16, 3) := by decide +kernel
theorem dX8_carryOut_36 : decode cX8_carryOut 36 = .ok (.aload_n 0, 1) := by decide +kernel
theorem dX8_carryOut_37 : decode cX8_carryOut 37 = .ok (.iconst 4, 1) := by decide +kernel
theorem dX8_carryOut_38 : decode cX8_carryOut 38 = .ok (.iload_n 1, 1) := by decide +kernel
theorem dX8_carryOut_39 : decode cX8_carryOut 39 = .ok (.imul, 1) := by decide +kernel
theorem dX8_carryOut_40 : decode cX8_carryOut 40 = .ok (.invokevirtual 229, 3) := by decide +kernel
theorem dX8_carryOut_43 : decode cX8_carryOut 43 = .ok (.iinc 1 1, 3) := by decide +kernel
theorem dX8_carryOut_46 : decode cX8_carryOut 46 = .ok (.goto (-28), 3) := by decide +kernel
theorem dX8_carryOut_49 : decode cX8_carryOut 49 = .ok (.aload_n 0, 1) := by decide +kernel
theorem dX8_carryOut_50 : decode cX8_carryOut 50 = .ok (.iconst 0, 1) := by decide +kernel
theorem dX8_carryOut_51 : decode cX8_carryOut 51 = .ok (.putfield 183, 3) := by decide +kernel
theorem dX8_carryOut_54 : decode cX8_carryOut 54 = .ok (.iload_n 1, 1) := by decide +kernel
theorem dX8_carryOut_55 : decode cX8_carryOut 55 = .ok (.ireturn, 1) := by decide +kernel
theorem dX8_put_0 : decode cX8_put 0 = .ok (.iconst 0, 1) := by decide +kernel
theorem dX8_put_1 : decode cX8_put 1 = .ok (.istore_n 3, 1) := by decide +kernel
theorem dX8_put_2 : decode cX8_put 2 = .ok (.lload_n 1, 1) := by decide +kernel
theorem dX8_put_3 : decode cX8_put 3 = .ok (.lstore 4, 2) := by decide +kernel
theorem dX8_put_5 : decode cX8_put 5 = .ok (.iconst 1, 1) := by decide +kernel
theorem dX8_put_6 : decode cX8_put 6 = .ok (.istore 6, 2) := by decide +kernel
theorem dX8_put_8 : decode cX8_put 8 = .ok (.lload 4, 2) := by decide +kernel
theorem dX8_put_10 : decode cX8_put 10 = .ok (.lconst 0, 1) := by decide +kernel
theorem dX8_put_11 : decode cX8_put 11 = .ok (.lcmp, 1) := by decide +kernel
theorem dX8_put_12 : decode cX8_put 12 = .ok (.ifCond .eq 37, 3) := by decide +kernel
theorem dX8_put_15 : decode cX8_put 15 = .ok (.iload 6, 2) := by decide +kernel
theorem dX8_put_17 : decode cX8_put 17 = .ok (.ifCond .eq 32, 3) := by decide +kernel
theorem dX8_put_20 : decode cX8_put 20 = .ok (.lload 4, 2) := by decide +kernel
theorem dX8_put_22 : decode cX8_put 22 = .ok (.ldc2_w 232, 3) := by decide +kernel
theorem dX8_put_25 : decode cX8_put 25 = .ok (.land, 1) := by decide +kernel
theorem dX8_put_26 : decode cX8_put 26 = .ok (.l2i, 1) := by decide +kernel
theorem dX8_put_27 : decode cX8_put 27 = .ok (.bipush 33, 2) := by decide +kernel
theorem dX8_put_29 : decode cX8_put 29 = .ok (.bipush 126, 2) := by decide +kernel
theorem dX8_put_31 : decode cX8_put 31 = .ok (.invokestatic 36, 3) := by decide +kernel
theorem dX8_put_34 : decode cX8_put 34 = .ok (.istore 6, 2) := by decide +kernel
theorem dX8_put_36 : decode cX8_put 36 = .ok (.lload 4, 2) := by decide +kernel
theorem dX8_put_38 : decode cX8_put 38 = .ok (.bipush 8, 2) := by decide +kernel
theorem dX8_put_40 : decode cX8_put 40 = .ok (.lushr, 1) := by decide +kernel
theorem dX8_put_41 : decode cX8_put 41 = .ok (.lstore 4, 2) := by decide +kernel
theorem dX8_put_43 : decode cX8_put 43 = .ok (.iinc 3 1, 3) := by decide +kernel
theorem dX8_put_46 : decode cX8_put 46 = .ok (.goto (-38), 3) := by decide +kernel
theorem dX8_put_49 : decode cX8_put 49 = .ok (.iload_n 3, 1) := by decide +kernel
theorem dX8_put_50 : decode cX8_put 50 = .ok (.ifCond .eq 8, 3) := by decide +kernel
theorem dX8_put_53 : decode cX8_put 53 = .ok (.iload 6, 2) := by decide +kernel
theorem dX8_put_55 : decode cX8_put 55 = .ok (.ifCond .ne 6, 3) := by decide +kernel
theorem dX8_put_58 : decode cX8_put 58 = .ok (.bipush (-2), 2) := by decide +kernel
theorem dX8_put_60 : decode cX8_put 60 = .ok (.ireturn, 1) := by decide +kernel
theorem dX8_put_61 : decode cX8_put 61 = .ok (.aload_n 0, 1) := by decide +kernel
theorem dX8_put_62 : decode cX8_put 62 = .ok (.getfield 183, 3) := by decide +kernel
theorem dX8_put_65 : decode cX8_put 65 = .ok (.iload_n 3, 1) := by decide +kernel
theorem dX8_put_66 : decode cX8_put 66 = .ok (.iadd, 1) := by decide +kernel
theorem dX8_put_67 : decode cX8_put 67 = .ok (.bipush 80, 2) := by decide +kernel
theorem dX8_put_69 : decode cX8_put 69 = .ok (.if_icmp .le 6, 3) := by decide +kernel
theorem dX8_put_72 : decode cX8_put 72 = .ok (.bipush (-4), 2) := by decide +kernel
theorem dX8_put_74 : decode cX8_put 74 = .ok (.ireturn, 1) := by decide +kernel
theorem dX8_put_75 : decode cX8_put 75 = .ok (.iload_n 3, 1) := by decide +kernel
theorem dX8_put_76 : decode cX8_put 76 = .ok (.iconst 1, 1) := by decide +kernel
theorem dX8_put_77 : decode cX8_put 77 = .ok (.isub, 1) := by decide +kernel
theorem dX8_put_78 : decode cX8_put 78 = .ok (.istore 7, 2) := by decide +kernel
theorem dX8_put_80 : decode cX8_put 80 = .ok (.iload 7, 2) := by decide +kernel
theorem dX8_put_82 : decode cX8_put 82 = .ok (.ifCond .lt 41, 3) := by decide +kernel
theorem dX8_put_85 : decode cX8_put 85 = .ok (.aload_n 0, 1) := by decide +kernel
theorem dX8_put_86 : decode cX8_put 86 = .ok (.getfield 26, 3) := by decide +kernel
theorem dX8_put_89 : decode cX8_put 89 = .ok (.aload_n 0, 1) := by decide +kernel
theorem dX8_put_90 : decode cX8_put 90 = .ok (.getfield 183, 3) := by decide +kernel
theorem dX8_put_93 : decode cX8_put 93 = .ok (.lload_n 1, 1) := by decide +kernel
theorem dX8_put_94 : decode cX8_put 94 = .ok (.bipush 8, 2) := by decide +kernel
theorem dX8_put_96 : decode cX8_put 96 = .ok (.iload 7, 2) := by decide +kernel
theorem dX8_put_98 : decode cX8_put 98 = .ok (.imul, 1) := by decide +kernel
theorem dX8_put_99 : decode cX8_put 99 = .ok (.lushr, 1) := by decide +kernel
theorem dX8_put_100 : decode cX8_put 100 = .ok (.ldc2_w 232, 3) := by decide +kernel
theorem dX8_put_103 : decode cX8_put 103 = .ok (.land, 1) := by decide +kernel
theorem dX8_put_104 : decode cX8_put 104 = .ok (.l2i, 1) := by decide +kernel
theorem dX8_put_105 : decode cX8_put 105 = .ok (.i2c, 1) := by decide +kernel
theorem dX8_put_106 : decode cX8_put 106 = .ok (.castore, 1) := by decide +kernel
theorem dX8_put_107 : decode cX8_put 107 = .ok (.aload_n 0, 1) := by decide +kernel
theorem dX8_put_108 : decode cX8_put 108 = .ok (.dup, 1) := by decide +kernel
theorem dX8_put_109 : decode cX8_put 109 = .ok (.getfield 183, 3) := by decide +kernel
theorem dX8_put_112 : decode cX8_put 112 = .ok (.iconst 1, 1) := by decide +kernel
theorem dX8_put_113 : decode cX8_put 113 = .ok (.iadd, 1) := by decide +kernel
theorem dX8_put_114 : decode cX8_put 114 = .ok (.putfield 183, 3) := by decide +kernel
theorem dX8_put_117 : decode cX8_put 117 = .ok (.iinc 7 (-1), 3) := by decide +kernel
theorem dX8_put_120 : decode cX8_put 120 = .ok (.goto (-40), 3) := by decide +kernel
theorem dX8_put_123 : decode cX8_put 123 = .ok (.aload_n 0, 1) := by decide +kernel
theorem dX8_put_124 : decode cX8_put 124 = .ok (.getfield 183, 3) := by decide +kernel
theorem dX8_put_127 : decode cX8_put 127 = .ok (.ireturn, 1) := by decide +kernel
theorem dX8_wipe_0 : decode cX8_wipe 0 = .ok (.aload_n 0, 1) := by decide +kernel
theorem dX8_wipe_1 : decode cX8_wipe 1 = .ok (.getfield 183, 3) := by decide +kernel
theorem dX8_wipe_4 : decode cX8_wipe 4 = .ok (.istore_n 1, 1) := by decide +kernel
theorem dX8_wipe_5 : decode cX8_wipe 5 = .ok (.aload_n 0, 1) := by decide +kernel
theorem dX8_wipe_6 : decode cX8_wipe 6 = .ok (.iconst 0, 1) := by decide +kernel
theorem dX8_wipe_7 : decode cX8_wipe 7 = .ok (.putfield 183, 3) := by decide +kernel
theorem dX8_wipe_10 : decode cX8_wipe 10 = .ok (.iload_n 1, 1) := by decide +kernel
theorem dX8_wipe_11 : decode cX8_wipe 11 = .ok (.ireturn, 1) := by decide +kernel
theorem dJ6_bitCount_0f7a4_0 : decode cJ6_bitCount_0f7a4 0 = .ok (.iload_n 0, 1) := by decide +kernel
theorem dJ6_bitCount_0f7a4_1 : decode cJ6_bitCount_0f7a4 1 = .ok (.iload_n 0, 1) := by decide +kernel
theorem dJ6_bitCount_0f7a4_2 : decode cJ6_bitCount_0f7a4 2 = .ok (.iconst 1, 1) := by decide +kernel
theorem dJ6_bitCount_0f7a4_3 : decode cJ6_bitCount_0f7a4 3 = .ok (.iushr, 1) := by decide +kernel
theorem dJ6_bitCount_0f7a4_4 : decode cJ6_bitCount_0f7a4 4 = .ok (.ldc_w 265, 3) := by decide +kernel
theorem dJ6_bitCount_0f7a4_7 : decode cJ6_bitCount_0f7a4 7 = .ok (.iand, 1) := by decide +kernel
theorem dJ6_bitCount_0f7a4_8 : decode cJ6_bitCount_0f7a4 8 = .ok (.isub, 1) := by decide +kernel
theorem dJ6_bitCount_0f7a4_9 : decode cJ6_bitCount_0f7a4 9 = .ok (.istore_n 0, 1) := by decide +kernel
theorem dJ6_bitCount_0f7a4_10 : decode cJ6_bitCount_0f7a4 10 = .ok (.iload_n 0, 1) := by decide +kernel
theorem dJ6_bitCount_0f7a4_11 : decode cJ6_bitCount_0f7a4 11 = .ok (.ldc_w 266, 3) := by decide +kernel
theorem dJ6_bitCount_0f7a4_14 : decode cJ6_bitCount_0f7a4 14 = .ok (.iand, 1) := by decide +kernel
theorem dJ6_bitCount_0f7a4_15 : decode cJ6_bitCount_0f7a4 15 = .ok (.iload_n 0, 1) := by decide +kernel
theorem dJ6_bitCount_0f7a4_16 : decode cJ6_bitCount_0f7a4 16 = .ok (.iconst 2, 1) := by decide +kernel
theorem dJ6_bitCount_0f7a4_17 : decode cJ6_bitCount_0f7a4 17 = .ok (.iushr, 1) := by decide +kernel
theorem dJ6_bitCount_0f7a4_18 : decode cJ6_bitCount_0f7a4 18 = .ok (.ldc_w 266, 3) := by decide +kernel
theorem dJ6_bitCount_0f7a4_21 : decode cJ6_bitCount_0f7a4 21 = .ok (.iand, 1) := by decide +kernel
theorem dJ6_bitCount_0f7a4_22 : decode cJ6_bitCount_0f7a4 22 = .ok (.iadd, 1) := by decide +kernel
theorem dJ6_bitCount_0f7a4_23 : decode cJ6_bitCount_0f7a4 23 = .ok (.istore_n 0, 1) := by decide +kernel
theorem dJ6_bitCount_0f7a4_24 : decode cJ6_bitCount_0f7a4 24 = .ok (.iload_n 0, 1) := by decide +kernel
theorem dJ6_bitCount_0f7a4_25 : decode cJ6_bitCount_0f7a4 25 = .ok (.iload_n 0, 1) := by decide +kernel
theorem dJ6_bitCount_0f7a4_26 : decode cJ6_bitCount_0f7a4 26 = .ok (.iconst 4, 1) := by decide +kernel
theorem dJ6_bitCount_0f7a4_27 : decode cJ6_bitCount_0f7a4 27 = .ok (.iushr, 1) := by decide +kernel
theorem dJ6_bitCount_0f7a4_28 : decode cJ6_bitCount_0f7a4 28 = .ok (.iadd, 1) := by decide +kernel
theorem dJ6_bitCount_0f7a4_29 : decode cJ6_bitCount_0f7a4 29 = .ok (.ldc_w 267, 3) := by decide +kernel
theorem dJ6_bitCount_0f7a4_32 : decode cJ6_bitCount_0f7a4 32 = .ok (.iand, 1) := by decide +kernel
theorem dJ6_bitCount_0f7a4_33 : decode cJ6_bitCount_0f7a4 33 = .ok (.istore_n 0, 1) := by decide +kernel
theorem dJ6_bitCount_0f7a4_34 : decode cJ6_bitCount_0f7a4 34 = .ok (.iload_n 0, 1) := by decide +kernel
theorem dJ6_bitCount_0f7a4_35 : decode cJ6_bitCount_0f7a4 35 = .ok (.iload_n 0, 1) := by decide +kernel
theorem dJ6_bitCount_0f7a4_36 : decode cJ6_bitCount_0f7a4 36 = .ok (.bipush 8, 2) := by decide +kernel
theorem dJ6_bitCount_0f7a4_38 : decode cJ6_bitCount_0f7a4 38 = .ok (.iushr, 1) := by decide +kernel
theorem dJ6_bitCount_0f7a4_39 : decode cJ6_bitCount_0f7a4 39 = .ok (.iadd, 1) := by decide +kernel
theorem dJ6_bitCount_0f7a4_40 : decode cJ6_bitCount_0f7a4 40 = .ok (.istore_n 0, 1) := by decide +kernel
theorem dJ6_bitCount_0f7a4_41 : decode cJ6_bitCount_0f7a4 41 = .ok (.iload_n 0, 1) := by decide +kernel
theorem dJ6_bitCount_0f7a4_42 : decode cJ6_bitCount_0f7a4 42 = .ok (.iload_n 0, 1) := by decide +kernel
theorem dJ6_bitCount_0f7a4_43 : decode cJ6_bitCount_0f7a4 43 = .ok (.bipush 16, 2) := by decide +kernel
theorem dJ6_bitCount_0f7a4_45 : decode cJ6_bitCount_0f7a4 45 = .ok (.iushr, 1) := by decide +kernel
theorem dJ6_bitCount_0f7a4_46 : decode cJ6_bitCount_0f7a4 46 = .ok (.iadd, 1) := by decide +kernel
theorem dJ6_bitCount_0f7a4_47 : decode cJ6_bitCount_0f7a4 47 = .ok (.istore_n 0, 1) := by decide +kernel
theorem dJ6_bitCount_0f7a4_48 : decode cJ6_bitCount_0f7a4 48 = .ok (.iload_n 0, 1) := by decide +kernel
theorem dJ6_bitCount_0f7a4_49 : decode cJ6_bitCount_0f7a4 49 = .ok (.bipush 63, 2) := by decide +kernel
theorem dJ6_bitCount_0f7a4_51 : decode cJ6_bitCount_0f7a4 51 = .ok (.iand, 1) := by decide +kernel
theorem dJ6_bitCount_0f7a4_52 : decode cJ6_bitCount_0f7a4 52 = .ok (.ireturn, 1) := by decide +kernel
theorem dJ9_max_7cf53_0 : decode cJ9_max_7cf53 0 = .ok (.iload_n 0, 1) := by decide +kernel
theorem dJ9_max_7cf53_1 : decode cJ9_max_7cf53 1 = .ok (.iload_n 1, 1) := by decide +kernel
theorem dJ9_max_7cf53_2 : decode cJ9_max_7cf53 2 = .ok (.if_icmp .lt 7, 3) := by decide +kernel
theorem dJ9_max_7cf53_5 : decode cJ9_max_7cf53 5 = .ok (.iload_n 0, 1) := by decide +kernel
theorem dJ9_max_7cf53_6 : decode cJ9_max_7cf53 6 = .ok (.goto 4, 3) := by decide +kernel
theorem dJ9_max_7cf53_9 : decode cJ9_max_7cf53 9 = .ok (.iload_n 1, 1) := by decide +kernel
theorem dJ9_max_7cf53_10 : decode cJ9_max_7cf53 10 = .ok (.ireturn, 1) := by decide +kernel
theorem dJ9_min_7cf53_0 : decode cJ9_min_7cf53 0 = .ok (.iload_n 0, 1) := by decide +kernel
theorem dJ9_min_7cf53_1 : decode cJ9_min_7cf53 1 = .ok (.iload_n 1, 1) := by decide +kernel
theorem dJ9_min_7cf53_2 : decode cJ9_min_7cf53 2 = .ok (.if_icmp .gt 7, 3) := by decide +kernel
theorem dJ9_min_7cf53_5 : decode cJ9_min_7cf53 5 = .ok (.iload_n 0, 1) := by decide +kernel
theorem dJ9_min_7cf53_6 : decode cJ9_min_7cf53 6 = .ok (.goto 4, 3) := by decide +kernel
theorem dJ9_min_7cf53_9 : decode cJ9_min_7cf53 9 = .ok (.iload_n 1, 1) := by decide +kernel
theorem dJ9_min_7cf53_10 : decode cJ9_min_7cf53 10 = .ok (.ireturn, 1) := by decide +kernel
theorem dL_law_0 : decode cL_law 0 = .ok (.new 7, 3) := by decide +kernel
theorem dL_law_3 : decode cL_law 3 = .ok (.dup, 1) := by decide +kernel
theorem dL_law_4 : decode cL_law 4 = .ok (.invokespecial 9, 3) := by decide +kernel
theorem dL_law_7 : decode cL_law 7 = .ok (.astore_n 1, 1) := by decide +kernel
theorem dL_law_8 : decode cL_law 8 = .ok (.new 10, 3) := by decide +kernel
theorem dL_law_11 : decode cL_law 11 = .ok (.dup, 1) := by decide +kernel
theorem dL_law_12 : decode cL_law 12 = .ok (.invokespecial 12, 3) := by decide +kernel
theorem dL_law_15 : decode cL_law 15 = .ok (.astore_n 2, 1) := by decide +kernel
theorem dL_law_16 : decode cL_law 16 = .ok (.iconst 0, 1) := by decide +kernel
theorem dL_law_17 : decode cL_law 17 = .ok (.istore_n 3, 1) := by decide +kernel
theorem dL_law_18 : decode cL_law 18 = .ok (.iload_n 3, 1) := by decide +kernel
theorem dL_law_19 : decode cL_law 19 = .ok (.aload_n 0, 1) := by decide +kernel
theorem dL_law_20 : decode cL_law 20 = .ok (.arraylength, 1) := by decide +kernel
theorem dL_law_21 : decode cL_law 21 = .ok (.iconst 4, 1) := by decide +kernel
theorem dL_law_22 : decode cL_law 22 = .ok (.isub, 1) := by decide +kernel
theorem dL_law_23 : decode cL_law 23 = .ok (.if_icmp .gt 786, 3) := by decide +kernel
theorem dL_law_26 : decode cL_law 26 = .ok (.aload_n 0, 1) := by decide +kernel
theorem dL_law_27 : decode cL_law 27 = .ok (.iload_n 3, 1) := by decide +kernel
theorem dL_law_28 : decode cL_law 28 = .ok (.iaload, 1) := by decide +kernel
theorem dL_law_29 : decode cL_law 29 = .ok (.bipush 31, 2) := by decide +kernel
theorem dL_law_31 : decode cL_law 31 = .ok (.iand, 1) := by decide +kernel
theorem dL_law_32 : decode cL_law 32 = .ok (.tableswitch 771 0 24 #[116, 149, 172, 215, 238, 261, 284, 307, 340, 373, 416, 459, 482, 505, 538, 551, 584, 597, 620, 673, 686, 699, 712, 725, 748], 116) := by decide +kernel
theorem dL_law_148 : decode cL_law 148 = .ok (.aload_n 1, 1) := by decide +kernel
theorem dL_law_149 : decode cL_law 149 = .ok (.aload_n 0, 1) := by decide +kernel
theorem dL_law_150 : decode cL_law 150 = .ok (.iload_n 3, 1) := by decide +kernel
theorem dL_law_151 : decode cL_law 151 = .ok (.iconst 1, 1) := by decide +kernel
theorem dL_law_152 : decode cL_law 152 = .ok (.iadd, 1) := by decide +kernel
theorem dL_law_153 : decode cL_law 153 = .ok (.iaload, 1) := by decide +kernel
theorem dL_law_154 : decode cL_law 154 = .ok (.aload_n 0, 1) := by decide +kernel
theorem dL_law_155 : decode cL_law 155 = .ok (.iload_n 3, 1) := by decide +kernel
theorem dL_law_156 : decode cL_law 156 = .ok (.iconst 2, 1) := by decide +kernel
theorem dL_law_157 : decode cL_law 157 = .ok (.iadd, 1) := by decide +kernel
theorem dL_law_158 : decode cL_law 158 = .ok (.iaload, 1) := by decide +kernel
theorem dL_law_159 : decode cL_law 159 = .ok (.invokevirtual 13, 3) := by decide +kernel
theorem dL_law_162 : decode cL_law 162 = .ok (.aload_n 2, 1) := by decide +kernel
theorem dL_law_163 : decode cL_law 163 = .ok (.aload_n 0, 1) := by decide +kernel
theorem dL_law_164 : decode cL_law 164 = .ok (.iload_n 3, 1) := by decide +kernel
theorem dL_law_165 : decode cL_law 165 = .ok (.iconst 1, 1) := by decide +kernel
theorem dL_law_166 : decode cL_law 166 = .ok (.iadd, 1) := by decide +kernel
theorem dL_law_167 : decode cL_law 167 = .ok (.iaload, 1) := by decide +kernel
theorem dL_law_168 : decode cL_law 168 = .ok (.aload_n 0, 1) := by decide +kernel
theorem dL_law_169 : decode cL_law 169 = .ok (.iload_n 3, 1) := by decide +kernel
theorem dL_law_170 : decode cL_law 170 = .ok (.iconst 2, 1) := by decide +kernel
theorem dL_law_171 : decode cL_law 171 = .ok (.iadd, 1) := by decide +kernel
theorem dL_law_172 : decode cL_law 172 = .ok (.iaload, 1) := by decide +kernel
theorem dL_law_173 : decode cL_law 173 = .ok (.invokevirtual 17, 3) := by decide +kernel
theorem dL_law_176 : decode cL_law 176 = .ok (.if_icmp .eq 627, 3) := by decide +kernel
theorem dL_law_179 : decode cL_law 179 = .ok (.iconst 0, 1) := by decide +kernel
theorem dL_law_180 : decode cL_law 180 = .ok (.ireturn, 1) := by decide +kernel
theorem dL_law_181 : decode cL_law 181 = .ok (.aload_n 1, 1) := by decide +kernel
theorem dL_law_182 : decode cL_law 182 = .ok (.aload_n 0, 1) := by decide +kernel
theorem dL_law_183 : decode cL_law 183 = .ok (.iload_n 3, 1) := by decide +kernel
theorem dL_law_184 : decode cL_law 184 = .ok (.iconst 1, 1) := by decide +kernel
theorem dL_law_185 : decode cL_law 185 = .ok (.iadd, 1) := by decide +kernel
theorem dL_law_186 : decode cL_law 186 = .ok (.iaload, 1) := by decide +kernel
theorem dL_law_187 : decode cL_law 187 = .ok (.invokevirtual 18, 3) := by decide +kernel
theorem dL_law_190 : decode cL_law 190 = .ok (.aload_n 2, 1) := by decide +kernel
theorem dL_law_191 : decode cL_law 191 = .ok (.aload_n 0, 1) := by decide +kernel
theorem dL_law_192 : decode cL_law 192 = .ok (.iload_n 3, 1) := by decide +kernel
theorem dL_law_193 : decode cL_law 193 = .ok (.iconst 1, 1) := by decide +kernel
theorem dL_law_194 : decode cL_law 194 = .ok (.iadd, 1) := by decide +kernel
theorem dL_law_195 : decode cL_law 195 = .ok (.iaload, 1) := by decide +kernel
theorem dL_law_196 : decode cL_law 196 = .ok (.invokevirtual 22, 3) := by decide +kernel
theorem dL_law_199 : decode cL_law 199 = .ok (.if_icmp .eq 604, 3) := by decide +kernel
theorem dL_law_202 : decode cL_law 202 = .ok (.iconst 0, 1) := by decide +kernel
theorem dL_law_203 : decode cL_law 203 = .ok (.ireturn, 1) := by decide +kernel
theorem dL_law_204 : decode cL_law 204 = .ok (.aload_n 1, 1) := by decide +kernel
theorem dL_law_205 : decode cL_law 205 = .ok (.aload_n 0, 1) := by decide +kernel
theorem dL_law_206 : decode cL_law 206 = .ok (.iload_n 3, 1) := by decide +kernel
theorem dL_law_207 : decode cL_law 207 = .ok (.iconst 1, 1) := by decide +kernel
theorem dL_law_208 : decode cL_law 208 = .ok (.iadd, 1) := by decide +kernel
theorem dL_law_209 : decode cL_law 209 = .ok (.iaload, 1) := by decide +kernel
theorem dL_law_210 : decode cL_law 210 = .ok (.aload_n 0, 1) := by decide +kernel
theorem dL_law_211 : decode cL_law 211 = .ok (.iload_n 3, 1) := by decide +kernel
theorem dL_law_212 : decode cL_law 212 = .ok (.iconst 2, 1) := by decide +kernel
theorem dL_law_213 : decode cL_law 213 = .ok (.iadd, 1) := by decide +kernel
theorem dL_law_214 : decode cL_law 214 = .ok (.iaload, 1) := by decide +kernel
theorem dL_law_215 : decode cL_law 215 = .ok (.aload_n 0, 1) := by decide +kernel
theorem dL_law_216 : decode cL_law 216 = .ok (.iload_n 3, 1) := by decide +kernel
theorem dL_law_217 : decode cL_law 217 = .ok (.iconst 3, 1) := by decide +kernel
theorem dL_law_218 : decode cL_law 218 = .ok (.iadd, 1) := by decide +kernel
theorem dL_law_219 : decode cL_law 219 = .ok (.iaload, 1) := by decide +kernel
theorem dL_law_220 : decode cL_law 220 = .ok (.invokevirtual 23, 3) := by decide +kernel
theorem dL_law_223 : decode cL_law 223 = .ok (.aload_n 2, 1) := by decide +kernel
theorem dL_law_224 : decode cL_law 224 = .ok (.aload_n 0, 1) := by decide +kernel
theorem dL_law_225 : decode cL_law 225 = .ok (.iload_n 3, 1) := by decide +kernel
theorem dL_law_226 : decode cL_law 226 = .ok (.iconst 1, 1) := by decide +kernel
theorem dL_law_227 : decode cL_law 227 = .ok (.iadd, 1) := by decide +kernel
theorem dL_law_228 : decode cL_law 228 = .ok (.iaload, 1) := by decide +kernel
theorem dL_law_229 : decode cL_law 229 = .ok (.aload_n 0, 1) := by decide +kernel
theorem dL_law_230 : decode cL_law 230 = .ok (.iload_n 3, 1) := by decide +kernel
theorem dL_law_231 : decode cL_law 231 = .ok (.iconst 2, 1) := by decide +kernel
theorem dL_law_232 : decode cL_law 232 = .ok (.iadd, 1) := by decide +kernel
theorem dL_law_233 : decode cL_law 233 = .ok (.iaload, 1) := by decide +kernel
theorem dL_law_234 : decode cL_law 234 = .ok (.aload_n 0, 1) := by decide +kernel
theorem dL_law_235 : decode cL_law 235 = .ok (.iload_n 3, 1) := by decide +kernel
theorem dL_law_236 : decode cL_law 236 = .ok (.iconst 3, 1) := by decide +kernel
theorem dL_law_237 : decode cL_law 237 = .ok (.iadd, 1) := by decide +kernel
theorem dL_law_238 : decode cL_law 238 = .ok (.iaload, 1) := by decide +kernel
theorem dL_law_239 : decode cL_law 239 = .ok (.invokevirtual 27, 3) := by decide +kernel
theorem dL_law_242 : decode cL_law 242 = .ok (.if_icmp .eq 561, 3) := by decide +kernel
theorem dL_law_245 : decode cL_law 245 = .ok (.iconst 0, 1) := by decide +kernel
theorem dL_law_246 : decode cL_law 246 = .ok (.ireturn, 1) := by decide +kernel
theorem dL_law_247 : decode cL_law 247 = .ok (.aload_n 1, 1) := by decide +kernel
theorem dL_law_248 : decode cL_law 248 = .ok (.aload_n 0, 1) := by decide +kernel
theorem dL_law_249 : decode cL_law 249 = .ok (.iload_n 3, 1) := by decide +kernel
theorem dL_law_250 : decode cL_law 250 = .ok (.iconst 1, 1) := by decide +kernel
theorem dL_law_251 : decode cL_law 251 = .ok (.iadd, 1) := by decide +kernel
theorem dL_law_252 : decode cL_law 252 = .ok (.iaload, 1) := by decide +kernel
theorem dL_law_253 : decode cL_law 253 = .ok (.invokevirtual 28, 3) := by decide +kernel
theorem dL_law_256 : decode cL_law 256 = .ok (.aload_n 2, 1) := by decide +kernel
theorem dL_law_257 : decode cL_law 257 = .ok (.aload_n 0, 1) := by decide +kernel
theorem dL_law_258 : decode cL_law 258 = .ok (.iload_n 3, 1) := by decide +kernel
theorem dL_law_259 : decode cL_law 259 = .ok (.iconst 1, 1) := by decide +kernel
theorem dL_law_260 : decode cL_law 260 = .ok (.iadd, 1) := by decide +kernel
theorem dL_law_261 : decode cL_law 261 = .ok (.iaload, 1) := by decide +kernel
theorem dL_law_262 : decode cL_law 262 = .ok (.invokevirtual 31, 3) := by decide +kernel
theorem dL_law_265 : decode cL_law 265 = .ok (.if_icmp .eq 538, 3) := by decide +kernel
theorem dL_law_268 : decode cL_law 268 = .ok (.iconst 0, 1) := by decide +kernel
theorem dL_law_269 : decode cL_law 269 = .ok (.ireturn, 1) := by decide +kernel
theorem dL_law_270 : decode cL_law 270 = .ok (.aload_n 1, 1) := by decide +kernel
theorem dL_law_271 : decode cL_law 271 = .ok (.aload_n 0, 1) := by decide +kernel
theorem dL_law_272 : decode cL_law 272 = .ok (.iload_n 3, 1) := by decide +kernel
theorem dL_law_273 : decode cL_law 273 = .ok (.iconst 1, 1) := by decide +kernel
theorem dL_law_274 : decode cL_law 274 = .ok (.iadd, 1) := by decide +kernel
theorem dL_law_275 : decode cL_law 275 = .ok (.iaload, 1) := by decide +kernel
theorem dL_law_276 : decode cL_law 276 = .ok (.invokevirtual 32, 3) := by decide +kernel
theorem dL_law_279 : decode cL_law 279 = .ok (.aload_n 2, 1) := by decide +kernel
theorem dL_law_280 : decode cL_law 280 = .ok (.aload_n 0, 1) := by decide +kernel
theorem dL_law_281 : decode cL_law 281 = .ok (.iload_n 3, 1) := by decide +kernel
theorem dL_law_282 : decode cL_law 282 = .ok (.iconst 1, 1) := by decide +kernel
theorem dL_law_283 : decode cL_law 283 = .ok (.iadd, 1) := by decide +kernel
theorem dL_law_284 : decode cL_law 284 = .ok (.iaload, 1) := by decide +kernel
theorem dL_law_285 : decode cL_law 285 = .ok (.invokevirtual 35, 3) := by decide +kernel
theorem dL_law_288 : decode cL_law 288 = .ok (.if_icmp .eq 515, 3) := by decide +kernel
theorem dL_law_291 : decode cL_law 291 = .ok (.iconst 0, 1) := by decide +kernel
theorem dL_law_292 : decode cL_law 292 = .ok (.ireturn, 1) := by decide +kernel
theorem dL_law_293 : decode cL_law 293 = .ok (.aload_n 1, 1) := by decide +kernel
theorem dL_law_294 : decode cL_law 294 = .ok (.aload_n 0, 1) := by decide +kernel
theorem dL_law_295 : decode cL_law 295 = .ok (.iload_n 3, 1) := by decide +kernel
theorem dL_law_296 : decode cL_law 296 = .ok (.iconst 1, 1) := by decide +kernel
theorem dL_law_297 : decode cL_law 297 = .ok (.iadd, 1) := by decide +kernel
theorem dL_law_298 : decode cL_law 298 = .ok (.iaload, 1) := by decide +kernel
theorem dL_law_299 : decode cL_law 299 = .ok (.invokevirtual 36, 3) := by decide +kernel
theorem dL_law_302 : decode cL_law 302 = .ok (.aload_n 2, 1) := by decide +kernel
theorem dL_law_303 : decode cL_law 303 = .ok (.aload_n 0, 1) := by decide +kernel
theorem dL_law_304 : decode cL_law 304 = .ok (.iload_n 3, 1) := by decide +kernel
theorem dL_law_305 : decode cL_law 305 = .ok (.iconst 1, 1) := by decide +kernel
theorem dL_law_306 : decode cL_law 306 = .ok (.iadd, 1) := by decide +kernel
theorem dL_law_307 : decode cL_law 307 = .ok (.iaload, 1) := by decide +kernel
theorem dL_law_308 : decode cL_law 308 = .ok (.invokevirtual 39, 3) := by decide +kernel
theorem dL_law_311 : decode cL_law 311 = .ok (.if_icmp .eq 492, 3) := by decide +kernel
theorem dL_law_314 : decode cL_law 314 = .ok (.iconst 0, 1) := by decide +kernel
theorem dL_law_315 : decode cL_law 315 = .ok (.ireturn, 1) := by decide +kernel
theorem dL_law_316 : decode cL_law 316 = .ok (.aload_n 1, 1) := by decide +kernel
theorem dL_law_317 : decode cL_law 317 = .ok (.aload_n 0, 1) := by decide +kernel
theorem dL_law_318 : decode cL_law 318 = .ok (.iload_n 3, 1) := by decide +kernel
theorem dL_law_319 : decode cL_law 319 = .ok (.iconst 1, 1) := by decide +kernel
theorem dL_law_320 : decode cL_law 320 = .ok (.iadd, 1) := by decide +kernel
theorem dL_law_321 : decode cL_law 321 = .ok (.iaload, 1) := by decide +kernel
theorem dL_law_322 : decode cL_law 322 = .ok (.invokevirtual 40, 3) := by decide +kernel
theorem dL_law_325 : decode cL_law 325 = .ok (.aload_n 2, 1) := by decide +kernel
theorem dL_law_326 : decode cL_law 326 = .ok (.aload_n 0, 1) := by decide +kernel
theorem dL_law_327 : decode cL_law 327 = .ok (.iload_n 3, 1) := by decide +kernel
theorem dL_law_328 : decode cL_law 328 = .ok (.iconst 1, 1) := by decide +kernel
theorem dL_law_329 : decode cL_law 329 = .ok (.iadd, 1) := by decide +kernel
theorem dL_law_330 : decode cL_law 330 = .ok (.iaload, 1) := by decide +kernel
theorem dL_law_331 : decode cL_law 331 = .ok (.invokevirtual 43, 3) := by decide +kernel
theorem dL_law_334 : decode cL_law 334 = .ok (.if_icmp .eq 469, 3) := by decide +kernel
theorem dL_law_337 : decode cL_law 337 = .ok (.iconst 0, 1) := by decide +kernel
theorem dL_law_338 : decode cL_law 338 = .ok (.ireturn, 1) := by decide +kernel
theorem dL_law_339 : decode cL_law 339 = .ok (.aload_n 1, 1) := by decide +kernel
theorem dL_law_340 : decode cL_law 340 = .ok (.aload_n 0, 1) := by decide +kernel
theorem dL_law_341 : decode cL_law 341 = .ok (.iload_n 3, 1) := by decide +kernel
theorem dL_law_342 : decode cL_law 342 = .ok (.iconst 1, 1) := by decide +kernel
theorem dL_law_343 : decode cL_law 343 = .ok (.iadd, 1) := by decide +kernel
theorem dL_law_344 : decode cL_law 344 = .ok (.iaload, 1) := by decide +kernel
theorem dL_law_345 : decode cL_law 345 = .ok (.aload_n 0, 1) := by decide +kernel
theorem dL_law_346 : decode cL_law 346 = .ok (.iload_n 3, 1) := by decide +kernel
theorem dL_law_347 : decode cL_law 347 = .ok (.iconst 2, 1) := by decide +kernel
theorem dL_law_348 : decode cL_law 348 = .ok (.iadd, 1) := by decide +kernel
theorem dL_law_349 : decode cL_law 349 = .ok (.iaload, 1) := by decide +kernel
theorem dL_law_350 : decode cL_law 350 = .ok (.invokevirtual 44, 3) := by decide +kernel
theorem dL_law_353 : decode cL_law 353 = .ok (.aload_n 2, 1) := by decide +kernel
theorem dL_law_354 : decode cL_law 354 = .ok (.aload_n 0, 1) := by decide +kernel
theorem dL_law_355 : decode cL_law 355 = .ok (.iload_n 3, 1) := by decide +kernel
theorem dL_law_356 : decode cL_law 356 = .ok (.iconst 1, 1) := by decide +kernel
theorem dL_law_357 : decode cL_law 357 = .ok (.iadd, 1) := by decide +kernel
theorem dL_law_358 : decode cL_law 358 = .ok (.iaload, 1) := by decide +kernel
theorem dL_law_359 : decode cL_law 359 = .ok (.aload_n 0, 1) := by decide +kernel
theorem dL_law_360 : decode cL_law 360 = .ok (.iload_n 3, 1) := by decide +kernel
theorem dL_law_361 : decode cL_law 361 = .ok (.iconst 2, 1) := by decide +kernel
theorem dL_law_362 : decode cL_law 362 = .ok (.iadd, 1) := by decide +kernel
theorem dL_law_363 : decode cL_law 363 = .ok (.iaload, 1) := by decide +kernel
theorem dL_law_364 : decode cL_law 364 = .ok (.invokevirtual 47, 3) := by decide +kernel
theorem dL_law_367 : decode cL_law 367 = .ok (.if_icmp .eq 436, 3) := by decide +kernel
theorem dL_law_370 : decode cL_law 370 = .ok (.iconst 0, 1) := by decide +kernel
theorem dL_law_371 : decode cL_law 371 = .ok (.ireturn, 1) := by decide +kernel
theorem dL_law_372 : decode cL_law 372 = .ok (.aload_n 1, 1) := by decide +kernel
theorem dL_law_373 : decode cL_law 373 = .ok (.aload_n 0, 1) := by decide +kernel
theorem dL_law_374 : decode cL_law 374 = .ok (.iload_n 3, 1) := by decide +kernel
theorem dL_law_375 : decode cL_law 375 = .ok (.iconst 1, 1) := by decide +kernel
theorem dL_law_376 : decode cL_law 376 = .ok (.iadd, 1) := by decide +kernel
theorem dL_law_377 : decode cL_law 377 = .ok (.iaload, 1) := by decide +kernel
theorem dL_law_378 : decode cL_law 378 = .ok (.aload_n 0, 1) := by decide +kernel
theorem dL_law_379 : decode cL_law 379 = .ok (.iload_n 3, 1) := by decide +kernel
theorem dL_law_380 : decode cL_law 380 = .ok (.iconst 2, 1) := by decide +kernel
theorem dL_law_381 : decode cL_law 381 = .ok (.iadd, 1) := by decide +kernel
theorem dL_law_382 : decode cL_law 382 = .ok (.iaload, 1) := by decide +kernel
theorem dL_law_383 : decode cL_law 383 = .ok (.invokevirtual 48, 3) := by decide +kernel
theorem dL_law_386 : decode cL_law 386 = .ok (.aload_n 2, 1) := by decide +kernel
theorem dL_law_387 : decode cL_law 387 = .ok (.aload_n 0, 1) := by decide +kernel
theorem dL_law_388 : decode cL_law 388 = .ok (.iload_n 3, 1) := by decide +kernel
theorem dL_law_389 : decode cL_law 389 = .ok (.iconst 1, 1) := by decide +kernel
theorem dL_law_390 : decode cL_law 390 = .ok (.iadd, 1) := by decide +kernel
theorem dL_law_391 : decode cL_law 391 = .ok (.iaload, 1) := by decide +kernel
theorem dL_law_392 : decode cL_law 392 = .ok (.aload_n 0, 1) := by decide +kernel
theorem dL_law_393 : decode cL_law 393 = .ok (.iload_n 3, 1) := by decide +kernel
theorem dL_law_394 : decode cL_law 394 = .ok (.iconst 2, 1) := by decide +kernel
theorem dL_law_395 : decode cL_law 395 = .ok (.iadd, 1) := by decide +kernel
theorem dL_law_396 : decode cL_law 396 = .ok (.iaload, 1) := by decide +kernel
theorem dL_law_397 : decode cL_law 397 = .ok (.invokevirtual 51, 3) := by decide +kernel
theorem dL_law_400 : decode cL_law 400 = .ok (.if_icmp .eq 403, 3) := by decide +kernel
theorem dL_law_403 : decode cL_law 403 = .ok (.iconst 0, 1) := by decide +kernel
theorem dL_law_404 : decode cL_law 404 = .ok (.ireturn, 1) := by decide +kernel
theorem dL_law_405 : decode cL_law 405 = .ok (.aload_n 1, 1) := by decide +kernel
theorem dL_law_406 : decode cL_law 406 = .ok (.aload_n 0, 1) := by decide +kernel
theorem dL_law_407 : decode cL_law 407 = .ok (.iload_n 3, 1) := by decide +kernel
theorem dL_law_408 : decode cL_law 408 = .ok (.iconst 1, 1) := by decide +kernel
theorem dL_law_409 : decode cL_law 409 = .ok (.iadd, 1) := by decide +kernel
theorem dL_law_410 : decode cL_law 410 = .ok (.iaload, 1) := by decide +kernel
theorem dL_law_411 : decode cL_law 411 = .ok (.aload_n 0, 1) := by decide +kernel
theorem dL_law_412 : decode cL_law 412 = .ok (.iload_n 3, 1) := by decide +kernel
theorem dL_law_413 : decode cL_law 413 = .ok (.iconst 2, 1) := by decide +kernel
theorem dL_law_414 : decode cL_law 414 = .ok (.iadd, 1) := by decide +kernel
theorem dL_law_415 : decode cL_law 415 = .ok (.iaload, 1) := by decide +kernel
theorem dL_law_416 : decode cL_law 416 = .ok (.aload_n 0, 1) := by decide +kernel
theorem dL_law_417 : decode cL_law 417 = .ok (.iload_n 3, 1) := by decide +kernel
theorem dL_law_418 : decode cL_law 418 = .ok (.iconst 3, 1) := by decide +kernel
theorem dL_law_419 : decode cL_law 419 = .ok (.iadd, 1) := by decide +kernel
theorem dL_law_420 : decode cL_law 420 = .ok (.iaload, 1) := by decide +kernel
theorem dL_law_421 : decode cL_law 421 = .ok (.invokevirtual 52, 3) := by decide +kernel
theorem dL_law_424 : decode cL_law 424 = .ok (.aload_n 2, 1) := by decide +kernel
theorem dL_law_425 : decode cL_law 425 = .ok (.aload_n 0, 1) := by decide +kernel
theorem dL_law_426 : decode cL_law 426 = .ok (.iload_n 3, 1) := by decide +kernel
theorem dL_law_427 : decode cL_law 427 = .ok (.iconst 1, 1) := by decide +kernel
theorem dL_law_428 : decode cL_law 428 = .ok (.iadd, 1) := by decide +kernel
theorem dL_law_429 : decode cL_law 429 = .ok (.iaload, 1) := by decide +kernel
theorem dL_law_430 : decode cL_law 430 = .ok (.aload_n 0, 1) := by decide +kernel
theorem dL_law_431 : decode cL_law 431 = .ok (.iload_n 3, 1) := by decide +kernel
theorem dL_law_432 : decode cL_law 432 = .ok (.iconst 2, 1) := by decide +kernel
theorem dL_law_433 : decode cL_law 433 = .ok (.iadd, 1) := by decide +kernel
theorem dL_law_434 : decode cL_law 434 = .ok (.iaload, 1) := by decide +kernel
theorem dL_law_435 : decode cL_law 435 = .ok (.aload_n 0, 1) := by decide +kernel
theorem dL_law_436 : decode cL_law 436 = .ok (.iload_n 3, 1) := by decide +kernel
theorem dL_law_437 : decode cL_law 437 = .ok (.iconst 3, 1) := by decide +kernel
theorem dL_law_438 : decode cL_law 438 = .ok (.iadd, 1) := by decide +kernel
theorem dL_law_439 : decode cL_law 439 = .ok (.iaload, 1) := by decide +kernel
theorem dL_law_440 : decode cL_law 440 = .ok (.invokevirtual 55, 3) := by decide +kernel
theorem dL_law_443 : decode cL_law 443 = .ok (.if_icmp .eq 360, 3) := by decide +kernel
theorem dL_law_446 : decode cL_law 446 = .ok (.iconst 0, 1) := by decide +kernel
theorem dL_law_447 : decode cL_law 447 = .ok (.ireturn, 1) := by decide +kernel
theorem dL_law_448 : decode cL_law 448 = .ok (.aload_n 1, 1) := by decide +kernel
theorem dL_law_449 : decode cL_law 449 = .ok (.aload_n 0, 1) := by decide +kernel
theorem dL_law_450 : decode cL_law 450 = .ok (.iload_n 3, 1) := by decide +kernel
theorem dL_law_451 : decode cL_law 451 = .ok (.iconst 1, 1) := by decide +kernel
theorem dL_law_452 : decode cL_law 452 = .ok (.iadd, 1) := by decide +kernel
theorem dL_law_453 : decode cL_law 453 = .ok (.iaload, 1) := by decide +kernel
theorem dL_law_454 : decode cL_law 454 = .ok (.aload_n 0, 1) := by decide +kernel
theorem dL_law_455 : decode cL_law 455 = .ok (.iload_n 3, 1) := by decide +kernel
theorem dL_law_456 : decode cL_law 456 = .ok (.iconst 2, 1) := by decide +kernel
theorem dL_law_457 : decode cL_law 457 = .ok (.iadd, 1) := by decide +kernel
theorem dL_law_458 : decode cL_law 458 = .ok (.iaload, 1) := by decide +kernel
theorem dL_law_459 : decode cL_law 459 = .ok (.aload_n 0, 1) := by decide +kernel
theorem dL_law_460 : decode cL_law 460 = .ok (.iload_n 3, 1) := by decide +kernel
theorem dL_law_461 : decode cL_law 461 = .ok (.iconst 3, 1) := by decide +kernel
theorem dL_law_462 : decode cL_law 462 = .ok (.iadd, 1) := by decide +kernel
theorem dL_law_463 : decode cL_law 463 = .ok (.iaload, 1) := by decide +kernel
theorem dL_law_464 : decode cL_law 464 = .ok (.invokevirtual 56, 3) := by decide +kernel
theorem dL_law_467 : decode cL_law 467 = .ok (.aload_n 2, 1) := by decide +kernel
theorem dL_law_468 : decode cL_law 468 = .ok (.aload_n 0, 1) := by decide +kernel
theorem dL_law_469 : decode cL_law 469 = .ok (.iload_n 3, 1) := by decide +kernel
theorem dL_law_470 : decode cL_law 470 = .ok (.iconst 1, 1) := by decide +kernel
theorem dL_law_471 : decode cL_law 471 = .ok (.iadd, 1) := by decide +kernel
theorem dL_law_472 : decode cL_law 472 = .ok (.iaload, 1) := by decide +kernel
theorem dL_law_473 : decode cL_law 473 = .ok (.aload_n 0, 1) := by decide +kernel
theorem dL_law_474 : decode cL_law 474 = .ok (.iload_n 3, 1) := by decide +kernel
theorem dL_law_475 : decode cL_law 475 = .ok (.iconst 2, 1) := by decide +kernel
theorem dL_law_476 : decode cL_law 476 = .ok (.iadd, 1) := by decide +kernel
theorem dL_law_477 : decode cL_law 477 = .ok (.iaload, 1) := by decide +kernel
theorem dL_law_478 : decode cL_law 478 = .ok (.aload_n 0, 1) := by decide +kernel
theorem dL_law_479 : decode cL_law 479 = .ok (.iload_n 3, 1) := by decide +kernel
theorem dL_law_480 : decode cL_law 480 = .ok (.iconst 3, 1) := by decide +kernel
theorem dL_law_481 : decode cL_law 481 = .ok (.iadd, 1) := by decide +kernel
theorem dL_law_482 : decode cL_law 482 = .ok (.iaload, 1) := by decide +kernel
theorem dL_law_483 : decode cL_law 483 = .ok (.invokevirtual 59, 3) := by decide +kernel
theorem dL_law_486 : decode cL_law 486 = .ok (.if_icmp .eq 317, 3) := by decide +kernel
theorem dL_law_489 : decode cL_law 489 = .ok (.iconst 0, 1) := by decide +kernel
theorem dL_law_490 : decode cL_law 490 = .ok (.ireturn, 1) := by decide +kernel
theorem dL_law_491 : decode cL_law 491 = .ok (.aload_n 1, 1) := by decide +kernel
theorem dL_law_492 : decode cL_law 492 = .ok (.aload_n 0, 1) := by decide +kernel
theorem dL_law_493 : decode cL_law 493 = .ok (.iload_n 3, 1) := by decide +kernel
theorem dL_law_494 : decode cL_law 494 = .ok (.iconst 1, 1) := by decide +kernel
theorem dL_law_495 : decode cL_law 495 = .ok (.iadd, 1) := by decide +kernel
theorem dL_law_496 : decode cL_law 496 = .ok (.iaload, 1) := by decide +kernel
theorem dL_law_497 : decode cL_law 497 = .ok (.invokevirtual 60, 3) := by decide +kernel
theorem dL_law_500 : decode cL_law 500 = .ok (.aload_n 2, 1) := by decide +kernel
theorem dL_law_501 : decode cL_law 501 = .ok (.aload_n 0, 1) := by decide +kernel
theorem dL_law_502 : decode cL_law 502 = .ok (.iload_n 3, 1) := by decide +kernel
theorem dL_law_503 : decode cL_law 503 = .ok (.iconst 1, 1) := by decide +kernel
theorem dL_law_504 : decode cL_law 504 = .ok (.iadd, 1) := by decide +kernel
theorem dL_law_505 : decode cL_law 505 = .ok (.iaload, 1) := by decide +kernel
theorem dL_law_506 : decode cL_law 506 = .ok (.invokevirtual 63, 3) := by decide +kernel
theorem dL_law_509 : decode cL_law 509 = .ok (.if_icmp .eq 294, 3) := by decide +kernel
theorem dL_law_512 : decode cL_law 512 = .ok (.iconst 0, 1) := by decide +kernel
theorem dL_law_513 : decode cL_law 513 = .ok (.ireturn, 1) := by decide +kernel
theorem dL_law_514 : decode cL_law 514 = .ok (.aload_n 1, 1) := by decide +kernel
theorem dL_law_515 : decode cL_law 515 = .ok (.aload_n 0, 1) := by decide +kernel
theorem dL_law_516 : decode cL_law 516 = .ok (.iload_n 3, 1) := by decide +kernel
theorem dL_law_517 : decode cL_law 517 = .ok (.iconst 1, 1) := by decide +kernel
theorem dL_law_518 : decode cL_law 518 = .ok (.iadd, 1) := by decide +kernel
theorem dL_law_519 : decode cL_law 519 = .ok (.iaload, 1) := by decide +kernel
theorem dL_law_520 : decode cL_law 520 = .ok (.invokevirtual 64, 3) := by decide +kernel
theorem dL_law_523 : decode cL_law 523 = .ok (.aload_n 2, 1) := by decide +kernel
theorem dL_law_524 : decode cL_law 524 = .ok (.aload_n 0, 1) := by decide +kernel
theorem dL_law_525 : decode cL_law 525 = .ok (.iload_n 3, 1) := by decide +kernel
theorem dL_law_526 : decode cL_law 526 = .ok (.iconst 1, 1) := by decide +kernel
theorem dL_law_527 : decode cL_law 527 = .ok (.iadd, 1) := by decide +kernel
theorem dL_law_528 : decode cL_law 528 = .ok (.iaload, 1) := by decide +kernel
theorem dL_law_529 : decode cL_law 529 = .ok (.invokevirtual 67, 3) := by decide +kernel
theorem dL_law_532 : decode cL_law 532 = .ok (.if_icmp .eq 271, 3) := by decide +kernel
theorem dL_law_535 : decode cL_law 535 = .ok (.iconst 0, 1) := by decide +kernel
theorem dL_law_536 : decode cL_law 536 = .ok (.ireturn, 1) := by decide +kernel
theorem dL_law_537 : decode cL_law 537 = .ok (.aload_n 1, 1) := by decide +kernel
theorem dL_law_538 : decode cL_law 538 = .ok (.aload_n 0, 1) := by decide +kernel
theorem dL_law_539 : decode cL_law 539 = .ok (.iload_n 3, 1) := by decide +kernel
theorem dL_law_540 : decode cL_law 540 = .ok (.iconst 1, 1) := by decide +kernel
theorem dL_law_541 : decode cL_law 541 = .ok (.iadd, 1) := by decide +kernel
theorem dL_law_542 : decode cL_law 542 = .ok (.iaload, 1) := by decide +kernel
theorem dL_law_543 : decode cL_law 543 = .ok (.aload_n 0, 1) := by decide +kernel
theorem dL_law_544 : decode cL_law 544 = .ok (.iload_n 3, 1) := by decide +kernel
theorem dL_law_545 : decode cL_law 545 = .ok (.iconst 2, 1) := by decide +kernel
theorem dL_law_546 : decode cL_law 546 = .ok (.iadd, 1) := by decide +kernel
theorem dL_law_547 : decode cL_law 547 = .ok (.iaload, 1) := by decide +kernel
theorem dL_law_548 : decode cL_law 548 = .ok (.invokevirtual 68, 3) := by decide +kernel
theorem dL_law_551 : decode cL_law 551 = .ok (.aload_n 2, 1) := by decide +kernel
theorem dL_law_552 : decode cL_law 552 = .ok (.aload_n 0, 1) := by decide +kernel
theorem dL_law_553 : decode cL_law 553 = .ok (.iload_n 3, 1) := by decide +kernel
theorem dL_law_554 : decode cL_law 554 = .ok (.iconst 1, 1) := by decide +kernel
theorem dL_law_555 : decode cL_law 555 = .ok (.iadd, 1) := by decide +kernel
theorem dL_law_556 : decode cL_law 556 = .ok (.iaload, 1) := by decide +kernel
theorem dL_law_557 : decode cL_law 557 = .ok (.aload_n 0, 1) := by decide +kernel
theorem dL_law_558 : decode cL_law 558 = .ok (.iload_n 3, 1) := by decide +kernel
theorem dL_law_559 : decode cL_law 559 = .ok (.iconst 2, 1) := by decide +kernel
theorem dL_law_560 : decode cL_law 560 = .ok (.iadd, 1) := by decide +kernel
theorem dL_law_561 : decode cL_law 561 = .ok (.iaload, 1) := by decide +kernel
theorem dL_law_562 : decode cL_law 562 = .ok (.invokevirtual 71, 3) := by decide +kernel
theorem dL_law_565 : decode cL_law 565 = .ok (.if_icmp .eq 238, 3) := by decide +kernel
theorem dL_law_568 : decode cL_law 568 = .ok (.iconst 0, 1) := by decide +kernel
theorem dL_law_569 : decode cL_law 569 = .ok (.ireturn, 1) := by decide +kernel
theorem dL_law_570 : decode cL_law 570 = .ok (.aload_n 1, 1) := by decide +kernel
theorem dL_law_571 : decode cL_law 571 = .ok (.invokevirtual 72, 3) := by decide +kernel
theorem dL_law_574 : decode cL_law 574 = .ok (.aload_n 2, 1) := by decide +kernel
theorem dL_law_575 : decode cL_law 575 = .ok (.invokevirtual 76, 3) := by decide +kernel
theorem dL_law_578 : decode cL_law 578 = .ok (.if_icmp .eq 225, 3) := by decide +kernel
theorem dL_law_581 : decode cL_law 581 = .ok (.iconst 0, 1) := by decide +kernel
theorem dL_law_582 : decode cL_law 582 = .ok (.ireturn, 1) := by decide +kernel
theorem dL_law_583 : decode cL_law 583 = .ok (.aload_n 1, 1) := by decide +kernel
theorem dL_law_584 : decode cL_law 584 = .ok (.aload_n 0, 1) := by decide +kernel
theorem dL_law_585 : decode cL_law 585 = .ok (.iload_n 3, 1) := by decide +kernel
theorem dL_law_586 : decode cL_law 586 = .ok (.iconst 1, 1) := by decide +kernel
theorem dL_law_587 : decode cL_law 587 = .ok (.iadd, 1) := by decide +kernel
theorem dL_law_588 : decode cL_law 588 = .ok (.iaload, 1) := by decide +kernel
theorem dL_law_589 : decode cL_law 589 = .ok (.aload_n 0, 1) := by decide +kernel
theorem dL_law_590 : decode cL_law 590 = .ok (.iload_n 3, 1) := by decide +kernel
theorem dL_law_591 : decode cL_law 591 = .ok (.iconst 2, 1) := by decide +kernel
theorem dL_law_592 : decode cL_law 592 = .ok (.iadd, 1) := by decide +kernel
theorem dL_law_593 : decode cL_law 593 = .ok (.iaload, 1) := by decide +kernel
theorem dL_law_594 : decode cL_law 594 = .ok (.invokevirtual 77, 3) := by decide +kernel
theorem dL_law_597 : decode cL_law 597 = .ok (.aload_n 2, 1) := by decide +kernel
theorem dL_law_598 : decode cL_law 598 = .ok (.aload_n 0, 1) := by decide +kernel
theorem dL_law_599 : decode cL_law 599 = .ok (.iload_n 3, 1) := by decide +kernel
theorem dL_law_600 : decode cL_law 600 = .ok (.iconst 1, 1) := by decide +kernel
theorem dL_law_601 : decode cL_law 601 = .ok (.iadd, 1) := by decide +kernel
theorem dL_law_602 : decode cL_law 602 = .ok (.iaload, 1) := by decide +kernel
theorem dL_law_603 : decode cL_law 603 = .ok (.aload_n 0, 1) := by decide +kernel
theorem dL_law_604 : decode cL_law 604 = .ok (.iload_n 3, 1) := by decide +kernel
theorem dL_law_605 : decode cL_law 605 = .ok (.iconst 2, 1) := by decide +kernel
theorem dL_law_606 : decode cL_law 606 = .ok (.iadd, 1) := by decide +kernel
theorem dL_law_607 : decode cL_law 607 = .ok (.iaload, 1) := by decide +kernel
theorem dL_law_608 : decode cL_law 608 = .ok (.invokevirtual 80, 3) := by decide +kernel
theorem dL_law_611 : decode cL_law 611 = .ok (.if_icmp .eq 192, 3) := by decide +kernel
theorem dL_law_614 : decode cL_law 614 = .ok (.iconst 0, 1) := by decide +kernel
theorem dL_law_615 : decode cL_law 615 = .ok (.ireturn, 1) := by decide +kernel
theorem dL_law_616 : decode cL_law 616 = .ok (.aload_n 1, 1) := by decide +kernel
theorem dL_law_617 : decode cL_law 617 = .ok (.invokevirtual 81, 3) := by decide +kernel
theorem dL_law_620 : decode cL_law 620 = .ok (.aload_n 2, 1) := by decide +kernel
theorem dL_law_621 : decode cL_law 621 = .ok (.invokevirtual 84, 3) := by decide +kernel
theorem dL_law_624 : decode cL_law 624 = .ok (.if_icmp .eq 179, 3) := by decide +kernel
theorem dL_law_627 : decode cL_law 627 = .ok (.iconst 0, 1) := by decide +kernel
theorem dL_law_628 : decode cL_law 628 = .ok (.ireturn, 1) := by decide +kernel
theorem dL_law_629 : decode cL_law 629 = .ok (.aload_n 1, 1) := by decide +kernel
theorem dL_law_630 : decode cL_law 630 = .ok (.aload_n 0, 1) := by decide +kernel
theorem dL_law_631 : decode cL_law 631 = .ok (.iload_n 3, 1) := by decide +kernel
theorem dL_law_632 : decode cL_law 632 = .ok (.iconst 1, 1) := by decide +kernel
theorem dL_law_633 : decode cL_law 633 = .ok (.iadd, 1) := by decide +kernel
theorem dL_law_634 : decode cL_law 634 = .ok (.iaload, 1) := by decide +kernel
theorem dL_law_635 : decode cL_law 635 = .ok (.invokevirtual 85, 3) := by decide +kernel
theorem dL_law_638 : decode cL_law 638 = .ok (.aload_n 2, 1) := by decide +kernel
theorem dL_law_639 : decode cL_law 639 = .ok (.aload_n 0, 1) := by decide +kernel
theorem dL_law_640 : decode cL_law 640 = .ok (.iload_n 3, 1) := by decide +kernel
theorem dL_law_641 : decode cL_law 641 = .ok (.iconst 1, 1) := by decide +kernel
theorem dL_law_642 : decode cL_law 642 = .ok (.iadd, 1) := by decide +kernel
theorem dL_law_643 : decode cL_law 643 = .ok (.iaload, 1) := by decide +kernel
theorem dL_law_644 : decode cL_law 644 = .ok (.invokevirtual 88, 3) := by decide +kernel
theorem dL_law_647 : decode cL_law 647 = .ok (.if_icmp .eq 156, 3) := by decide +kernel
theorem dL_law_650 : decode cL_law 650 = .ok (.iconst 0, 1) := by decide +kernel
theorem dL_law_651 : decode cL_law 651 = .ok (.ireturn, 1) := by decide +kernel
theorem dL_law_652 : decode cL_law 652 = .ok (.aload_n 1, 1) := by decide +kernel
theorem dL_law_653 : decode cL_law 653 = .ok (.aload_n 0, 1) := by decide +kernel
theorem dL_law_654 : decode cL_law 654 = .ok (.iload_n 3, 1) := by decide +kernel
theorem dL_law_655 : decode cL_law 655 = .ok (.iconst 1, 1) := by decide +kernel
theorem dL_law_656 : decode cL_law 656 = .ok (.iadd, 1) := by decide +kernel
theorem dL_law_657 : decode cL_law 657 = .ok (.iaload, 1) := by decide +kernel
theorem dL_law_658 : decode cL_law 658 = .ok (.i2l, 1) := by decide +kernel
theorem dL_law_659 : decode cL_law 659 = .ok (.bipush 32, 2) := by decide +kernel
theorem dL_law_661 : decode cL_law 661 = .ok (.lshl, 1) := by decide +kernel
theorem dL_law_662 : decode cL_law 662 = .ok (.aload_n 0, 1) := by decide +kernel
theorem dL_law_663 : decode cL_law 663 = .ok (.iload_n 3, 1) := by decide +kernel
theorem dL_law_664 : decode cL_law 664 = .ok (.iconst 2, 1) := by decide +kernel
theorem dL_law_665 : decode cL_law 665 = .ok (.iadd, 1) := by decide +kernel
theorem dL_law_666 : decode cL_law 666 = .ok (.iaload, 1) := by decide +kernel
theorem dL_law_667 : decode cL_law 667 = .ok (.i2l, 1) := by decide +kernel
theorem dL_law_668 : decode cL_law 668 = .ok (.ldc2_w 89, 3) := by decide +kernel
theorem dL_law_671 : decode cL_law 671 = .ok (.land, 1) := by decide +kernel
theorem dL_law_672 : decode cL_law 672 = .ok (.lor, 1) := by decide +kernel
theorem dL_law_673 : decode cL_law 673 = .ok (.invokevirtual 91, 3) := by decide +kernel
theorem dL_law_676 : decode cL_law 676 = .ok (.aload_n 2, 1) := by decide +kernel
theorem dL_law_677 : decode cL_law 677 = .ok (.aload_n 0, 1) := by decide +kernel
theorem dL_law_678 : decode cL_law 678 = .ok (.iload_n 3, 1) := by decide +kernel
theorem dL_law_679 : decode cL_law 679 = .ok (.iconst 1, 1) := by decide +kernel
theorem dL_law_680 : decode cL_law 680 = .ok (.iadd, 1) := by decide +kernel
theorem dL_law_681 : decode cL_law 681 = .ok (.iaload, 1) := by decide +kernel
theorem dL_law_682 : decode cL_law 682 = .ok (.i2l, 1) := by decide +kernel
theorem dL_law_683 : decode cL_law 683 = .ok (.bipush 32, 2) := by decide +kernel
theorem dL_law_685 : decode cL_law 685 = .ok (.lshl, 1) := by decide +kernel
theorem dL_law_686 : decode cL_law 686 = .ok (.aload_n 0, 1) := by decide +kernel
theorem dL_law_687 : decode cL_law 687 = .ok (.iload_n 3, 1) := by decide +kernel
theorem dL_law_688 : decode cL_law 688 = .ok (.iconst 2, 1) := by decide +kernel
theorem dL_law_689 : decode cL_law 689 = .ok (.iadd, 1) := by decide +kernel
theorem dL_law_690 : decode cL_law 690 = .ok (.iaload, 1) := by decide +kernel
theorem dL_law_691 : decode cL_law 691 = .ok (.i2l, 1) := by decide +kernel
theorem dL_law_692 : decode cL_law 692 = .ok (.ldc2_w 89, 3) := by decide +kernel
theorem dL_law_695 : decode cL_law 695 = .ok (.land, 1) := by decide +kernel
theorem dL_law_696 : decode cL_law 696 = .ok (.lor, 1) := by decide +kernel
theorem dL_law_697 : decode cL_law 697 = .ok (.invokevirtual 95, 3) := by decide +kernel
theorem dL_law_700 : decode cL_law 700 = .ok (.if_icmp .eq 103, 3) := by decide +kernel
theorem dL_law_703 : decode cL_law 703 = .ok (.iconst 0, 1) := by decide +kernel
theorem dL_law_704 : decode cL_law 704 = .ok (.ireturn, 1) := by decide +kernel
theorem dL_law_705 : decode cL_law 705 = .ok (.aload_n 1, 1) := by decide +kernel
theorem dL_law_706 : decode cL_law 706 = .ok (.invokevirtual 96, 3) := by decide +kernel
theorem dL_law_709 : decode cL_law 709 = .ok (.aload_n 2, 1) := by decide +kernel
theorem dL_law_710 : decode cL_law 710 = .ok (.invokevirtual 99, 3) := by decide +kernel
theorem dL_law_713 : decode cL_law 713 = .ok (.if_icmp .eq 90, 3) := by decide +kernel
theorem dL_law_716 : decode cL_law 716 = .ok (.iconst 0, 1) := by decide +kernel
theorem dL_law_717 : decode cL_law 717 = .ok (.ireturn, 1) := by decide +kernel
theorem dL_law_718 : decode cL_law 718 = .ok (.aload_n 1, 1) := by decide +kernel
theorem dL_law_719 : decode cL_law 719 = .ok (.invokevirtual 100, 3) := by decide +kernel
theorem dL_law_722 : decode cL_law 722 = .ok (.aload_n 2, 1) := by decide +kernel
theorem dL_law_723 : decode cL_law 723 = .ok (.invokevirtual 103, 3) := by decide +kernel
theorem dL_law_726 : decode cL_law 726 = .ok (.if_icmp .eq 77, 3) := by decide +kernel
theorem dL_law_729 : decode cL_law 729 = .ok (.iconst 0, 1) := by decide +kernel
theorem dL_law_730 : decode cL_law 730 = .ok (.ireturn, 1) := by decide +kernel
theorem dL_law_731 : decode cL_law 731 = .ok (.aload_n 1, 1) := by decide +kernel
theorem dL_law_732 : decode cL_law 732 = .ok (.invokevirtual 104, 3) := by decide +kernel
theorem dL_law_735 : decode cL_law 735 = .ok (.aload_n 2, 1) := by decide +kernel
theorem dL_law_736 : decode cL_law 736 = .ok (.invokevirtual 107, 3) := by decide +kernel
theorem dL_law_739 : decode cL_law 739 = .ok (.if_icmp .eq 64, 3) := by decide +kernel
theorem dL_law_742 : decode cL_law 742 = .ok (.iconst 0, 1) := by decide +kernel
theorem dL_law_743 : decode cL_law 743 = .ok (.ireturn, 1) := by decide +kernel
theorem dL_law_744 : decode cL_law 744 = .ok (.aload_n 1, 1) := by decide +kernel
theorem dL_law_745 : decode cL_law 745 = .ok (.invokevirtual 108, 3) := by decide +kernel
theorem dL_law_748 : decode cL_law 748 = .ok (.aload_n 2, 1) := by decide +kernel
theorem dL_law_749 : decode cL_law 749 = .ok (.invokevirtual 111, 3) := by decide +kernel
theorem dL_law_752 : decode cL_law 752 = .ok (.if_icmp .eq 51, 3) := by decide +kernel
theorem dL_law_755 : decode cL_law 755 = .ok (.iconst 0, 1) := by decide +kernel
theorem dL_law_756 : decode cL_law 756 = .ok (.ireturn, 1) := by decide +kernel
theorem dL_law_757 : decode cL_law 757 = .ok (.aload_n 1, 1) := by decide +kernel
theorem dL_law_758 : decode cL_law 758 = .ok (.aload_n 0, 1) := by decide +kernel
theorem dL_law_759 : decode cL_law 759 = .ok (.iload_n 3, 1) := by decide +kernel
theorem dL_law_760 : decode cL_law 760 = .ok (.iconst 1, 1) := by decide +kernel
theorem dL_law_761 : decode cL_law 761 = .ok (.iadd, 1) := by decide +kernel
theorem dL_law_762 : decode cL_law 762 = .ok (.iaload, 1) := by decide +kernel
theorem dL_law_763 : decode cL_law 763 = .ok (.invokevirtual 112, 3) := by decide +kernel
theorem dL_law_766 : decode cL_law 766 = .ok (.aload_n 2, 1) := by decide +kernel
theorem dL_law_767 : decode cL_law 767 = .ok (.aload_n 0, 1) := by decide +kernel
theorem dL_law_768 : decode cL_law 768 = .ok (.iload_n 3, 1) := by decide +kernel
theorem dL_law_769 : decode cL_law 769 = .ok (.iconst 1, 1) := by decide +kernel
theorem dL_law_770 : decode cL_law 770 = .ok (.iadd, 1) := by decide +kernel
theorem dL_law_771 : decode cL_law 771 = .ok (.iaload, 1) := by decide +kernel
theorem dL_law_772 : decode cL_law 772 = .ok (.invokevirtual 115, 3) := by decide +kernel
theorem dL_law_775 : decode cL_law 775 = .ok (.if_icmp .eq 28, 3) := by decide +kernel
theorem dL_law_778 : decode cL_law 778 = .ok (.iconst 0, 1) := by decide +kernel
theorem dL_law_779 : decode cL_law 779 = .ok (.ireturn, 1) := by decide +kernel
theorem dL_law_780 : decode cL_law 780 = .ok (.aload_n 1, 1) := by decide +kernel
theorem dL_law_781 : decode cL_law 781 = .ok (.aload_n 0, 1) := by decide +kernel
theorem dL_law_782 : decode cL_law 782 = .ok (.iload_n 3, 1) := by decide +kernel
theorem dL_law_783 : decode cL_law 783 = .ok (.iconst 1, 1) := by decide +kernel
theorem dL_law_784 : decode cL_law 784 = .ok (.iadd, 1) := by decide +kernel
theorem dL_law_785 : decode cL_law 785 = .ok (.iaload, 1) := by decide +kernel
theorem dL_law_786 : decode cL_law 786 = .ok (.invokevirtual 116, 3) := by decide +kernel
theorem dL_law_789 : decode cL_law 789 = .ok (.aload_n 2, 1) := by decide +kernel
theorem dL_law_790 : decode cL_law 790 = .ok (.aload_n 0, 1) := by decide +kernel
theorem dL_law_791 : decode cL_law 791 = .ok (.iload_n 3, 1) := by decide +kernel
theorem dL_law_792 : decode cL_law 792 = .ok (.iconst 1, 1) := by decide +kernel
theorem dL_law_793 : decode cL_law 793 = .ok (.iadd, 1) := by decide +kernel
theorem dL_law_794 : decode cL_law 794 = .ok (.iaload, 1) := by decide +kernel
theorem dL_law_795 : decode cL_law 795 = .ok (.invokevirtual 119, 3) := by decide +kernel
theorem dL_law_798 : decode cL_law 798 = .ok (.if_icmp .eq 5, 3) := by decide +kernel
theorem dL_law_801 : decode cL_law 801 = .ok (.iconst 0, 1) := by decide +kernel
theorem dL_law_802 : decode cL_law 802 = .ok (.ireturn, 1) := by decide +kernel
theorem dL_law_803 : decode cL_law 803 = .ok (.iinc 3 4, 3) := by decide +kernel
theorem dL_law_806 : decode cL_law 806 = .ok (.goto (-788), 3) := by decide +kernel
theorem dL_law_809 : decode cL_law 809 = .ok (.iconst 1, 1) := by decide +kernel
theorem dL_law_810 : decode cL_law 810 = .ok (.ireturn, 1) := by decide +kernel
