theorem dX6_queued_11 : decode cX6_queued 11 = .ok (.iaload, 1) := by decide +kernel
theorem dX6_queued_12 : decode cX6_queued 12 = .ok (.ireturn, 1) := by decide +kernel
theorem dX6_driving_0 : decode cX6_driving 0 = .ok (.aload_n 0, 1) := by decide +kernel
theorem dX6_driving_1 : decode cX6_driving 1 = .ok (.getfield 12, 3) := by decide +kernel
theorem dX6_driving_4 : decode cX6_driving 4 = .ok (.getfield 74, 3) := by decide +kernel
theorem dX6_driving_7 : decode cX6_driving 7 = .ok (.iload_n 1, 1) := by decide +kernel
theorem dX6_driving_8 : decode cX6_driving 8 = .ok (.invokestatic 81, 3) := by decide +kernel
theorem dX6_driving_11 : decode cX6_driving 11 = .ok (.iaload, 1) := by decide +kernel
theorem dX6_driving_12 : decode cX6_driving 12 = .ok (.ireturn, 1) := by decide +kernel
theorem dX6_allQueued_0 : decode cX6_allQueued 0 = .ok (.iconst 0, 1) := by decide +kernel
theorem dX6_allQueued_1 : decode cX6_allQueued 1 = .ok (.istore_n 1, 1) := by decide +kernel
theorem dX6_allQueued_2 : decode cX6_allQueued 2 = .ok (.iconst 0, 1) := by decide +kernel
theorem dX6_allQueued_3 : decode cX6_allQueued 3 = .ok (.istore_n 2, 1) := by decide +kernel
theorem dX6_allQueued_4 : decode cX6_allQueued 4 = .ok (.iload_n 2, 1) := by decide +kernel
theorem dX6_allQueued_5 : decode cX6_allQueued 5 = .ok (.aload_n 0, 1) := by decide +kernel
theorem dX6_allQueued_6 : decode cX6_allQueued 6 = .ok (.getfield 48, 3) := by decide +kernel
theorem dX6_allQueued_9 : decode cX6_allQueued 9 = .ok (.getfield 84, 3) := by decide +kernel
theorem dX6_allQueued_12 : decode cX6_allQueued 12 = .ok (.if_icmp .ge 17, 3) := by decide +kernel
theorem dX6_allQueued_15 : decode cX6_allQueued 15 = .ok (.iload_n 1, 1) := by decide +kernel
theorem dX6_allQueued_16 : decode cX6_allQueued 16 = .ok (.aload_n 0, 1) := by decide +kernel
theorem dX6_allQueued_17 : decode cX6_allQueued 17 = .ok (.iload_n 2, 1) := by decide +kernel
theorem dX6_allQueued_18 : decode cX6_allQueued 18 = .ok (.invokevirtual 89, 3) := by decide +kernel
theorem dX6_allQueued_21 : decode cX6_allQueued 21 = .ok (.iadd, 1) := by decide +kernel
theorem dX6_allQueued_22 : decode cX6_allQueued 22 = .ok (.istore_n 1, 1) := by decide +kernel
theorem dX6_allQueued_23 : decode cX6_allQueued 23 = .ok (.iinc 2 1, 3) := by decide +kernel
theorem dX6_allQueued_26 : decode cX6_allQueued 26 = .ok (.goto (-22), 3) := by decide +kernel
theorem dX6_allQueued_29 : decode cX6_allQueued 29 = .ok (.iload_n 1, 1) := by decide +kernel
theorem dX6_allQueued_30 : decode cX6_allQueued 30 = .ok (.ireturn, 1) := by decide +kernel
theorem dX6_driveAnHour_0 : decode cX6_driveAnHour 0 = .ok (.aload_n 0, 1) := by decide +kernel
theorem dX6_driveAnHour_1 : decode cX6_driveAnHour 1 = .ok (.getfield 12, 3) := by decide +kernel
theorem dX6_driveAnHour_4 : decode cX6_driveAnHour 4 = .ok (.invokevirtual 92, 3) := by decide +kernel
theorem dX6_driveAnHour_7 : decode cX6_driveAnHour 7 = .ok (.aload_n 0, 1) := by decide +kernel
theorem dX6_driveAnHour_8 : decode cX6_driveAnHour 8 = .ok (.invokevirtual 95, 3) := by decide +kernel
theorem dX6_driveAnHour_11 : decode cX6_driveAnHour 11 = .ok (.aload_n 0, 1) := by decide +kernel
theorem dX6_driveAnHour_12 : decode cX6_driveAnHour 12 = .ok (.invokevirtual 98, 3) := by decide +kernel
theorem dX6_driveAnHour_15 : decode cX6_driveAnHour 15 = .ok (.aload_n 0, 1) := by decide +kernel
theorem dX6_driveAnHour_16 : decode cX6_driveAnHour 16 = .ok (.invokevirtual 101, 3) := by decide +kernel
theorem dX6_driveAnHour_19 : decode cX6_driveAnHour 19 = .ok (.return_, 1) := by decide +kernel
theorem dX6_drinkAnHour_0 : decode cX6_drinkAnHour 0 = .ok (.iconst 0, 1) := by decide +kernel
theorem dX6_drinkAnHour_1 : decode cX6_drinkAnHour 1 = .ok (.istore_n 1, 1) := by decide +kernel
theorem dX6_drinkAnHour_2 : decode cX6_drinkAnHour 2 = .ok (.iload_n 1, 1) := by decide +kernel
theorem dX6_drinkAnHour_3 : decode cX6_drinkAnHour 3 = .ok (.aload_n 0, 1) := by decide +kernel
theorem dX6_drinkAnHour_4 : decode cX6_drinkAnHour 4 = .ok (.getfield 44, 3) := by decide +kernel
theorem dX6_drinkAnHour_7 : decode cX6_drinkAnHour 7 = .ok (.getfield 104, 3) := by decide +kernel
theorem dX6_drinkAnHour_10 : decode cX6_drinkAnHour 10 = .ok (.if_icmp .ge 52, 3) := by decide +kernel
theorem dX6_drinkAnHour_13 : decode cX6_drinkAnHour 13 = .ok (.aload_n 0, 1) := by decide +kernel
theorem dX6_drinkAnHour_14 : decode cX6_drinkAnHour 14 = .ok (.getfield 28, 3) := by decide +kernel
theorem dX6_drinkAnHour_17 : decode cX6_drinkAnHour 17 = .ok (.iload_n 1, 1) := by decide +kernel
theorem dX6_drinkAnHour_18 : decode cX6_drinkAnHour 18 = .ok (.iaload, 1) := by decide +kernel
theorem dX6_drinkAnHour_19 : decode cX6_drinkAnHour 19 = .ok (.aload_n 0, 1) := by decide +kernel
theorem dX6_drinkAnHour_20 : decode cX6_drinkAnHour 20 = .ok (.getfield 31, 3) := by decide +kernel
theorem dX6_drinkAnHour_23 : decode cX6_drinkAnHour 23 = .ok (.iload_n 1, 1) := by decide +kernel
theorem dX6_drinkAnHour_24 : decode cX6_drinkAnHour 24 = .ok (.iaload, 1) := by decide +kernel
theorem dX6_drinkAnHour_25 : decode cX6_drinkAnHour 25 = .ok (.invokestatic 107, 3) := by decide +kernel
theorem dX6_drinkAnHour_28 : decode cX6_drinkAnHour 28 = .ok (.istore_n 2, 1) := by decide +kernel
theorem dX6_drinkAnHour_29 : decode cX6_drinkAnHour 29 = .ok (.aload_n 0, 1) := by decide +kernel
theorem dX6_drinkAnHour_30 : decode cX6_drinkAnHour 30 = .ok (.getfield 31, 3) := by decide +kernel
theorem dX6_drinkAnHour_33 : decode cX6_drinkAnHour 33 = .ok (.iload_n 1, 1) := by decide +kernel
theorem dX6_drinkAnHour_34 : decode cX6_drinkAnHour 34 = .ok (.dup2, 1) := by decide +kernel
theorem dX6_drinkAnHour_35 : decode cX6_drinkAnHour 35 = .ok (.iaload, 1) := by decide +kernel
theorem dX6_drinkAnHour_36 : decode cX6_drinkAnHour 36 = .ok (.iload_n 2, 1) := by decide +kernel
theorem dX6_drinkAnHour_37 : decode cX6_drinkAnHour 37 = .ok (.isub, 1) := by decide +kernel
theorem dX6_drinkAnHour_38 : decode cX6_drinkAnHour 38 = .ok (.iastore, 1) := by decide +kernel
theorem dX6_drinkAnHour_39 : decode cX6_drinkAnHour 39 = .ok (.aload_n 0, 1) := by decide +kernel
theorem dX6_drinkAnHour_40 : decode cX6_drinkAnHour 40 = .ok (.getfield 34, 3) := by decide +kernel
theorem dX6_drinkAnHour_43 : decode cX6_drinkAnHour 43 = .ok (.iload_n 1, 1) := by decide +kernel
theorem dX6_drinkAnHour_44 : decode cX6_drinkAnHour 44 = .ok (.dup2, 1) := by decide +kernel
theorem dX6_drinkAnHour_45 : decode cX6_drinkAnHour 45 = .ok (.iaload, 1) := by decide +kernel
theorem dX6_drinkAnHour_46 : decode cX6_drinkAnHour 46 = .ok (.aload_n 0, 1) := by decide +kernel
theorem dX6_drinkAnHour_47 : decode cX6_drinkAnHour 47 = .ok (.getfield 28, 3) := by decide +kernel
theorem dX6_drinkAnHour_50 : decode cX6_drinkAnHour 50 = .ok (.iload_n 1, 1) := by decide +kernel
theorem dX6_drinkAnHour_51 : decode cX6_drinkAnHour 51 = .ok (.iaload, 1) := by decide +kernel
theorem dX6_drinkAnHour_52 : decode cX6_drinkAnHour 52 = .ok (.iload_n 2, 1) := by decide +kernel
theorem dX6_drinkAnHour_53 : decode cX6_drinkAnHour 53 = .ok (.isub, 1) := by decide +kernel
theorem dX6_drinkAnHour_54 : decode cX6_drinkAnHour 54 = .ok (.iadd, 1) := by decide +kernel
theorem dX6_drinkAnHour_55 : decode cX6_drinkAnHour 55 = .ok (.iastore, 1) := by decide +kernel
theorem dX6_drinkAnHour_56 : decode cX6_drinkAnHour 56 = .ok (.iinc 1 1, 3) := by decide +kernel
theorem dX6_drinkAnHour_59 : decode cX6_drinkAnHour 59 = .ok (.goto (-57), 3) := by decide +kernel
theorem dX6_drinkAnHour_62 : decode cX6_drinkAnHour 62 = .ok (.return_, 1) := by decide +kernel
theorem dX6_copyFrom_0 : decode cX6_copyFrom 0 = .ok (.aload_n 0, 1) := by decide +kernel
theorem dX6_copyFrom_1 : decode cX6_copyFrom 1 = .ok (.getfield 12, 3) := by decide +kernel
theorem dX6_copyFrom_4 : decode cX6_copyFrom 4 = .ok (.aload_n 1, 1) := by decide +kernel
theorem dX6_copyFrom_5 : decode cX6_copyFrom 5 = .ok (.getfield 12, 3) := by decide +kernel
theorem dX6_copyFrom_8 : decode cX6_copyFrom 8 = .ok (.invokevirtual 113, 3) := by decide +kernel
theorem dX6_copyFrom_11 : decode cX6_copyFrom 11 = .ok (.aload_n 1, 1) := by decide +kernel
theorem dX6_copyFrom_12 : decode cX6_copyFrom 12 = .ok (.getfield 18, 3) := by decide +kernel
theorem dX6_copyFrom_15 : decode cX6_copyFrom 15 = .ok (.iconst 0, 1) := by decide +kernel
theorem dX6_copyFrom_16 : decode cX6_copyFrom 16 = .ok (.aload_n 0, 1) := by decide +kernel
theorem dX6_copyFrom_17 : decode cX6_copyFrom 17 = .ok (.getfield 18, 3) := by decide +kernel
theorem dX6_copyFrom_20 : decode cX6_copyFrom 20 = .ok (.iconst 0, 1) := by decide +kernel
theorem dX6_copyFrom_21 : decode cX6_copyFrom 21 = .ok (.bipush 8, 2) := by decide +kernel
theorem dX6_copyFrom_23 : decode cX6_copyFrom 23 = .ok (.invokestatic 117, 3) := by decide +kernel
theorem dX6_copyFrom_26 : decode cX6_copyFrom 26 = .ok (.aload_n 1, 1) := by decide +kernel
theorem dX6_copyFrom_27 : decode cX6_copyFrom 27 = .ok (.getfield 22, 3) := by decide +kernel
theorem dX6_copyFrom_30 : decode cX6_copyFrom 30 = .ok (.iconst 0, 1) := by decide +kernel
theorem dX6_copyFrom_31 : decode cX6_copyFrom 31 = .ok (.aload_n 0, 1) := by decide +kernel
theorem dX6_copyFrom_32 : decode cX6_copyFrom 32 = .ok (.getfield 22, 3) := by decide +kernel
theorem dX6_copyFrom_35 : decode cX6_copyFrom 35 = .ok (.iconst 0, 1) := by decide +kernel
theorem dX6_copyFrom_36 : decode cX6_copyFrom 36 = .ok (.bipush 8, 2) := by decide +kernel
theorem dX6_copyFrom_38 : decode cX6_copyFrom 38 = .ok (.invokestatic 117, 3) := by decide +kernel
theorem dX6_copyFrom_41 : decode cX6_copyFrom 41 = .ok (.aload_n 1, 1) := by decide +kernel
theorem dX6_copyFrom_42 : decode cX6_copyFrom 42 = .ok (.getfield 25, 3) := by decide +kernel
theorem dX6_copyFrom_45 : decode cX6_copyFrom 45 = .ok (.iconst 0, 1) := by decide +kernel
theorem dX6_copyFrom_46 : decode cX6_copyFrom 46 = .ok (.aload_n 0, 1) := by decide +kernel
theorem dX6_copyFrom_47 : decode cX6_copyFrom 47 = .ok (.getfield 25, 3) := by decide +kernel
theorem dX6_copyFrom_50 : decode cX6_copyFrom 50 = .ok (.iconst 0, 1) := by decide +kernel
theorem dX6_copyFrom_51 : decode cX6_copyFrom 51 = .ok (.bipush 8, 2) := by decide +kernel
theorem dX6_copyFrom_53 : decode cX6_copyFrom 53 = .ok (.invokestatic 117, 3) := by decide +kernel
theorem dX6_copyFrom_56 : decode cX6_copyFrom 56 = .ok (.aload_n 1, 1) := by decide +kernel
theorem dX6_copyFrom_57 : decode cX6_copyFrom 57 = .ok (.getfield 28, 3) := by decide +kernel
theorem dX6_copyFrom_60 : decode cX6_copyFrom 60 = .ok (.iconst 0, 1) := by decide +kernel
theorem dX6_copyFrom_61 : decode cX6_copyFrom 61 = .ok (.aload_n 0, 1) := by decide +kernel
theorem dX6_copyFrom_62 : decode cX6_copyFrom 62 = .ok (.getfield 28, 3) := by decide +kernel
theorem dX6_copyFrom_65 : decode cX6_copyFrom 65 = .ok (.iconst 0, 1) := by decide +kernel
theorem dX6_copyFrom_66 : decode cX6_copyFrom 66 = .ok (.bipush 10, 2) := by decide +kernel
theorem dX6_copyFrom_68 : decode cX6_copyFrom 68 = .ok (.invokestatic 117, 3) := by decide +kernel
theorem dX6_copyFrom_71 : decode cX6_copyFrom 71 = .ok (.aload_n 1, 1) := by decide +kernel
theorem dX6_copyFrom_72 : decode cX6_copyFrom 72 = .ok (.getfield 31, 3) := by decide +kernel
theorem dX6_copyFrom_75 : decode cX6_copyFrom 75 = .ok (.iconst 0, 1) := by decide +kernel
theorem dX6_copyFrom_76 : decode cX6_copyFrom 76 = .ok (.aload_n 0, 1) := by decide +kernel
theorem dX6_copyFrom_77 : decode cX6_copyFrom 77 = .ok (.getfield 31, 3) := by decide +kernel
theorem dX6_copyFrom_80 : decode cX6_copyFrom 80 = .ok (.iconst 0, 1) := by decide +kernel
theorem dX6_copyFrom_81 : decode cX6_copyFrom 81 = .ok (.bipush 10, 2) := by decide +kernel
theorem dX6_copyFrom_83 : decode cX6_copyFrom 83 = .ok (.invokestatic 117, 3) := by decide +kernel
theorem dX6_copyFrom_86 : decode cX6_copyFrom 86 = .ok (.aload_n 1, 1) := by decide +kernel
theorem dX6_copyFrom_87 : decode cX6_copyFrom 87 = .ok (.getfield 34, 3) := by decide +kernel
theorem dX6_copyFrom_90 : decode cX6_copyFrom 90 = .ok (.iconst 0, 1) := by decide +kernel
theorem dX6_copyFrom_91 : decode cX6_copyFrom 91 = .ok (.aload_n 0, 1) := by decide +kernel
theorem dX6_copyFrom_92 : decode cX6_copyFrom 92 = .ok (.getfield 34, 3) := by decide +kernel
theorem dX6_copyFrom_95 : decode cX6_copyFrom 95 = .ok (.iconst 0, 1) := by decide +kernel
theorem dX6_copyFrom_96 : decode cX6_copyFrom 96 = .ok (.bipush 10, 2) := by decide +kernel
theorem dX6_copyFrom_98 : decode cX6_copyFrom 98 = .ok (.invokestatic 117, 3) := by decide +kernel
theorem dX6_copyFrom_101 : decode cX6_copyFrom 101 = .ok (.aload_n 0, 1) := by decide +kernel
theorem dX6_copyFrom_102 : decode cX6_copyFrom 102 = .ok (.aload_n 1, 1) := by decide +kernel
theorem dX6_copyFrom_103 : decode cX6_copyFrom 103 = .ok (.getfield 56, 3) := by decide +kernel
theorem dX6_copyFrom_106 : decode cX6_copyFrom 106 = .ok (.putfield 56, 3) := by decide +kernel
theorem dX6_copyFrom_109 : decode cX6_copyFrom 109 = .ok (.aload_n 0, 1) := by decide +kernel
theorem dX6_copyFrom_110 : decode cX6_copyFrom 110 = .ok (.aload_n 1, 1) := by decide +kernel
theorem dX6_copyFrom_111 : decode cX6_copyFrom 111 = .ok (.getfield 59, 3) := by decide +kernel
theorem dX6_copyFrom_114 : decode cX6_copyFrom 114 = .ok (.putfield 59, 3) := by decide +kernel
theorem dX6_copyFrom_117 : decode cX6_copyFrom 117 = .ok (.aload_n 0, 1) := by decide +kernel
theorem dX6_copyFrom_118 : decode cX6_copyFrom 118 = .ok (.aload_n 1, 1) := by decide +kernel
theorem dX6_copyFrom_119 : decode cX6_copyFrom 119 = .ok (.getfield 40, 3) := by decide +kernel
theorem dX6_copyFrom_122 : decode cX6_copyFrom 122 = .ok (.putfield 40, 3) := by decide +kernel
theorem dX6_copyFrom_125 : decode cX6_copyFrom 125 = .ok (.aload_n 0, 1) := by decide +kernel
theorem dX6_copyFrom_126 : decode cX6_copyFrom 126 = .ok (.aload_n 1, 1) := by decide +kernel
theorem dX6_copyFrom_127 : decode cX6_copyFrom 127 = .ok (.getfield 123, 3) := by decide +kernel
theorem dX6_copyFrom_130 : decode cX6_copyFrom 130 = .ok (.putfield 123, 3) := by decide +kernel
theorem dX6_copyFrom_133 : decode cX6_copyFrom 133 = .ok (.return_, 1) := by decide +kernel
theorem dX6_comeToTowns_0 : decode cX6_comeToTowns 0 = .ok (.iconst 0, 1) := by decide +kernel
theorem dX6_comeToTowns_1 : decode cX6_comeToTowns 1 = .ok (.istore_n 1, 1) := by decide +kernel
theorem dX6_comeToTowns_2 : decode cX6_comeToTowns 2 = .ok (.iload_n 1, 1) := by decide +kernel
theorem dX6_comeToTowns_3 : decode cX6_comeToTowns 3 = .ok (.aload_n 0, 1) := by decide +kernel
theorem dX6_comeToTowns_4 : decode cX6_comeToTowns 4 = .ok (.getfield 48, 3) := by decide +kernel
theorem dX6_comeToTowns_7 : decode cX6_comeToTowns 7 = .ok (.getfield 84, 3) := by decide +kernel
theorem dX6_comeToTowns_10 : decode cX6_comeToTowns 10 = .ok (.if_icmp .ge 131, 3) := by decide +kernel
theorem dX6_comeToTowns_13 : decode cX6_comeToTowns 13 = .ok (.iload_n 1, 1) := by decide +kernel
theorem dX6_comeToTowns_14 : decode cX6_comeToTowns 14 = .ok (.invokestatic 81, 3) := by decide +kernel
theorem dX6_comeToTowns_17 : decode cX6_comeToTowns 17 = .ok (.istore_n 2, 1) := by decide +kernel
theorem dX6_comeToTowns_18 : decode cX6_comeToTowns 18 = .ok (.aload_n 0, 1) := by decide +kernel
theorem dX6_comeToTowns_19 : decode cX6_comeToTowns 19 = .ok (.getfield 48, 3) := by decide +kernel
theorem dX6_comeToTowns_22 : decode cX6_comeToTowns 22 = .ok (.getfield 126, 3) := by decide +kernel
theorem dX6_comeToTowns_25 : decode cX6_comeToTowns 25 = .ok (.iload_n 1, 1) := by decide +kernel
theorem dX6_comeToTowns_26 : decode cX6_comeToTowns 26 = .ok (.iaload, 1) := by decide +kernel
theorem dX6_comeToTowns_27 : decode cX6_comeToTowns 27 = .ok (.istore_n 3, 1) := by decide +kernel
theorem dX6_comeToTowns_28 : decode cX6_comeToTowns 28 = .ok (.iconst 0, 1) := by decide +kernel
theorem dX6_comeToTowns_29 : decode cX6_comeToTowns 29 = .ok (.istore 4, 2) := by decide +kernel
theorem dX6_comeToTowns_31 : decode cX6_comeToTowns 31 = .ok (.iload 4, 2) := by decide +kernel
theorem dX6_comeToTowns_33 : decode cX6_comeToTowns 33 = .ok (.sipush 4096, 3) := by decide +kernel
theorem dX6_comeToTowns_36 : decode cX6_comeToTowns 36 = .ok (.if_icmp .ge 99, 3) := by decide +kernel
theorem dX6_comeToTowns_39 : decode cX6_comeToTowns 39 = .ok (.aload_n 0, 1) := by decide +kernel
theorem dX6_comeToTowns_40 : decode cX6_comeToTowns 40 = .ok (.getfield 12, 3) := by decide +kernel
theorem dX6_comeToTowns_43 : decode cX6_comeToTowns 43 = .ok (.iload_n 2, 1) := by decide +kernel
theorem dX6_comeToTowns_44 : decode cX6_comeToTowns 44 = .ok (.aload_n 0, 1) := by decide +kernel
theorem dX6_comeToTowns_45 : decode cX6_comeToTowns 45 = .ok (.getfield 56, 3) := by decide +kernel
theorem dX6_comeToTowns_48 : decode cX6_comeToTowns 48 = .ok (.invokevirtual 129, 3) := by decide +kernel
theorem dX6_comeToTowns_51 : decode cX6_comeToTowns 51 = .ok (.ifCond .eq 84, 3) := by decide +kernel
theorem dX6_comeToTowns_54 : decode cX6_comeToTowns 54 = .ok (.aload_n 0, 1) := by decide +kernel
theorem dX6_comeToTowns_55 : decode cX6_comeToTowns 55 = .ok (.getfield 12, 3) := by decide +kernel
theorem dX6_comeToTowns_58 : decode cX6_comeToTowns 58 = .ok (.iload_n 2, 1) := by decide +kernel
theorem dX6_comeToTowns_59 : decode cX6_comeToTowns 59 = .ok (.invokevirtual 133, 3) := by decide +kernel
theorem dX6_comeToTowns_62 : decode cX6_comeToTowns 62 = .ok (.istore 5, 2) := by decide +kernel
theorem dX6_comeToTowns_64 : decode cX6_comeToTowns 64 = .ok (.aload_n 0, 1) := by decide +kernel
theorem dX6_comeToTowns_65 : decode cX6_comeToTowns 65 = .ok (.getfield 12, 3) := by decide +kernel
theorem dX6_comeToTowns_68 : decode cX6_comeToTowns 68 = .ok (.iload_n 2, 1) := by decide +kernel
theorem dX6_comeToTowns_69 : decode cX6_comeToTowns 69 = .ok (.invokevirtual 136, 3) := by decide +kernel
theorem dX6_comeToTowns_72 : decode cX6_comeToTowns 72 = .ok (.istore 6, 2) := by decide +kernel
theorem dX6_comeToTowns_74 : decode cX6_comeToTowns 74 = .ok (.aload_n 0, 1) := by decide +kernel
theorem dX6_comeToTowns_75 : decode cX6_comeToTowns 75 = .ok (.getfield 12, 3) := by decide +kernel
theorem dX6_comeToTowns_78 : decode cX6_comeToTowns 78 = .ok (.iload_n 2, 1) := by decide +kernel
theorem dX6_comeToTowns_79 : decode cX6_comeToTowns 79 = .ok (.iload 6, 2) := by decide +kernel
theorem dX6_comeToTowns_81 : decode cX6_comeToTowns 81 = .ok (.invokevirtual 139, 3) := by decide +kernel
theorem dX6_comeToTowns_84 : decode cX6_comeToTowns 84 = .ok (.aload_n 0, 1) := by decide +kernel
theorem dX6_comeToTowns_85 : decode cX6_comeToTowns 85 = .ok (.getfield 28, 3) := by decide +kernel
theorem dX6_comeToTowns_88 : decode cX6_comeToTowns 88 = .ok (.iload_n 3, 1) := by decide +kernel
theorem dX6_comeToTowns_89 : decode cX6_comeToTowns 89 = .ok (.dup2, 1) := by decide +kernel
theorem dX6_comeToTowns_90 : decode cX6_comeToTowns 90 = .ok (.iaload, 1) := by decide +kernel
theorem dX6_comeToTowns_91 : decode cX6_comeToTowns 91 = .ok (.iload 6, 2) := by decide +kernel
theorem dX6_comeToTowns_93 : decode cX6_comeToTowns 93 = .ok (.iadd, 1) := by decide +kernel
theorem dX6_comeToTowns_94 : decode cX6_comeToTowns 94 = .ok (.iastore, 1) := by decide +kernel
theorem dX6_comeToTowns_95 : decode cX6_comeToTowns 95 = .ok (.iload_n 3, 1) := by decide +kernel
theorem dX6_comeToTowns_96 : decode cX6_comeToTowns 96 = .ok (.aload_n 0, 1) := by decide +kernel
theorem dX6_comeToTowns_97 : decode cX6_comeToTowns 97 = .ok (.getfield 52, 3) := by decide +kernel
theorem dX6_comeToTowns_100 : decode cX6_comeToTowns 100 = .ok (.getfield 143, 3) := by decide +kernel
theorem dX6_comeToTowns_103 : decode cX6_comeToTowns 103 = .ok (.iload 5, 2) := by decide +kernel
theorem dX6_comeToTowns_105 : decode cX6_comeToTowns 105 = .ok (.iaload, 1) := by decide +kernel
theorem dX6_comeToTowns_106 : decode cX6_comeToTowns 106 = .ok (.if_icmp .ne 14, 3) := by decide +kernel
theorem dX6_comeToTowns_109 : decode cX6_comeToTowns 109 = .ok (.aload_n 0, 1) := by decide +kernel
theorem dX6_comeToTowns_110 : decode cX6_comeToTowns 110 = .ok (.iload 5, 2) := by decide +kernel
theorem dX6_comeToTowns_112 : decode cX6_comeToTowns 112 = .ok (.iload 6, 2) := by decide +kernel
theorem dX6_comeToTowns_114 : decode cX6_comeToTowns 114 = .ok (.invokevirtual 146, 3) := by decide +kernel
theorem dX6_comeToTowns_117 : decode cX6_comeToTowns 117 = .ok (.goto 12, 3) := by decide +kernel
theorem dX6_comeToTowns_120 : decode cX6_comeToTowns 120 = .ok (.aload_n 0, 1) := by decide +kernel
theorem dX6_comeToTowns_121 : decode cX6_comeToTowns 121 = .ok (.iload_n 3, 1) := by decide +kernel
theorem dX6_comeToTowns_122 : decode cX6_comeToTowns 122 = .ok (.iload 5, 2) := by decide +kernel
theorem dX6_comeToTowns_124 : decode cX6_comeToTowns 124 = .ok (.iload 6, 2) := by decide +kernel
theorem dX6_comeToTowns_126 : decode cX6_comeToTowns 126 = .ok (.invokevirtual 149, 3) := by decide +kernel
theorem dX6_comeToTowns_129 : decode cX6_comeToTowns 129 = .ok (.iinc 4 1, 3) := by decide +kernel
theorem dX6_comeToTowns_132 : decode cX6_comeToTowns 132 = .ok (.goto (-101), 3) := by decide +kernel
theorem dX6_comeToTowns_135 : decode cX6_comeToTowns 135 = .ok (.iinc 1 1, 3) := by decide +kernel
theorem dX6_comeToTowns_138 : decode cX6_comeToTowns 138 = .ok (.goto (-136), 3) := by decide +kernel
theorem dX6_comeToTowns_141 : decode cX6_comeToTowns 141 = .ok (.return_, 1) := by decide +kernel
theorem dX6_comeHome_0 : decode cX6_comeHome 0 = .ok (.aload_n 0, 1) := by decide +kernel
theorem dX6_comeHome_1 : decode cX6_comeHome 1 = .ok (.getfield 22, 3) := by decide +kernel
theorem dX6_comeHome_4 : decode cX6_comeHome 4 = .ok (.iload_n 1, 1) := by decide +kernel
theorem dX6_comeHome_5 : decode cX6_comeHome 5 = .ok (.dup2, 1) := by decide +kernel
theorem dX6_comeHome_6 : decode cX6_comeHome 6 = .ok (.iaload, 1) := by decide +kernel
theorem dX6_comeHome_7 : decode cX6_comeHome 7 = .ok (.iload_n 2, 1) := by decide +kernel
theorem dX6_comeHome_8 : decode cX6_comeHome 8 = .ok (.iadd, 1) := by decide +kernel
theorem dX6_comeHome_9 : decode cX6_comeHome 9 = .ok (.iastore, 1) := by decide +kernel
theorem dX6_comeHome_10 : decode cX6_comeHome 10 = .ok (.aload_n 0, 1) := by decide +kernel
theorem dX6_comeHome_11 : decode cX6_comeHome 11 = .ok (.getfield 25, 3) := by decide +kernel
theorem dX6_comeHome_14 : decode cX6_comeHome 14 = .ok (.iload_n 1, 1) := by decide +kernel
theorem dX6_comeHome_15 : decode cX6_comeHome 15 = .ok (.aload_n 0, 1) := by decide +kernel
theorem dX6_comeHome_16 : decode cX6_comeHome 16 = .ok (.getfield 56, 3) := by decide +kernel
theorem dX6_comeHome_19 : decode cX6_comeHome 19 = .ok (.iastore, 1) := by decide +kernel
theorem dX6_comeHome_20 : decode cX6_comeHome 20 = .ok (.aload_n 0, 1) := by decide +kernel
theorem dX6_comeHome_21 : decode cX6_comeHome 21 = .ok (.dup, 1) := by decide +kernel
theorem dX6_comeHome_22 : decode cX6_comeHome 22 = .ok (.getfield 59, 3) := by decide +kernel
theorem dX6_comeHome_25 : decode cX6_comeHome 25 = .ok (.iload_n 2, 1) := by decide +kernel
theorem dX6_comeHome_26 : decode cX6_comeHome 26 = .ok (.iadd, 1) := by decide +kernel
theorem dX6_comeHome_27 : decode cX6_comeHome 27 = .ok (.putfield 59, 3) := by decide +kernel
theorem dX6_comeHome_30 : decode cX6_comeHome 30 = .ok (.aload_n 0, 1) := by decide +kernel
theorem dX6_comeHome_31 : decode cX6_comeHome 31 = .ok (.aload_n 0, 1) := by decide +kernel
theorem dX6_comeHome_32 : decode cX6_comeHome 32 = .ok (.getfield 56, 3) := by decide +kernel
theorem dX6_comeHome_35 : decode cX6_comeHome 35 = .ok (.putfield 40, 3) := by decide +kernel
theorem dX6_comeHome_38 : decode cX6_comeHome 38 = .ok (.return_, 1) := by decide +kernel
theorem dX6_queueUp_0 : decode cX6_queueUp 0 = .ok (.aload_n 0, 1) := by decide +kernel
theorem dX6_queueUp_1 : decode cX6_queueUp 1 = .ok (.getfield 48, 3) := by decide +kernel
theorem dX6_queueUp_4 : decode cX6_queueUp 4 = .ok (.iload_n 1, 1) := by decide +kernel
theorem dX6_queueUp_5 : decode cX6_queueUp 5 = .ok (.aload_n 0, 1) := by decide +kernel
theorem dX6_queueUp_6 : decode cX6_queueUp 6 = .ok (.getfield 52, 3) := by decide +kernel
theorem dX6_queueUp_9 : decode cX6_queueUp 9 = .ok (.getfield 143, 3) := by decide +kernel
theorem dX6_queueUp_12 : decode cX6_queueUp 12 = .ok (.iload_n 2, 1) := by decide +kernel
theorem dX6_queueUp_13 : decode cX6_queueUp 13 = .ok (.iaload, 1) := by decide +kernel
theorem dX6_queueUp_14 : decode cX6_queueUp 14 = .ok (.invokevirtual 153, 3) := by decide +kernel
theorem dX6_queueUp_17 : decode cX6_queueUp 17 = .ok (.istore 4, 2) := by decide +kernel
theorem dX6_queueUp_19 : decode cX6_queueUp 19 = .ok (.iload 4, 2) := by decide +kernel
theorem dX6_queueUp_21 : decode cX6_queueUp 21 = .ok (.iconst (-1), 1) := by decide +kernel
theorem dX6_queueUp_22 : decode cX6_queueUp 22 = .ok (.if_icmp .eq 18, 3) := by decide +kernel
theorem dX6_queueUp_25 : decode cX6_queueUp 25 = .ok (.aload_n 0, 1) := by decide +kernel
theorem dX6_queueUp_26 : decode cX6_queueUp 26 = .ok (.getfield 12, 3) := by decide +kernel
theorem dX6_queueUp_29 : decode cX6_queueUp 29 = .ok (.iload 4, 2) := by decide +kernel
theorem dX6_queueUp_31 : decode cX6_queueUp 31 = .ok (.invokestatic 77, 3) := by decide +kernel
theorem dX6_queueUp_34 : decode cX6_queueUp 34 = .ok (.iload_n 2, 1) := by decide +kernel
theorem dX6_queueUp_35 : decode cX6_queueUp 35 = .ok (.iload_n 3, 1) := by decide +kernel
theorem dX6_queueUp_36 : decode cX6_queueUp 36 = .ok (.iconst 0, 1) := by decide +kernel
theorem dX6_queueUp_37 : decode cX6_queueUp 37 = .ok (.invokevirtual 156, 3) := by decide +kernel
theorem dX6_queueUp_40 : decode cX6_queueUp 40 = .ok (.return_, 1) := by decide +kernel
theorem dX6_letCrowdsGo_0 : decode cX6_letCrowdsGo 0 = .ok (.iconst 0, 1) := by decide +kernel
theorem dX6_letCrowdsGo_1 : decode cX6_letCrowdsGo 1 = .ok (.istore_n 1, 1) := by decide +kernel
theorem dX6_letCrowdsGo_2 : decode cX6_letCrowdsGo 2 = .ok (.iload_n 1, 1) := by decide +kernel
theorem dX6_letCrowdsGo_3 : decode cX6_letCrowdsGo 3 = .ok (.aload_n 0, 1) := by decide +kernel
theorem dX6_letCrowdsGo_4 : decode cX6_letCrowdsGo 4 = .ok (.getfield 52, 3) := by decide +kernel
theorem dX6_letCrowdsGo_7 : decode cX6_letCrowdsGo 7 = .ok (.getfield 160, 3) := by decide +kernel
theorem dX6_letCrowdsGo_10 : decode cX6_letCrowdsGo 10 = .ok (.if_icmp .ge 45, 3) := by decide +kernel
theorem dX6_letCrowdsGo_13 : decode cX6_letCrowdsGo 13 = .ok (.aload_n 0, 1) := by decide +kernel
theorem dX6_letCrowdsGo_14 : decode cX6_letCrowdsGo 14 = .ok (.getfield 18, 3) := by decide +kernel
theorem dX6_letCrowdsGo_17 : decode cX6_letCrowdsGo 17 = .ok (.iload_n 1, 1) := by decide +kernel
theorem dX6_letCrowdsGo_18 : decode cX6_letCrowdsGo 18 = .ok (.iaload, 1) := by decide +kernel
theorem dX6_letCrowdsGo_19 : decode cX6_letCrowdsGo 19 = .ok (.aload_n 0, 1) := by decide +kernel
theorem dX6_letCrowdsGo_20 : decode cX6_letCrowdsGo 20 = .ok (.getfield 56, 3) := by decide +kernel
theorem dX6_letCrowdsGo_23 : decode cX6_letCrowdsGo 23 = .ok (.if_icmp .ne 26, 3) := by decide +kernel
theorem dX6_letCrowdsGo_26 : decode cX6_letCrowdsGo 26 = .ok (.aload_n 0, 1) := by decide +kernel
theorem dX6_letCrowdsGo_27 : decode cX6_letCrowdsGo 27 = .ok (.aload_n 0, 1) := by decide +kernel
theorem dX6_letCrowdsGo_28 : decode cX6_letCrowdsGo 28 = .ok (.getfield 52, 3) := by decide +kernel
theorem dX6_letCrowdsGo_31 : decode cX6_letCrowdsGo 31 = .ok (.getfield 161, 3) := by decide +kernel
theorem dX6_letCrowdsGo_34 : decode cX6_letCrowdsGo 34 = .ok (.iload_n 1, 1) := by decide +kernel
theorem dX6_letCrowdsGo_35 : decode cX6_letCrowdsGo 35 = .ok (.iaload, 1) := by decide +kernel
theorem dX6_letCrowdsGo_36 : decode cX6_letCrowdsGo 36 = .ok (.iload_n 1, 1) := by decide +kernel
theorem dX6_letCrowdsGo_37 : decode cX6_letCrowdsGo 37 = .ok (.aload_n 0, 1) := by decide +kernel
theorem dX6_letCrowdsGo_38 : decode cX6_letCrowdsGo 38 = .ok (.getfield 52, 3) := by decide +kernel
theorem dX6_letCrowdsGo_41 : decode cX6_letCrowdsGo 41 = .ok (.getfield 67, 3) := by decide +kernel
theorem dX6_letCrowdsGo_44 : decode cX6_letCrowdsGo 44 = .ok (.iload_n 1, 1) := by decide +kernel
theorem dX6_letCrowdsGo_45 : decode cX6_letCrowdsGo 45 = .ok (.iaload, 1) := by decide +kernel
theorem dX6_letCrowdsGo_46 : decode cX6_letCrowdsGo 46 = .ok (.invokevirtual 149, 3) := by decide +kernel
theorem dX6_letCrowdsGo_49 : decode cX6_letCrowdsGo 49 = .ok (.iinc 1 1, 3) := by decide +kernel
theorem dX6_letCrowdsGo_52 : decode cX6_letCrowdsGo 52 = .ok (.goto (-50), 3) := by decide +kernel
theorem dX6_letCrowdsGo_55 : decode cX6_letCrowdsGo 55 = .ok (.return_, 1) := by decide +kernel
theorem dX6_setOut_0 : decode cX6_setOut 0 = .ok (.iconst 0, 1) := by decide +kernel
theorem dX6_setOut_1 : decode cX6_setOut 1 = .ok (.istore_n 1, 1) := by decide +kernel
theorem dX6_setOut_2 : decode cX6_setOut 2 = .ok (.iload_n 1, 1) := by decide +kernel
theorem dX6_setOut_3 : decode cX6_setOut 3 = .ok (.aload_n 0, 1) := by decide +kernel
theorem dX6_setOut_4 : decode cX6_setOut 4 = .ok (.getfield 48, 3) := by decide +kernel
theorem dX6_setOut_7 : decode cX6_setOut 7 = .ok (.getfield 84, 3) := by decide +kernel
theorem dX6_setOut_10 : decode cX6_setOut 10 = .ok (.if_icmp .ge 70, 3) := by decide +kernel
theorem dX6_setOut_13 : decode cX6_setOut 13 = .ok (.iload_n 1, 1) := by decide +kernel
theorem dX6_setOut_14 : decode cX6_setOut 14 = .ok (.invokestatic 77, 3) := by decide +kernel
theorem dX6_setOut_17 : decode cX6_setOut 17 = .ok (.istore_n 2, 1) := by decide +kernel
theorem dX6_setOut_18 : decode cX6_setOut 18 = .ok (.aload_n 0, 1) := by decide +kernel
theorem dX6_setOut_19 : decode cX6_setOut 19 = .ok (.getfield 37, 3) := by decide +kernel
theorem dX6_setOut_22 : decode cX6_setOut 22 = .ok (.iload_n 1, 1) := by decide +kernel
theorem dX6_setOut_23 : decode cX6_setOut 23 = .ok (.aload_n 0, 1) := by decide +kernel
theorem dX6_setOut_24 : decode cX6_setOut 24 = .ok (.getfield 12, 3) := by decide +kernel
theorem dX6_setOut_27 : decode cX6_setOut 27 = .ok (.iload_n 2, 1) := by decide +kernel
theorem dX6_setOut_28 : decode cX6_setOut 28 = .ok (.invokevirtual 164, 3) := by decide +kernel
theorem dX6_setOut_31 : decode cX6_setOut 31 = .ok (.ifCond .eq 7, 3) := by decide +kernel
theorem dX6_setOut_34 : decode cX6_setOut 34 = .ok (.iconst 0, 1) := by decide +kernel
theorem dX6_setOut_35 : decode cX6_setOut 35 = .ok (.goto 20, 3) := by decide +kernel
theorem dX6_setOut_38 : decode cX6_setOut 38 = .ok (.aload_n 0, 1) := by decide +kernel
theorem dX6_setOut_39 : decode cX6_setOut 39 = .ok (.iload_n 1, 1) := by decide +kernel
theorem dX6_setOut_40 : decode cX6_setOut 40 = .ok (.aload_n 0, 1) := by decide +kernel
theorem dX6_setOut_41 : decode cX6_setOut 41 = .ok (.getfield 48, 3) := by decide +kernel
theorem dX6_setOut_44 : decode cX6_setOut 44 = .ok (.iload_n 1, 1) := by decide +kernel
theorem dX6_setOut_45 : decode cX6_setOut 45 = .ok (.aload_n 0, 1) := by decide +kernel
theorem dX6_setOut_46 : decode cX6_setOut 46 = .ok (.getfield 56, 3) := by decide +kernel
theorem dX6_setOut_49 : decode cX6_setOut 49 = .ok (.invokevirtual 168, 3) := by decide +kernel
theorem dX6_setOut_52 : decode cX6_setOut 52 = .ok (.invokevirtual 171, 3) := by decide +kernel
theorem dX6_setOut_55 : decode cX6_setOut 55 = .ok (.iastore, 1) := by decide +kernel
theorem dX6_setOut_56 : decode cX6_setOut 56 = .ok (.aload_n 0, 1) := by decide +kernel
theorem dX6_setOut_57 : decode cX6_setOut 57 = .ok (.dup, 1) := by decide +kernel
theorem dX6_setOut_58 : decode cX6_setOut 58 = .ok (.getfield 123, 3) := by decide +kernel
theorem dX6_setOut_61 : decode cX6_setOut 61 = .ok (.aload_n 0, 1) := by decide +kernel
theorem dX6_setOut_62 : decode cX6_setOut 62 = .ok (.getfield 12, 3) := by decide +kernel
theorem dX6_setOut_65 : decode cX6_setOut 65 = .ok (.getfield 74, 3) := by decide +kernel
theorem dX6_setOut_68 : decode cX6_setOut 68 = .ok (.iload_n 2, 1) := by decide +kernel
theorem dX6_setOut_69 : decode cX6_setOut 69 = .ok (.iaload, 1) := by decide +kernel
theorem dX6_setOut_70 : decode cX6_setOut 70 = .ok (.iadd, 1) := by decide +kernel
theorem dX6_setOut_71 : decode cX6_setOut 71 = .ok (.putfield 123, 3) := by decide +kernel
theorem dX6_setOut_74 : decode cX6_setOut 74 = .ok (.iinc 1 1, 3) := by decide +kernel
theorem dX6_setOut_77 : decode cX6_setOut 77 = .ok (.goto (-75), 3) := by decide +kernel
theorem dX6_setOut_80 : decode cX6_setOut 80 = .ok (.return_, 1) := by decide +kernel
theorem dX6_setOutOn_0 : decode cX6_setOutOn 0 = .ok (.iload_n 1, 1) := by decide +kernel
theorem dX6_setOutOn_1 : decode cX6_setOutOn 1 = .ok (.invokestatic 77, 3) := by decide +kernel
theorem dX6_setOutOn_4 : decode cX6_setOutOn 4 = .ok (.istore_n 3, 1) := by decide +kernel
theorem dX6_setOutOn_5 : decode cX6_setOutOn 5 = .ok (.iconst 0, 1) := by decide +kernel
theorem dX6_setOutOn_6 : decode cX6_setOutOn 6 = .ok (.istore 4, 2) := by decide +kernel
theorem dX6_setOutOn_8 : decode cX6_setOutOn 8 = .ok (.iconst 0, 1) := by decide +kernel
theorem dX6_setOutOn_9 : decode cX6_setOutOn 9 = .ok (.istore 5, 2) := by decide +kernel
theorem dX6_setOutOn_11 : decode cX6_setOutOn 11 = .ok (.iload 5, 2) := by decide +kernel
theorem dX6_setOutOn_13 : decode cX6_setOutOn 13 = .ok (.sipush 4096, 3) := by decide +kernel
theorem dX6_setOutOn_16 : decode cX6_setOutOn 16 = .ok (.if_icmp .ge 99, 3) := by decide +kernel
theorem dX6_setOutOn_19 : decode cX6_setOutOn 19 = .ok (.iload 4, 2) := by decide +kernel
theorem dX6_setOutOn_21 : decode cX6_setOutOn 21 = .ok (.iload_n 2, 1) := by decide +kernel
theorem dX6_setOutOn_22 : decode cX6_setOutOn 22 = .ok (.if_icmp .ge 93, 3) := by decide +kernel
theorem dX6_setOutOn_25 : decode cX6_setOutOn 25 = .ok (.aload_n 0, 1) := by decide +kernel
theorem dX6_setOutOn_26 : decode cX6_setOutOn 26 = .ok (.getfield 12, 3) := by decide +kernel
theorem dX6_setOutOn_29 : decode cX6_setOutOn 29 = .ok (.iload_n 3, 1) := by decide +kernel
theorem dX6_setOutOn_30 : decode cX6_setOutOn 30 = .ok (.invokevirtual 164, 3) := by decide +kernel
theorem dX6_setOutOn_33 : decode cX6_setOutOn 33 = .ok (.ifCond .ne 82, 3) := by decide +kernel
theorem dX6_setOutOn_36 : decode cX6_setOutOn 36 = .ok (.aload_n 0, 1) := by decide +kernel
theorem dX6_setOutOn_37 : decode cX6_setOutOn 37 = .ok (.getfield 12, 3) := by decide +kernel
theorem dX6_setOutOn_40 : decode cX6_setOutOn 40 = .ok (.iload_n 3, 1) := by decide +kernel
theorem dX6_setOutOn_41 : decode cX6_setOutOn 41 = .ok (.invokevirtual 133, 3) := by decide +kernel
theorem dX6_setOutOn_44 : decode cX6_setOutOn 44 = .ok (.istore 6, 2) := by decide +kernel
theorem dX6_setOutOn_46 : decode cX6_setOutOn 46 = .ok (.aload_n 0, 1) := by decide +kernel
theorem dX6_setOutOn_47 : decode cX6_setOutOn 47 = .ok (.getfield 12, 3) := by decide +kernel
theorem dX6_setOutOn_50 : decode cX6_setOutOn 50 = .ok (.iload_n 3, 1) := by decide +kernel
theorem dX6_setOutOn_51 : decode cX6_setOutOn 51 = .ok (.invokevirtual 136, 3) := by decide +kernel
theorem dX6_setOutOn_54 : decode cX6_setOutOn 54 = .ok (.iload_n 2, 1) := by decide +kernel
theorem dX6_setOutOn_55 : decode cX6_setOutOn 55 = .ok (.iload 4, 2) := by decide +kernel
theorem dX6_setOutOn_57 : decode cX6_setOutOn 57 = .ok (.isub, 1) := by decide +kernel
theorem dX6_setOutOn_58 : decode cX6_setOutOn 58 = .ok (.invokestatic 107, 3) := by decide +kernel
theorem dX6_setOutOn_61 : decode cX6_setOutOn 61 = .ok (.istore 7, 2) := by decide +kernel
theorem dX6_setOutOn_63 : decode cX6_setOutOn 63 = .ok (.aload_n 0, 1) := by decide +kernel
theorem dX6_setOutOn_64 : decode cX6_setOutOn 64 = .ok (.getfield 12, 3) := by decide +kernel
theorem dX6_setOutOn_67 : decode cX6_setOutOn 67 = .ok (.iload_n 3, 1) := by decide +kernel
theorem dX6_setOutOn_68 : decode cX6_setOutOn 68 = .ok (.iload 7, 2) := by decide +kernel
theorem dX6_setOutOn_70 : decode cX6_setOutOn 70 = .ok (.invokevirtual 139, 3) := by decide +kernel
theorem dX6_setOutOn_73 : decode cX6_setOutOn 73 = .ok (.aload_n 0, 1) := by decide +kernel
theorem dX6_setOutOn_74 : decode cX6_setOutOn 74 = .ok (.getfield 12, 3) := by decide +kernel
theorem dX6_setOutOn_77 : decode cX6_setOutOn 77 = .ok (.iload_n 1, 1) := by decide +kernel
theorem dX6_setOutOn_78 : decode cX6_setOutOn 78 = .ok (.invokestatic 81, 3) := by decide +kernel
theorem dX6_setOutOn_81 : decode cX6_setOutOn 81 = .ok (.iload 6, 2) := by decide +kernel
theorem dX6_setOutOn_83 : decode cX6_setOutOn 83 = .ok (.iload 7, 2) := by decide +kernel
theorem dX6_setOutOn_85 : decode cX6_setOutOn 85 = .ok (.aload_n 0, 1) := by decide +kernel
theorem dX6_setOutOn_86 : decode cX6_setOutOn 86 = .ok (.getfield 56, 3) := by decide +kernel
theorem dX6_setOutOn_89 : decode cX6_setOutOn 89 = .ok (.aload_n 0, 1) := by decide +kernel
theorem dX6_setOutOn_90 : decode cX6_setOutOn 90 = .ok (.getfield 48, 3) := by decide +kernel
theorem dX6_setOutOn_93 : decode cX6_setOutOn 93 = .ok (.getfield 174, 3) := by decide +kernel
theorem dX6_setOutOn_96 : decode cX6_setOutOn 96 = .ok (.iload_n 1, 1) := by decide +kernel
theorem dX6_setOutOn_97 : decode cX6_setOutOn 97 = .ok (.iaload, 1) := by decide +kernel
theorem dX6_setOutOn_98 : decode cX6_setOutOn 98 = .ok (.iadd, 1) := by decide +kernel
theorem dX6_setOutOn_99 : decode cX6_setOutOn 99 = .ok (.invokevirtual 156, 3) := by decide +kernel
theorem dX6_setOutOn_102 : decode cX6_setOutOn 102 = .ok (.iload 4, 2) := by decide +kernel
theorem dX6_setOutOn_104 : decode cX6_setOutOn 104 = .ok (.iload 7, 2) := by decide +kernel
theorem dX6_setOutOn_106 : decode cX6_setOutOn 106 = .ok (.iadd, 1) := by decide +kernel
theorem dX6_setOutOn_107 : decode cX6_setOutOn 107 = .ok (.istore 4, 2) := by decide +kernel
theorem dX6_setOutOn_109 : decode cX6_setOutOn 109 = .ok (.iinc 5 1, 3) := by decide +kernel
theorem dX6_setOutOn_112 : decode cX6_setOutOn 112 = .ok (.goto (-101), 3) := by decide +kernel
theorem dX6_setOutOn_115 : decode cX6_setOutOn 115 = .ok (.aload_n 0, 1) := by decide +kernel
theorem dX6_setOutOn_116 : decode cX6_setOutOn 116 = .ok (.getfield 28, 3) := by decide +kernel
theorem dX6_setOutOn_119 : decode cX6_setOutOn 119 = .ok (.aload_n 0, 1) := by decide +kernel
theorem dX6_setOutOn_120 : decode cX6_setOutOn 120 = .ok (.getfield 48, 3) := by decide +kernel
theorem dX6_setOutOn_123 : decode cX6_setOutOn 123 = .ok (.getfield 177, 3) := by decide +kernel
theorem dX6_setOutOn_126 : decode cX6_setOutOn 126 = .ok (.iload_n 1, 1) := by decide +kernel
theorem dX6_setOutOn_127 : decode cX6_setOutOn 127 = .ok (.iaload, 1) := by decide +kernel
theorem dX6_setOutOn_128 : decode cX6_setOutOn 128 = .ok (.dup2, 1) := by decide +kernel
theorem dX6_setOutOn_129 : decode cX6_setOutOn 129 = .ok (.iaload, 1) := by decide +kernel
theorem dX6_setOutOn_130 : decode cX6_setOutOn 130 = .ok (.iload 4, 2) := by decide +kernel
theorem dX6_setOutOn_132 : decode cX6_setOutOn 132 = .ok (.isub, 1) := by decide +kernel
theorem dX6_setOutOn_133 : decode cX6_setOutOn 133 = .ok (.iastore, 1) := by decide +kernel
theorem dX6_setOutOn_134 : decode cX6_setOutOn 134 = .ok (.iload 4, 2) := by decide +kernel
theorem dX6_setOutOn_136 : decode cX6_setOutOn 136 = .ok (.ireturn, 1) := by decide +kernel
theorem dX7_init_0 : decode cX7_init 0 = .ok (.aload_n 0, 1) := by decide +kernel
theorem dX7_init_1 : decode cX7_init 1 = .ok (.invokespecial 3, 3) := by decide +kernel
theorem dX7_init_4 : decode cX7_init 4 = .ok (.aload_n 0, 1) := by decide +kernel
theorem dX7_init_5 : decode cX7_init 5 = .ok (.new 9, 3) := by decide +kernel
theorem dX7_init_8 : decode cX7_init 8 = .ok (.dup, 1) := by decide +kernel
theorem dX7_init_9 : decode cX7_init 9 = .ok (.invokespecial 11, 3) := by decide +kernel
theorem dX7_init_12 : decode cX7_init 12 = .ok (.putfield 12, 3) := by decide +kernel
theorem dX7_init_15 : decode cX7_init 15 = .ok (.aload_n 0, 1) := by decide +kernel
theorem dX7_init_16 : decode cX7_init 16 = .ok (.new 16, 3) := by decide +kernel
theorem dX7_init_19 : decode cX7_init 19 = .ok (.dup, 1) := by decide +kernel
theorem dX7_init_20 : decode cX7_init 20 = .ok (.invokespecial 18, 3) := by decide +kernel
theorem dX7_init_23 : decode cX7_init 23 = .ok (.putfield 19, 3) := by decide +kernel
theorem dX7_init_26 : decode cX7_init 26 = .ok (.aload_n 0, 1) := by decide +kernel
theorem dX7_init_27 : decode cX7_init 27 = .ok (.new 23, 3) := by decide +kernel
theorem dX7_init_30 : decode cX7_init 30 = .ok (.dup, 1) := by decide +kernel
theorem dX7_init_31 : decode cX7_init 31 = .ok (.invokespecial 25, 3) := by decide +kernel
theorem dX7_init_34 : decode cX7_init 34 = .ok (.putfield 26, 3) := by decide +kernel
theorem dX7_init_37 : decode cX7_init 37 = .ok (.aload_n 0, 1) := by decide +kernel
theorem dX7_init_38 : decode cX7_init 38 = .ok (.new 30, 3) := by decide +kernel
theorem dX7_init_41 : decode cX7_init 41 = .ok (.dup, 1) := by decide +kernel
theorem dX7_init_42 : decode cX7_init 42 = .ok (.aload_n 0, 1) := by decide +kernel
theorem dX7_init_43 : decode cX7_init 43 = .ok (.getfield 12, 3) := by decide +kernel
theorem dX7_init_46 : decode cX7_init 46 = .ok (.aload_n 0, 1) := by decide +kernel
theorem dX7_init_47 : decode cX7_init 47 = .ok (.getfield 19, 3) := by decide +kernel
theorem dX7_init_50 : decode cX7_init 50 = .ok (.aload_n 0, 1) := by decide +kernel
theorem dX7_init_51 : decode cX7_init 51 = .ok (.getfield 26, 3) := by decide +kernel
theorem dX7_init_54 : decode cX7_init 54 = .ok (.invokespecial 32, 3) := by decide +kernel
theorem dX7_init_57 : decode cX7_init 57 = .ok (.putfield 35, 3) := by decide +kernel
theorem dX7_init_60 : decode cX7_init 60 = .ok (.aload_n 0, 1) := by decide +kernel
theorem dX7_init_61 : decode cX7_init 61 = .ok (.bipush 16, 2) := by decide +kernel
theorem dX7_init_63 : decode cX7_init 63 = .ok (.anewarray 39, 3) := by decide +kernel
theorem dX7_init_66 : decode cX7_init 66 = .ok (.putfield 41, 3) := by decide +kernel
theorem dX7_init_69 : decode cX7_init 69 = .ok (.aload_n 0, 1) := by decide +kernel
theorem dX7_init_70 : decode cX7_init 70 = .ok (.new 45, 3) := by decide +kernel
theorem dX7_init_73 : decode cX7_init 73 = .ok (.dup, 1) := by decide +kernel
theorem dX7_init_74 : decode cX7_init 74 = .ok (.aload_n 0, 1) := by decide +kernel
theorem dX7_init_75 : decode cX7_init 75 = .ok (.getfield 35, 3) := by decide +kernel
theorem dX7_init_78 : decode cX7_init 78 = .ok (.new 30, 3) := by decide +kernel
theorem dX7_init_81 : decode cX7_init 81 = .ok (.dup, 1) := by decide +kernel
theorem dX7_init_82 : decode cX7_init 82 = .ok (.aload_n 0, 1) := by decide +kernel
theorem dX7_init_83 : decode cX7_init 83 = .ok (.getfield 12, 3) := by decide +kernel
theorem dX7_init_86 : decode cX7_init 86 = .ok (.aload_n 0, 1) := by decide +kernel
theorem dX7_init_87 : decode cX7_init 87 = .ok (.getfield 19, 3) := by decide +kernel
theorem dX7_init_90 : decode cX7_init 90 = .ok (.aload_n 0, 1) := by decide +kernel
theorem dX7_init_91 : decode cX7_init 91 = .ok (.getfield 26, 3) := by decide +kernel
theorem dX7_init_94 : decode cX7_init 94 = .ok (.invokespecial 32, 3) := by decide +kernel
theorem dX7_init_97 : decode cX7_init 97 = .ok (.invokespecial 47, 3) := by decide +kernel
theorem dX7_init_100 : decode cX7_init 100 = .ok (.putfield 50, 3) := by decide +kernel
theorem dX7_init_103 : decode cX7_init 103 = .ok (.return_, 1) := by decide +kernel
theorem dX7_town_0 : decode cX7_town 0 = .ok (.iload_n 1, 1) := by decide +kernel
theorem dX7_town_1 : decode cX7_town 1 = .ok (.iconst 0, 1) := by decide +kernel
theorem dX7_town_2 : decode cX7_town 2 = .ok (.bipush 99, 2) := by decide +kernel
theorem dX7_town_4 : decode cX7_town 4 = .ok (.invokestatic 54, 3) := by decide +kernel
theorem dX7_town_7 : decode cX7_town 7 = .ok (.ifCond .eq 25, 3) := by decide +kernel
theorem dX7_town_10 : decode cX7_town 10 = .ok (.iload_n 2, 1) := by decide +kernel
theorem dX7_town_11 : decode cX7_town 11 = .ok (.iconst 0, 1) := by decide +kernel
theorem dX7_town_12 : decode cX7_town 12 = .ok (.ldc 58, 2) := by decide +kernel
theorem dX7_town_14 : decode cX7_town 14 = .ok (.invokestatic 54, 3) := by decide +kernel
theorem dX7_town_17 : decode cX7_town 17 = .ok (.ifCond .eq 15, 3) := by decide +kernel
theorem dX7_town_20 : decode cX7_town 20 = .ok (.aload_n 0, 1) := by decide +kernel
theorem dX7_town_21 : decode cX7_town 21 = .ok (.getfield 12, 3) := by decide +kernel
theorem dX7_town_24 : decode cX7_town 24 = .ok (.getfield 59, 3) := by decide +kernel
theorem dX7_town_27 : decode cX7_town 27 = .ok (.bipush 10, 2) := by decide +kernel
theorem dX7_town_29 : decode cX7_town 29 = .ok (.if_icmp .lt 5, 3) := by decide +kernel
theorem dX7_town_32 : decode cX7_town 32 = .ok (.iconst (-1), 1) := by decide +kernel
theorem dX7_town_33 : decode cX7_town 33 = .ok (.ireturn, 1) := by decide +kernel
theorem dX7_town_34 : decode cX7_town 34 = .ok (.aload_n 0, 1) := by decide +kernel
theorem dX7_town_35 : decode cX7_town 35 = .ok (.getfield 12, 3) := by decide +kernel
theorem dX7_town_38 : decode cX7_town 38 = .ok (.iload_n 1, 1) := by decide +kernel
theorem dX7_town_39 : decode cX7_town 39 = .ok (.invokevirtual 63, 3) := by decide +kernel
theorem dX7_town_42 : decode cX7_town 42 = .ok (.istore_n 3, 1) := by decide +kernel
theorem dX7_town_43 : decode cX7_town 43 = .ok (.aload_n 0, 1) := by decide +kernel
theorem dX7_town_44 : decode cX7_town 44 = .ok (.getfield 35, 3) := by decide +kernel
theorem dX7_town_47 : decode cX7_town 47 = .ok (.getfield 67, 3) := by decide +kernel
theorem dX7_town_50 : decode cX7_town 50 = .ok (.iload_n 3, 1) := by decide +kernel
theorem dX7_town_51 : decode cX7_town 51 = .ok (.iload_n 2, 1) := by decide +kernel
theorem dX7_town_52 : decode cX7_town 52 = .ok (.iastore, 1) := by decide +kernel
theorem dX7_town_53 : decode cX7_town 53 = .ok (.aload_n 0, 1) := by decide +kernel
theorem dX7_town_54 : decode cX7_town 54 = .ok (.getfield 50, 3) := by decide +kernel
theorem dX7_town_57 : decode cX7_town 57 = .ok (.invokevirtual 71, 3) := by decide +kernel
theorem dX7_town_60 : decode cX7_town 60 = .ok (.iload_n 3, 1) := by decide +kernel
theorem dX7_town_61 : decode cX7_town 61 = .ok (.ireturn, 1) := by decide +kernel
theorem dX7_path_0 : decode cX7_path 0 = .ok (.iload_n 1, 1) := by decide +kernel
theorem dX7_path_1 : decode cX7_path 1 = .ok (.iconst 1, 1) := by decide +kernel
theorem dX7_path_2 : decode cX7_path 2 = .ok (.bipush 100, 2) := by decide +kernel
theorem dX7_path_4 : decode cX7_path 4 = .ok (.invokestatic 54, 3) := by decide +kernel
theorem dX7_path_7 : decode cX7_path 7 = .ok (.ifCond .ne 5, 3) := by decide +kernel
theorem dX7_path_10 : decode cX7_path 10 = .ok (.iconst 0, 1) := by decide +kernel
theorem dX7_path_11 : decode cX7_path 11 = .ok (.ireturn, 1) := by decide +kernel
theorem dX7_path_12 : decode cX7_path 12 = .ok (.aload_n 0, 1) := by decide +kernel
theorem dX7_path_13 : decode cX7_path 13 = .ok (.getfield 12, 3) := by decide +kernel
theorem dX7_path_16 : decode cX7_path 16 = .ok (.iload_n 1, 1) := by decide +kernel
theorem dX7_path_17 : decode cX7_path 17 = .ok (.putfield 74, 3) := by decide +kernel
theorem dX7_path_20 : decode cX7_path 20 = .ok (.iconst 1, 1) := by decide +kernel
theorem dX7_path_21 : decode cX7_path 21 = .ok (.ireturn, 1) := by decide +kernel
theorem dX7_seconds_0 : decode cX7_seconds 0 = .ok (.aload_n 0, 1) := by decide +kernel
theorem dX7_seconds_1 : decode cX7_seconds 1 = .ok (.getfield 12, 3) := by decide +kernel
theorem dX7_seconds_4 : decode cX7_seconds 4 = .ok (.iload_n 1, 1) := by decide +kernel
theorem dX7_seconds_5 : decode cX7_seconds 5 = .ok (.invokevirtual 77, 3) := by decide +kernel
theorem dX7_seconds_8 : decode cX7_seconds 8 = .ok (.ifCond .eq 14, 3) := by decide +kernel
theorem dX7_seconds_11 : decode cX7_seconds 11 = .ok (.aload_n 0, 1) := by decide +kernel
theorem dX7_seconds_12 : decode cX7_seconds 12 = .ok (.getfield 12, 3) := by decide +kernel
theorem dX7_seconds_15 : decode cX7_seconds 15 = .ok (.iload_n 1, 1) := by decide +kernel
theorem dX7_seconds_16 : decode cX7_seconds 16 = .ok (.invokevirtual 81, 3) := by decide +kernel
theorem dX7_seconds_19 : decode cX7_seconds 19 = .ok (.goto 4, 3) := by decide +kernel
theorem dX7_seconds_22 : decode cX7_seconds 22 = .ok (.iconst (-1), 1) := by decide +kernel
theorem dX7_seconds_23 : decode cX7_seconds 23 = .ok (.ireturn, 1) := by decide +kernel
theorem dX7_clouds_0 : decode cX7_clouds 0 = .ok (.aload_n 0, 1) := by decide +kernel
theorem dX7_clouds_1 : decode cX7_clouds 1 = .ok (.getfield 12, 3) := by decide +kernel
theorem dX7_clouds_4 : decode cX7_clouds 4 = .ok (.iload_n 1, 1) := by decide +kernel
theorem dX7_clouds_5 : decode cX7_clouds 5 = .ok (.invokevirtual 77, 3) := by decide +kernel
theorem dX7_clouds_8 : decode cX7_clouds 8 = .ok (.ifCond .eq 13, 3) := by decide +kernel
theorem dX7_clouds_11 : decode cX7_clouds 11 = .ok (.iload_n 2, 1) := by decide +kernel
theorem dX7_clouds_12 : decode cX7_clouds 12 = .ok (.iconst 0, 1) := by decide +kernel
theorem dX7_clouds_13 : decode cX7_clouds 13 = .ok (.bipush 100, 2) := by decide +kernel
theorem dX7_clouds_15 : decode cX7_clouds 15 = .ok (.invokestatic 54, 3) := by decide +kernel
theorem dX7_clouds_18 : decode cX7_clouds 18 = .ok (.ifCond .ne 5, 3) := by decide +kernel
theorem dX7_clouds_21 : decode cX7_clouds 21 = .ok (.iconst 0, 1) := by decide +kernel
theorem dX7_clouds_22 : decode cX7_clouds 22 = .ok (.ireturn, 1) := by decide +kernel
theorem dX7_clouds_23 : decode cX7_clouds 23 = .ok (.aload_n 0, 1) := by decide +kernel
theorem dX7_clouds_24 : decode cX7_clouds 24 = .ok (.getfield 12, 3) := by decide +kernel
theorem dX7_clouds_27 : decode cX7_clouds 27 = .ok (.getfield 84, 3) := by decide +kernel
theorem dX7_clouds_30 : decode cX7_clouds 30 = .ok (.iload_n 1, 1) := by decide +kernel
theorem dX7_clouds_31 : decode cX7_clouds 31 = .ok (.iload_n 2, 1) := by decide +kernel
theorem dX7_clouds_32 : decode cX7_clouds 32 = .ok (.iastore, 1) := by decide +kernel
theorem dX7_clouds_33 : decode cX7_clouds 33 = .ok (.iconst 1, 1) := by decide +kernel
theorem dX7_clouds_34 : decode cX7_clouds 34 = .ok (.ireturn, 1) := by decide +kernel
theorem dX7_road_0 : decode cX7_road 0 = .ok (.aload_n 0, 1) := by decide +kernel
theorem dX7_road_1 : decode cX7_road 1 = .ok (.getfield 35, 3) := by decide +kernel
theorem dX7_road_4 : decode cX7_road 4 = .ok (.getfield 87, 3) := by decide +kernel
theorem dX7_road_7 : decode cX7_road 7 = .ok (.ifCond .ne 24, 3) := by decide +kernel
theorem dX7_road_10 : decode cX7_road 10 = .ok (.aload_n 0, 1) := by decide +kernel
theorem dX7_road_11 : decode cX7_road 11 = .ok (.getfield 19, 3) := by decide +kernel
theorem dX7_road_14 : decode cX7_road 14 = .ok (.getfield 90, 3) := by decide +kernel
theorem dX7_road_17 : decode cX7_road 17 = .ok (.bipush 16, 2) := by decide +kernel
theorem dX7_road_19 : decode cX7_road 19 = .ok (.if_icmp .ge 12, 3) := by decide +kernel
theorem dX7_road_22 : decode cX7_road 22 = .ok (.aload_n 0, 1) := by decide +kernel
theorem dX7_road_23 : decode cX7_road 23 = .ok (.iload_n 1, 1) := by decide +kernel
theorem dX7_road_24 : decode cX7_road 24 = .ok (.iload_n 2, 1) := by decide +kernel
theorem dX7_road_25 : decode cX7_road 25 = .ok (.invokevirtual 91, 3) := by decide +kernel
theorem dX7_road_28 : decode cX7_road 28 = .ok (.ifCond .ne 5, 3) := by decide +kernel
theorem dX7_road_31 : decode cX7_road 31 = .ok (.iconst (-1), 1) := by decide +kernel
theorem dX7_road_32 : decode cX7_road 32 = .ok (.ireturn, 1) := by decide +kernel
theorem dX7_road_33 : decode cX7_road 33 = .ok (.iload_n 3, 1) := by decide +kernel
theorem dX7_road_34 : decode cX7_road 34 = .ok (.iconst 1, 1) := by decide +kernel
theorem dX7_road_35 : decode cX7_road 35 = .ok (.sipush 5000, 3) := by decide +kernel
theorem dX7_road_38 : decode cX7_road 38 = .ok (.invokestatic 54, 3) := by decide +kernel
theorem dX7_road_41 : decode cX7_road 41 = .ok (.ifCond .eq 14, 3) := by decide +kernel
theorem dX7_road_44 : decode cX7_road 44 = .ok (.iload 4, 2) := by decide +kernel
theorem dX7_road_46 : decode cX7_road 46 = .ok (.iconst 1, 1) := by decide +kernel
theorem dX7_road_47 : decode cX7_road 47 = .ok (.bipush 9, 2) := by decide +kernel
theorem dX7_road_49 : decode cX7_road 49 = .ok (.invokestatic 54, 3) := by decide +kernel
theorem dX7_road_52 : decode cX7_road 52 = .ok (.ifCond .ne 5, 3) := by decide +kernel
theorem dX7_road_55 : decode cX7_road 55 = .ok (.iconst (-1), 1) := by decide +kernel
theorem dX7_road_56 : decode cX7_road 56 = .ok (.ireturn, 1) := by decide +kernel
theorem dX7_road_57 : decode cX7_road 57 = .ok (.aload_n 0, 1) := by decide +kernel
theorem dX7_road_58 : decode cX7_road 58 = .ok (.getfield 19, 3) := by decide +kernel
theorem dX7_road_61 : decode cX7_road 61 = .ok (.iload_n 1, 1) := by decide +kernel
theorem dX7_road_62 : decode cX7_road 62 = .ok (.iload_n 2, 1) := by decide +kernel
theorem dX7_road_63 : decode cX7_road 63 = .ok (.iload_n 3, 1) := by decide +kernel
theorem dX7_road_64 : decode cX7_road 64 = .ok (.iload 4, 2) := by decide +kernel
theorem dX7_road_66 : decode cX7_road 66 = .ok (.invokevirtual 95, 3) := by decide +kernel
theorem dX7_road_69 : decode cX7_road 69 = .ok (.istore 5, 2) := by decide +kernel
theorem dX7_road_71 : decode cX7_road 71 = .ok (.aload_n 0, 1) := by decide +kernel
theorem dX7_road_72 : decode cX7_road 72 = .ok (.getfield 41, 3) := by decide +kernel
theorem dX7_road_75 : decode cX7_road 75 = .ok (.iload 5, 2) := by decide +kernel
theorem dX7_road_77 : decode cX7_road 77 = .ok (.new 39, 3) := by decide +kernel
theorem dX7_road_80 : decode cX7_road 80 = .ok (.dup, 1) := by decide +kernel
theorem dX7_road_81 : decode cX7_road 81 = .ok (.invokespecial 98, 3) := by decide +kernel
theorem dX7_road_84 : decode cX7_road 84 = .ok (.aastore, 1) := by decide +kernel
theorem dX7_road_85 : decode cX7_road 85 = .ok (.aload_n 0, 1) := by decide +kernel
theorem dX7_road_86 : decode cX7_road 86 = .ok (.getfield 50, 3) := by decide +kernel
theorem dX7_road_89 : decode cX7_road 89 = .ok (.invokevirtual 71, 3) := by decide +kernel
theorem dX7_road_92 : decode cX7_road 92 = .ok (.iload 5, 2) := by decide +kernel
theorem dX7_road_94 : decode cX7_road 94 = .ok (.ireturn, 1) := by decide +kernel
theorem dX7_least_0 : decode cX7_least 0 = .ok (.aload_n 0, 1) := by decide +kernel
theorem dX7_least_1 : decode cX7_least 1 = .ok (.getfield 12, 3) := by decide +kernel
theorem dX7_least_4 : decode cX7_least 4 = .ok (.iload_n 1, 1) := by decide +kernel
theorem dX7_least_5 : decode cX7_least 5 = .ok (.invokevirtual 77, 3) := by decide +kernel
theorem dX7_least_8 : decode cX7_least 8 = .ok (.ifCond .eq 26, 3) := by decide +kernel
theorem dX7_least_11 : decode cX7_least 11 = .ok (.aload_n 0, 1) := by decide +kernel
theorem dX7_least_12 : decode cX7_least 12 = .ok (.getfield 12, 3) := by decide +kernel
theorem dX7_least_15 : decode cX7_least 15 = .ok (.iload_n 2, 1) := by decide +kernel
theorem dX7_least_16 : decode cX7_least 16 = .ok (.invokevirtual 77, 3) := by decide +kernel
theorem dX7_least_19 : decode cX7_least 19 = .ok (.ifCond .eq 15, 3) := by decide +kernel
theorem dX7_least_22 : decode cX7_least 22 = .ok (.aload_n 0, 1) := by decide +kernel
theorem dX7_least_23 : decode cX7_least 23 = .ok (.getfield 19, 3) := by decide +kernel
theorem dX7_least_26 : decode cX7_least 26 = .ok (.iload_n 1, 1) := by decide +kernel
theorem dX7_least_27 : decode cX7_least 27 = .ok (.iload_n 2, 1) := by decide +kernel
theorem dX7_least_28 : decode cX7_least 28 = .ok (.invokevirtual 99, 3) := by decide +kernel
theorem dX7_least_31 : decode cX7_least 31 = .ok (.goto 4, 3) := by decide +kernel
theorem dX7_least_34 : decode cX7_least 34 = .ok (.iconst (-1), 1) := by decide +kernel
theorem dX7_least_35 : decode cX7_least 35 = .ok (.ireturn, 1) := by decide +kernel
theorem dX7_crowd_0 : decode cX7_crowd 0 = .ok (.aload_n 0, 1) := by decide +kernel
theorem dX7_crowd_1 : decode cX7_crowd 1 = .ok (.getfield 35, 3) := by decide +kernel
theorem dX7_crowd_4 : decode cX7_crowd 4 = .ok (.getfield 87, 3) := by decide +kernel
theorem dX7_crowd_7 : decode cX7_crowd 7 = .ok (.ifCond .ne 24, 3) := by decide +kernel
theorem dX7_crowd_10 : decode cX7_crowd 10 = .ok (.aload_n 0, 1) := by decide +kernel
theorem dX7_crowd_11 : decode cX7_crowd 11 = .ok (.getfield 26, 3) := by decide +kernel
theorem dX7_crowd_14 : decode cX7_crowd 14 = .ok (.getfield 103, 3) := by decide +kernel
theorem dX7_crowd_17 : decode cX7_crowd 17 = .ok (.bipush 8, 2) := by decide +kernel
theorem dX7_crowd_19 : decode cX7_crowd 19 = .ok (.if_icmp .ge 12, 3) := by decide +kernel
theorem dX7_crowd_22 : decode cX7_crowd 22 = .ok (.aload_n 0, 1) := by decide +kernel
theorem dX7_crowd_23 : decode cX7_crowd 23 = .ok (.iload_n 1, 1) := by decide +kernel
theorem dX7_crowd_24 : decode cX7_crowd 24 = .ok (.iload_n 3, 1) := by decide +kernel
theorem dX7_crowd_25 : decode cX7_crowd 25 = .ok (.invokevirtual 91, 3) := by decide +kernel
theorem dX7_crowd_28 : decode cX7_crowd 28 = .ok (.ifCond .ne 5, 3) := by decide +kernel
theorem dX7_crowd_31 : decode cX7_crowd 31 = .ok (.iconst (-1), 1) := by decide +kernel
theorem dX7_crowd_32 : decode cX7_crowd 32 = .ok (.ireturn, 1) := by decide +kernel
theorem dX7_crowd_33 : decode cX7_crowd 33 = .ok (.iload_n 2, 1) := by decide +kernel
theorem dX7_crowd_34 : decode cX7_crowd 34 = .ok (.iconst 1, 1) := by decide +kernel
theorem dX7_crowd_35 : decode cX7_crowd 35 = .ok (.sipush 20000, 3) := by decide +kernel
theorem dX7_crowd_38 : decode cX7_crowd 38 = .ok (.invokestatic 54, 3) := by decide +kernel
theorem dX7_crowd_41 : decode cX7_crowd 41 = .ok (.ifCond .eq 16, 3) := by decide +kernel
theorem dX7_crowd_44 : decode cX7_crowd 44 = .ok (.aload_n 0, 1) := by decide +kernel
theorem dX7_crowd_45 : decode cX7_crowd 45 = .ok (.getfield 19, 3) := by decide +kernel
theorem dX7_crowd_48 : decode cX7_crowd 48 = .ok (.iload_n 1, 1) := by decide +kernel
theorem dX7_crowd_49 : decode cX7_crowd 49 = .ok (.iload_n 3, 1) := by decide +kernel
theorem dX7_crowd_50 : decode cX7_crowd 50 = .ok (.invokevirtual 99, 3) := by decide +kernel
theorem dX7_crowd_53 : decode cX7_crowd 53 = .ok (.iconst (-1), 1) := by decide +kernel
theorem dX7_crowd_54 : decode cX7_crowd 54 = .ok (.if_icmp .ne 5, 3) := by decide +kernel
theorem dX7_crowd_57 : decode cX7_crowd 57 = .ok (.iconst (-1), 1) := by decide +kernel
theorem dX7_crowd_58 : decode cX7_crowd 58 = .ok (.ireturn, 1) := by decide +kernel
theorem dX7_crowd_59 : decode cX7_crowd 59 = .ok (.aload_n 0, 1) := by decide +kernel
theorem dX7_crowd_60 : decode cX7_crowd 60 = .ok (.getfield 26, 3) := by decide +kernel
theorem dX7_crowd_63 : decode cX7_crowd 63 = .ok (.iload_n 1, 1) := by decide +kernel
theorem dX7_crowd_64 : decode cX7_crowd 64 = .ok (.iload_n 2, 1) := by decide +kernel
theorem dX7_crowd_65 : decode cX7_crowd 65 = .ok (.iload_n 3, 1) := by decide +kernel
theorem dX7_crowd_66 : decode cX7_crowd 66 = .ok (.invokevirtual 104, 3) := by decide +kernel
theorem dX7_crowd_69 : decode cX7_crowd 69 = .ok (.istore 4, 2) := by decide +kernel
theorem dX7_crowd_71 : decode cX7_crowd 71 = .ok (.aload_n 0, 1) := by decide +kernel
theorem dX7_crowd_72 : decode cX7_crowd 72 = .ok (.getfield 35, 3) := by decide +kernel
theorem dX7_crowd_75 : decode cX7_crowd 75 = .ok (.getfield 107, 3) := by decide +kernel
theorem dX7_crowd_78 : decode cX7_crowd 78 = .ok (.iload_n 1, 1) := by decide +kernel
theorem dX7_crowd_79 : decode cX7_crowd 79 = .ok (.dup2, 1) := by decide +kernel
theorem dX7_crowd_80 : decode cX7_crowd 80 = .ok (.iaload, 1) := by decide +kernel
theorem dX7_crowd_81 : decode cX7_crowd 81 = .ok (.iload_n 2, 1) := by decide +kernel
theorem dX7_crowd_82 : decode cX7_crowd 82 = .ok (.iadd, 1) := by decide +kernel
theorem dX7_crowd_83 : decode cX7_crowd 83 = .ok (.iastore, 1) := by decide +kernel
theorem dX7_crowd_84 : decode cX7_crowd 84 = .ok (.aload_n 0, 1) := by decide +kernel
theorem dX7_crowd_85 : decode cX7_crowd 85 = .ok (.getfield 50, 3) := by decide +kernel
theorem dX7_crowd_88 : decode cX7_crowd 88 = .ok (.invokevirtual 71, 3) := by decide +kernel
theorem dX7_crowd_91 : decode cX7_crowd 91 = .ok (.iload 4, 2) := by decide +kernel
theorem dX7_crowd_93 : decode cX7_crowd 93 = .ok (.ireturn, 1) := by decide +kernel
theorem dX7_dawn_0 : decode cX7_dawn 0 = .ok (.aload_n 0, 1) := by decide +kernel
theorem dX7_dawn_1 : decode cX7_dawn 1 = .ok (.getfield 35, 3) := by decide +kernel
theorem dX7_dawn_4 : decode cX7_dawn 4 = .ok (.getfield 87, 3) := by decide +kernel
theorem dX7_dawn_7 : decode cX7_dawn 7 = .ok (.ifCond .ne 13, 3) := by decide +kernel
theorem dX7_dawn_10 : decode cX7_dawn 10 = .ok (.iload_n 1, 1) := by decide +kernel
theorem dX7_dawn_11 : decode cX7_dawn 11 = .ok (.iconst 0, 1) := by decide +kernel
theorem dX7_dawn_12 : decode cX7_dawn 12 = .ok (.bipush 20, 2) := by decide +kernel
theorem dX7_dawn_14 : decode cX7_dawn 14 = .ok (.invokestatic 54, 3) := by decide +kernel
theorem dX7_dawn_17 : decode cX7_dawn 17 = .ok (.ifCond .ne 5, 3) := by decide +kernel
theorem dX7_dawn_20 : decode cX7_dawn 20 = .ok (.iconst (-1), 1) := by decide +kernel
theorem dX7_dawn_21 : decode cX7_dawn 21 = .ok (.ireturn, 1) := by decide +kernel
theorem dX7_dawn_22 : decode cX7_dawn 22 = .ok (.iconst 0, 1) := by decide +kernel
theorem dX7_dawn_23 : decode cX7_dawn 23 = .ok (.istore_n 2, 1) := by decide +kernel
theorem dX7_dawn_24 : decode cX7_dawn 24 = .ok (.iconst 0, 1) := by decide +kernel
theorem dX7_dawn_25 : decode cX7_dawn 25 = .ok (.istore_n 3, 1) := by decide +kernel
theorem dX7_dawn_26 : decode cX7_dawn 26 = .ok (.iload_n 3, 1) := by decide +kernel
theorem dX7_dawn_27 : decode cX7_dawn 27 = .ok (.aload_n 0, 1) := by decide +kernel
theorem dX7_dawn_28 : decode cX7_dawn 28 = .ok (.getfield 26, 3) := by decide +kernel
theorem dX7_dawn_31 : decode cX7_dawn 31 = .ok (.getfield 103, 3) := by decide +kernel
theorem dX7_dawn_34 : decode cX7_dawn 34 = .ok (.if_icmp .ge 103, 3) := by decide +kernel
theorem dX7_dawn_37 : decode cX7_dawn 37 = .ok (.aload_n 0, 1) := by decide +kernel
theorem dX7_dawn_38 : decode cX7_dawn 38 = .ok (.getfield 26, 3) := by decide +kernel
theorem dX7_dawn_41 : decode cX7_dawn 41 = .ok (.getfield 110, 3) := by decide +kernel
theorem dX7_dawn_44 : decode cX7_dawn 44 = .ok (.iload_n 3, 1) := by decide +kernel
theorem dX7_dawn_45 : decode cX7_dawn 45 = .ok (.iaload, 1) := by decide +kernel
theorem dX7_dawn_46 : decode cX7_dawn 46 = .ok (.istore 4, 2) := by decide +kernel
theorem dX7_dawn_48 : decode cX7_dawn 48 = .ok (.aload_n 0, 1) := by decide +kernel
theorem dX7_dawn_49 : decode cX7_dawn 49 = .ok (.iload 4, 2) := by decide +kernel
theorem dX7_dawn_51 : decode cX7_dawn 51 = .ok (.aload_n 0, 1) := by decide +kernel
theorem dX7_dawn_52 : decode cX7_dawn 52 = .ok (.getfield 26, 3) := by decide +kernel
theorem dX7_dawn_55 : decode cX7_dawn 55 = .ok (.getfield 113, 3) := by decide +kernel
theorem dX7_dawn_58 : decode cX7_dawn 58 = .ok (.iload_n 3, 1) := by decide +kernel
theorem dX7_dawn_59 : decode cX7_dawn 59 = .ok (.iaload, 1) := by decide +kernel
theorem dX7_dawn_60 : decode cX7_dawn 60 = .ok (.iload_n 1, 1) := by decide +kernel
theorem dX7_dawn_61 : decode cX7_dawn 61 = .ok (.invokevirtual 116, 3) := by decide +kernel
theorem dX7_dawn_64 : decode cX7_dawn 64 = .ok (.istore 5, 2) := by decide +kernel
theorem dX7_dawn_66 : decode cX7_dawn 66 = .ok (.iload 5, 2) := by decide +kernel
theorem dX7_dawn_68 : decode cX7_dawn 68 = .ok (.iload 4, 2) := by decide +kernel
theorem dX7_dawn_70 : decode cX7_dawn 70 = .ok (.if_icmp .eq 61, 3) := by decide +kernel
theorem dX7_dawn_73 : decode cX7_dawn 73 = .ok (.aload_n 0, 1) := by decide +kernel
theorem dX7_dawn_74 : decode cX7_dawn 74 = .ok (.getfield 35, 3) := by decide +kernel
theorem dX7_dawn_77 : decode cX7_dawn 77 = .ok (.getfield 107, 3) := by decide +kernel
theorem dX7_dawn_80 : decode cX7_dawn 80 = .ok (.iload 4, 2) := by decide +kernel
theorem dX7_dawn_82 : decode cX7_dawn 82 = .ok (.dup2, 1) := by decide +kernel
theorem dX7_dawn_83 : decode cX7_dawn 83 = .ok (.iaload, 1) := by decide +kernel
theorem dX7_dawn_84 : decode cX7_dawn 84 = .ok (.aload_n 0, 1) := by decide +kernel
theorem dX7_dawn_85 : decode cX7_dawn 85 = .ok (.getfield 26, 3) := by decide +kernel
theorem dX7_dawn_88 : decode cX7_dawn 88 = .ok (.getfield 119, 3) := by decide +kernel
theorem dX7_dawn_91 : decode cX7_dawn 91 = .ok (.iload_n 3, 1) := by decide +kernel
theorem dX7_dawn_92 : decode cX7_dawn 92 = .ok (.iaload, 1) := by decide +kernel
theorem dX7_dawn_93 : decode cX7_dawn 93 = .ok (.isub, 1) := by decide +kernel
theorem dX7_dawn_94 : decode cX7_dawn 94 = .ok (.iastore, 1) := by decide +kernel
theorem dX7_dawn_95 : decode cX7_dawn 95 = .ok (.aload_n 0, 1) := by decide +kernel
theorem dX7_dawn_96 : decode cX7_dawn 96 = .ok (.getfield 35, 3) := by decide +kernel
theorem dX7_dawn_99 : decode cX7_dawn 99 = .ok (.getfield 107, 3) := by decide +kernel
theorem dX7_dawn_102 : decode cX7_dawn 102 = .ok (.iload 5, 2) := by decide +kernel
theorem dX7_dawn_104 : decode cX7_dawn 104 = .ok (.dup2, 1) := by decide +kernel
theorem dX7_dawn_105 : decode cX7_dawn 105 = .ok (.iaload, 1) := by decide +kernel
theorem dX7_dawn_106 : decode cX7_dawn 106 = .ok (.aload_n 0, 1) := by decide +kernel
theorem dX7_dawn_107 : decode cX7_dawn 107 = .ok (.getfield 26, 3) := by decide +kernel
theorem dX7_dawn_110 : decode cX7_dawn 110 = .ok (.getfield 119, 3) := by decide +kernel
theorem dX7_dawn_113 : decode cX7_dawn 113 = .ok (.iload_n 3, 1) := by decide +kernel
theorem dX7_dawn_114 : decode cX7_dawn 114 = .ok (.iaload, 1) := by decide +kernel
theorem dX7_dawn_115 : decode cX7_dawn 115 = .ok (.iadd, 1) := by decide +kernel
theorem dX7_dawn_116 : decode cX7_dawn 116 = .ok (.iastore, 1) := by decide +kernel
theorem dX7_dawn_117 : decode cX7_dawn 117 = .ok (.aload_n 0, 1) := by decide +kernel
theorem dX7_dawn_118 : decode cX7_dawn 118 = .ok (.getfield 26, 3) := by decide +kernel
theorem dX7_dawn_121 : decode cX7_dawn 121 = .ok (.getfield 110, 3) := by decide +kernel
theorem dX7_dawn_124 : decode cX7_dawn 124 = .ok (.iload_n 3, 1) := by decide +kernel
theorem dX7_dawn_125 : decode cX7_dawn 125 = .ok (.iload 5, 2) := by decide +kernel
theorem dX7_dawn_127 : decode cX7_dawn 127 = .ok (.iastore, 1) := by decide +kernel
theorem dX7_dawn_128 : decode cX7_dawn 128 = .ok (.iinc 2 1, 3) := by decide +kernel
theorem dX7_dawn_131 : decode cX7_dawn 131 = .ok (.iinc 3 1, 3) := by decide +kernel
theorem dX7_dawn_134 : decode cX7_dawn 134 = .ok (.goto (-108), 3) := by decide +kernel
theorem dX7_dawn_137 : decode cX7_dawn 137 = .ok (.aload_n 0, 1) := by decide +kernel
theorem dX7_dawn_138 : decode cX7_dawn 138 = .ok (.getfield 50, 3) := by decide +kernel
theorem dX7_dawn_141 : decode cX7_dawn 141 = .ok (.invokevirtual 71, 3) := by decide +kernel
theorem dX7_dawn_144 : decode cX7_dawn 144 = .ok (.iload_n 2, 1) := by decide +kernel
theorem dX7_dawn_145 : decode cX7_dawn 145 = .ok (.ireturn, 1) := by decide +kernel
theorem dX7_hold_0 : decode cX7_hold 0 = .ok (.aload_n 0, 1) := by decide +kernel
theorem dX7_hold_1 : decode cX7_hold 1 = .ok (.getfield 26, 3) := by decide +kernel
theorem dX7_hold_4 : decode cX7_hold 4 = .ok (.iload_n 1, 1) := by decide +kernel
theorem dX7_hold_5 : decode cX7_hold 5 = .ok (.invokevirtual 122, 3) := by decide +kernel
theorem dX7_hold_8 : decode cX7_hold 8 = .ok (.ifCond .eq 31, 3) := by decide +kernel
theorem dX7_hold_11 : decode cX7_hold 11 = .ok (.aload_n 0, 1) := by decide +kernel
theorem dX7_hold_12 : decode cX7_hold 12 = .ok (.getfield 35, 3) := by decide +kernel
theorem dX7_hold_15 : decode cX7_hold 15 = .ok (.iload_n 1, 1) := by decide +kernel
theorem dX7_hold_16 : decode cX7_hold 16 = .ok (.invokevirtual 123, 3) := by decide +kernel
theorem dX7_hold_19 : decode cX7_hold 19 = .ok (.ifCond .ne 20, 3) := by decide +kernel
theorem dX7_hold_22 : decode cX7_hold 22 = .ok (.iload_n 2, 1) := by decide +kernel
theorem dX7_hold_23 : decode cX7_hold 23 = .ok (.aload_n 0, 1) := by decide +kernel
theorem dX7_hold_24 : decode cX7_hold 24 = .ok (.getfield 35, 3) := by decide +kernel
theorem dX7_hold_27 : decode cX7_hold 27 = .ok (.getfield 87, 3) := by decide +kernel
theorem dX7_hold_30 : decode cX7_hold 30 = .ok (.sipush 199, 3) := by decide +kernel
theorem dX7_hold_33 : decode cX7_hold 33 = .ok (.invokestatic 54, 3) := by decide +kernel
theorem dX7_hold_36 : decode cX7_hold 36 = .ok (.ifCond .ne 5, 3) := by decide +kernel
theorem dX7_hold_39 : decode cX7_hold 39 = .ok (.iconst 0, 1) := by decide +kernel
theorem dX7_hold_40 : decode cX7_hold 40 = .ok (.ireturn, 1) := by decide +kernel
theorem dX7_hold_41 : decode cX7_hold 41 = .ok (.aload_n 0, 1) := by decide +kernel
theorem dX7_hold_42 : decode cX7_hold 42 = .ok (.getfield 35, 3) := by decide +kernel
theorem dX7_hold_45 : decode cX7_hold 45 = .ok (.getfield 126, 3) := by decide +kernel
theorem dX7_hold_48 : decode cX7_hold 48 = .ok (.iload_n 1, 1) := by decide +kernel
theorem dX7_hold_49 : decode cX7_hold 49 = .ok (.iload_n 2, 1) := by decide +kernel
theorem dX7_hold_50 : decode cX7_hold 50 = .ok (.iastore, 1) := by decide +kernel
theorem dX7_hold_51 : decode cX7_hold 51 = .ok (.aload_n 0, 1) := by decide +kernel
theorem dX7_hold_52 : decode cX7_hold 52 = .ok (.getfield 50, 3) := by decide +kernel
theorem dX7_hold_55 : decode cX7_hold 55 = .ok (.invokevirtual 71, 3) := by decide +kernel
theorem dX7_hold_58 : decode cX7_hold 58 = .ok (.iconst 1, 1) := by decide +kernel
theorem dX7_hold_59 : decode cX7_hold 59 = .ok (.ireturn, 1) := by decide +kernel
theorem dX7_shut_0 : decode cX7_shut 0 = .ok (.aload_n 0, 1) := by decide +kernel
theorem dX7_shut_1 : decode cX7_shut 1 = .ok (.getfield 19, 3) := by decide +kernel
theorem dX7_shut_4 : decode cX7_shut 4 = .ok (.iload_n 1, 1) := by decide +kernel
theorem dX7_shut_5 : decode cX7_shut 5 = .ok (.invokevirtual 129, 3) := by decide +kernel
theorem dX7_shut_8 : decode cX7_shut 8 = .ok (.ifCond .eq 19, 3) := by decide +kernel
theorem dX7_shut_11 : decode cX7_shut 11 = .ok (.iload_n 2, 1) := by decide +kernel
theorem dX7_shut_12 : decode cX7_shut 12 = .ok (.aload_n 0, 1) := by decide +kernel
theorem dX7_shut_13 : decode cX7_shut 13 = .ok (.getfield 35, 3) := by decide +kernel
theorem dX7_shut_16 : decode cX7_shut 16 = .ok (.getfield 87, 3) := by decide +kernel
theorem dX7_shut_19 : decode cX7_shut 19 = .ok (.if_icmp .lt 8, 3) := by decide +kernel
theorem dX7_shut_22 : decode cX7_shut 22 = .ok (.iload_n 3, 1) := by decide +kernel
theorem dX7_shut_23 : decode cX7_shut 23 = .ok (.iload_n 2, 1) := by decide +kernel
theorem dX7_shut_24 : decode cX7_shut 24 = .ok (.if_icmp .gt 5, 3) := by decide +kernel
theorem dX7_shut_27 : decode cX7_shut 27 = .ok (.iconst 0, 1) := by decide +kernel
theorem dX7_shut_28 : decode cX7_shut 28 = .ok (.ireturn, 1) := by decide +kernel
theorem dX7_shut_29 : decode cX7_shut 29 = .ok (.aload_n 0, 1) := by decide +kernel
theorem dX7_shut_30 : decode cX7_shut 30 = .ok (.getfield 19, 3) := by decide +kernel
theorem dX7_shut_33 : decode cX7_shut 33 = .ok (.getfield 130, 3) := by decide +kernel
theorem dX7_shut_36 : decode cX7_shut 36 = .ok (.iload_n 1, 1) := by decide +kernel
theorem dX7_shut_37 : decode cX7_shut 37 = .ok (.iload_n 2, 1) := by decide +kernel
theorem dX7_shut_38 : decode cX7_shut 38 = .ok (.iastore, 1) := by decide +kernel
theorem dX7_shut_39 : decode cX7_shut 39 = .ok (.aload_n 0, 1) := by decide +kernel
theorem dX7_shut_40 : decode cX7_shut 40 = .ok (.getfield 19, 3) := by decide +kernel
theorem dX7_shut_43 : decode cX7_shut 43 = .ok (.getfield 133, 3) := by decide +kernel
theorem dX7_shut_46 : decode cX7_shut 46 = .ok (.iload_n 1, 1) := by decide +kernel
theorem dX7_shut_47 : decode cX7_shut 47 = .ok (.iload_n 3, 1) := by decide +kernel
theorem dX7_shut_48 : decode cX7_shut 48 = .ok (.iastore, 1) := by decide +kernel
theorem dX7_shut_49 : decode cX7_shut 49 = .ok (.aload_n 0, 1) := by decide +kernel
theorem dX7_shut_50 : decode cX7_shut 50 = .ok (.getfield 50, 3) := by decide +kernel
theorem dX7_shut_53 : decode cX7_shut 53 = .ok (.invokevirtual 71, 3) := by decide +kernel
theorem dX7_shut_56 : decode cX7_shut 56 = .ok (.iconst 1, 1) := by decide +kernel
theorem dX7_shut_57 : decode cX7_shut 57 = .ok (.ireturn, 1) := by decide +kernel
theorem dX7_go_0 : decode cX7_go 0 = .ok (.iload_n 1, 1) := by decide +kernel
theorem dX7_go_1 : decode cX7_go 1 = .ok (.iconst 0, 1) := by decide +kernel
theorem dX7_go_2 : decode cX7_go 2 = .ok (.bipush 50, 2) := by decide +kernel
theorem dX7_go_4 : decode cX7_go 4 = .ok (.invokestatic 54, 3) := by decide +kernel
theorem dX7_go_7 : decode cX7_go 7 = .ok (.ifCond .ne 5, 3) := by decide +kernel
theorem dX7_go_10 : decode cX7_go 10 = .ok (.iconst (-1), 1) := by decide +kernel
theorem dX7_go_11 : decode cX7_go 11 = .ok (.ireturn, 1) := by decide +kernel
theorem dX7_go_12 : decode cX7_go 12 = .ok (.iconst 0, 1) := by decide +kernel
theorem dX7_go_13 : decode cX7_go 13 = .ok (.istore_n 2, 1) := by decide +kernel
theorem dX7_go_14 : decode cX7_go 14 = .ok (.iload_n 2, 1) := by decide +kernel
theorem dX7_go_15 : decode cX7_go 15 = .ok (.iload_n 1, 1) := by decide +kernel
theorem dX7_go_16 : decode cX7_go 16 = .ok (.if_icmp .ge 60, 3) := by decide +kernel
theorem dX7_go_19 : decode cX7_go 19 = .ok (.aload_n 0, 1) := by decide +kernel
theorem dX7_go_20 : decode cX7_go 20 = .ok (.getfield 35, 3) := by decide +kernel
theorem dX7_go_23 : decode cX7_go 23 = .ok (.getfield 87, 3) := by decide +kernel
theorem dX7_go_26 : decode cX7_go 26 = .ok (.sipush 200, 3) := by decide +kernel
theorem dX7_go_29 : decode cX7_go 29 = .ok (.if_icmp .ge 47, 3) := by decide +kernel
theorem dX7_go_32 : decode cX7_go 32 = .ok (.aload_n 0, 1) := by decide +kernel
theorem dX7_go_33 : decode cX7_go 33 = .ok (.getfield 35, 3) := by decide +kernel
theorem dX7_go_36 : decode cX7_go 36 = .ok (.invokevirtual 136, 3) := by decide +kernel
theorem dX7_go_39 : decode cX7_go 39 = .ok (.aload_n 0, 1) := by decide +kernel
theorem dX7_go_40 : decode cX7_go 40 = .ok (.invokevirtual 139, 3) := by decide +kernel
theorem dX7_go_43 : decode cX7_go 43 = .ok (.aload_n 0, 1) := by decide +kernel
theorem dX7_go_44 : decode cX7_go 44 = .ok (.getfield 35, 3) := by decide +kernel
theorem dX7_go_47 : decode cX7_go 47 = .ok (.invokevirtual 142, 3) := by decide +kernel
theorem dX7_go_50 : decode cX7_go 50 = .ok (.aload_n 0, 1) := by decide +kernel
theorem dX7_go_51 : decode cX7_go 51 = .ok (.getfield 35, 3) := by decide +kernel
theorem dX7_go_54 : decode cX7_go 54 = .ok (.dup, 1) := by decide +kernel
theorem dX7_go_55 : decode cX7_go 55 = .ok (.getfield 87, 3) := by decide +kernel
theorem dX7_go_58 : decode cX7_go 58 = .ok (.iconst 1, 1) := by decide +kernel
theorem dX7_go_59 : decode cX7_go 59 = .ok (.iadd, 1) := by decide +kernel
theorem dX7_go_60 : decode cX7_go 60 = .ok (.putfield 87, 3) := by decide +kernel
theorem dX7_go_63 : decode cX7_go 63 = .ok (.aload_n 0, 1) := by decide +kernel
theorem dX7_go_64 : decode cX7_go 64 = .ok (.getfield 50, 3) := by decide +kernel
theorem dX7_go_67 : decode cX7_go 67 = .ok (.invokevirtual 71, 3) := by decide +kernel
theorem dX7_go_70 : decode cX7_go 70 = .ok (.iinc 2 1, 3) := by decide +kernel
theorem dX7_go_73 : decode cX7_go 73 = .ok (.goto (-59), 3) := by decide +kernel
theorem dX7_go_76 : decode cX7_go 76 = .ok (.aload_n 0, 1) := by decide +kernel
theorem dX7_go_77 : decode cX7_go 77 = .ok (.getfield 35, 3) := by decide +kernel
theorem dX7_go_80 : decode cX7_go 80 = .ok (.getfield 87, 3) := by decide +kernel
theorem dX7_go_83 : decode cX7_go 83 = .ok (.ireturn, 1) := by decide +kernel
theorem dX7_queue_0 : decode cX7_queue 0 = .ok (.aload_n 0, 1) := by decide +kernel
theorem dX7_queue_1 : decode cX7_queue 1 = .ok (.getfield 19, 3) := by decide +kernel
theorem dX7_queue_4 : decode cX7_queue 4 = .ok (.iload_n 1, 1) := by decide +kernel
theorem dX7_queue_5 : decode cX7_queue 5 = .ok (.invokevirtual 129, 3) := by decide +kernel
theorem dX7_queue_8 : decode cX7_queue 8 = .ok (.ifCond .eq 14, 3) := by decide +kernel
theorem dX7_queue_11 : decode cX7_queue 11 = .ok (.aload_n 0, 1) := by decide +kernel
theorem dX7_queue_12 : decode cX7_queue 12 = .ok (.getfield 35, 3) := by decide +kernel
theorem dX7_queue_15 : decode cX7_queue 15 = .ok (.iload_n 1, 1) := by decide +kernel
theorem dX7_queue_16 : decode cX7_queue 16 = .ok (.invokevirtual 145, 3) := by decide +kernel
theorem dX7_queue_19 : decode cX7_queue 19 = .ok (.goto 4, 3) := by decide +kernel
theorem dX7_queue_22 : decode cX7_queue 22 = .ok (.iconst (-1), 1) := by decide +kernel
theorem dX7_queue_23 : decode cX7_queue 23 = .ok (.ireturn, 1) := by decide +kernel
theorem dX7_on_0 : decode cX7_on 0 = .ok (.aload_n 0, 1) := by decide +kernel
theorem dX7_on_1 : decode cX7_on 1 = .ok (.getfield 19, 3) := by decide +kernel
theorem dX7_on_4 : decode cX7_on 4 = .ok (.iload_n 1, 1) := by decide +kernel
theorem dX7_on_5 : decode cX7_on 5 = .ok (.invokevirtual 129, 3) := by decide +kernel
theorem dX7_on_8 : decode cX7_on 8 = .ok (.ifCond .eq 14, 3) := by decide +kernel
theorem dX7_on_11 : decode cX7_on 11 = .ok (.aload_n 0, 1) := by decide +kernel
theorem dX7_on_12 : decode cX7_on 12 = .ok (.getfield 35, 3) := by decide +kernel
theorem dX7_on_15 : decode cX7_on 15 = .ok (.iload_n 1, 1) := by decide +kernel
theorem dX7_on_16 : decode cX7_on 16 = .ok (.invokevirtual 148, 3) := by decide +kernel
theorem dX7_on_19 : decode cX7_on 19 = .ok (.goto 4, 3) := by decide +kernel
theorem dX7_on_22 : decode cX7_on 22 = .ok (.iconst (-1), 1) := by decide +kernel
theorem dX7_on_23 : decode cX7_on 23 = .ok (.ireturn, 1) := by decide +kernel
theorem dX7_foretold_0 : decode cX7_foretold 0 = .ok (.iload_n 1, 1) := by decide +kernel
theorem dX7_foretold_1 : decode cX7_foretold 1 = .ok (.lookupswitch 57 #[(0, 27), (1, 42)], 27) := by decide +kernel
theorem dX7_foretold_28 : decode cX7_foretold 28 = .ok (.aload_n 0, 1) := by decide +kernel
theorem dX7_foretold_29 : decode cX7_foretold 29 = .ok (.getfield 50, 3) := by decide +kernel
theorem dX7_foretold_32 : decode cX7_foretold 32 = .ok (.invokevirtual 151, 3) := by decide +kernel
theorem dX7_foretold_35 : decode cX7_foretold 35 = .ok (.aload_n 0, 1) := by decide +kernel
theorem dX7_foretold_36 : decode cX7_foretold 36 = .ok (.getfield 50, 3) := by decide +kernel
theorem dX7_foretold_39 : decode cX7_foretold 39 = .ok (.getfield 154, 3) := by decide +kernel
theorem dX7_foretold_42 : decode cX7_foretold 42 = .ok (.ireturn, 1) := by decide +kernel
theorem dX7_foretold_43 : decode cX7_foretold 43 = .ok (.aload_n 0, 1) := by decide +kernel
theorem dX7_foretold_44 : decode cX7_foretold 44 = .ok (.getfield 50, 3) := by decide +kernel
theorem dX7_foretold_47 : decode cX7_foretold 47 = .ok (.invokevirtual 151, 3) := by decide +kernel
theorem dX7_foretold_50 : decode cX7_foretold 50 = .ok (.aload_n 0, 1) := by decide +kernel
theorem dX7_foretold_51 : decode cX7_foretold 51 = .ok (.getfield 50, 3) := by decide +kernel
theorem dX7_foretold_54 : decode cX7_foretold 54 = .ok (.getfield 157, 3) := by decide +kernel
theorem dX7_foretold_57 : decode cX7_foretold 57 = .ok (.ireturn, 1) := by decide +kernel
theorem dX7_foretold_58 : decode cX7_foretold 58 = .ok (.iconst (-1), 1) := by decide +kernel
theorem dX7_foretold_59 : decode cX7_foretold 59 = .ok (.ireturn, 1) := by decide +kernel
theorem dX7_lacks_0 : decode cX7_lacks 0 = .ok (.aload_n 0, 1) := by decide +kernel
theorem dX7_lacks_1 : decode cX7_lacks 1 = .ok (.getfield 12, 3) := by decide +kernel
theorem dX7_lacks_4 : decode cX7_lacks 4 = .ok (.iload_n 1, 1) := by decide +kernel
theorem dX7_lacks_5 : decode cX7_lacks 5 = .ok (.invokevirtual 77, 3) := by decide +kernel
theorem dX7_lacks_8 : decode cX7_lacks 8 = .ok (.ifCond .ne 5, 3) := by decide +kernel
theorem dX7_lacks_11 : decode cX7_lacks 11 = .ok (.iconst (-1), 1) := by decide +kernel
theorem dX7_lacks_12 : decode cX7_lacks 12 = .ok (.ireturn, 1) := by decide +kernel
theorem dX7_lacks_13 : decode cX7_lacks 13 = .ok (.aload_n 0, 1) := by decide +kernel
theorem dX7_lacks_14 : decode cX7_lacks 14 = .ok (.getfield 50, 3) := by decide +kernel
theorem dX7_lacks_17 : decode cX7_lacks 17 = .ok (.invokevirtual 151, 3) := by decide +kernel
theorem dX7_lacks_20 : decode cX7_lacks 20 = .ok (.aload_n 0, 1) := by decide +kernel
theorem dX7_lacks_21 : decode cX7_lacks 21 = .ok (.getfield 50, 3) := by decide +kernel
theorem dX7_lacks_24 : decode cX7_lacks 24 = .ok (.getfield 160, 3) := by decide +kernel
theorem dX7_lacks_27 : decode cX7_lacks 27 = .ok (.iload_n 1, 1) := by decide +kernel
theorem dX7_lacks_28 : decode cX7_lacks 28 = .ok (.iaload, 1) := by decide +kernel
theorem dX7_lacks_29 : decode cX7_lacks 29 = .ok (.ireturn, 1) := by decide +kernel
theorem dX7_plan_0 : decode cX7_plan 0 = .ok (.aload_n 0, 1) := by decide +kernel
theorem dX7_plan_1 : decode cX7_plan 1 = .ok (.getfield 26, 3) := by decide +kernel
theorem dX7_plan_4 : decode cX7_plan 4 = .ok (.iload_n 1, 1) := by decide +kernel
theorem dX7_plan_5 : decode cX7_plan 5 = .ok (.invokevirtual 122, 3) := by decide +kernel
theorem dX7_plan_8 : decode cX7_plan 8 = .ok (.ifCond .ne 5, 3) := by decide +kernel
theorem dX7_plan_11 : decode cX7_plan 11 = .ok (.iconst (-1), 1) := by decide +kernel
theorem dX7_plan_12 : decode cX7_plan 12 = .ok (.ireturn, 1) := by decide +kernel
theorem dX7_plan_13 : decode cX7_plan 13 = .ok (.aload_n 0, 1) := by decide +kernel
theorem dX7_plan_14 : decode cX7_plan 14 = .ok (.getfield 50, 3) := by decide +kernel
theorem dX7_plan_17 : decode cX7_plan 17 = .ok (.invokevirtual 163, 3) := by decide +kernel
theorem dX7_plan_20 : decode cX7_plan 20 = .ok (.aload_n 0, 1) := by decide +kernel
theorem dX7_plan_21 : decode cX7_plan 21 = .ok (.getfield 50, 3) := by decide +kernel
theorem dX7_plan_24 : decode cX7_plan 24 = .ok (.iload_n 1, 1) := by decide +kernel
theorem dX7_plan_25 : decode cX7_plan 25 = .ok (.invokevirtual 166, 3) := by decide +kernel
theorem dX7_plan_28 : decode cX7_plan 28 = .ok (.ireturn, 1) := by decide +kernel
theorem dX7_planned_0 : decode cX7_planned 0 = .ok (.iload_n 1, 1) := by decide +kernel
theorem dX7_planned_1 : decode cX7_planned 1 = .ok (.lookupswitch 85 #[(0, 27), (1, 56)], 27) := by decide +kernel
theorem dX7_planned_28 : decode cX7_planned 28 = .ok (.aload_n 0, 1) := by decide +kernel
theorem dX7_planned_29 : decode cX7_planned 29 = .ok (.getfield 50, 3) := by decide +kernel
theorem dX7_planned_32 : decode cX7_planned 32 = .ok (.invokevirtual 163, 3) := by decide +kernel
theorem dX7_planned_35 : decode cX7_planned 35 = .ok (.aload_n 0, 1) := by decide +kernel
theorem dX7_planned_36 : decode cX7_planned 36 = .ok (.getfield 50, 3) := by decide +kernel
theorem dX7_planned_39 : decode cX7_planned 39 = .ok (.invokevirtual 169, 3) := by decide +kernel
theorem dX7_planned_42 : decode cX7_planned 42 = .ok (.ifCond .eq 13, 3) := by decide +kernel
theorem dX7_planned_45 : decode cX7_planned 45 = .ok (.aload_n 0, 1) := by decide +kernel
theorem dX7_planned_46 : decode cX7_planned 46 = .ok (.getfield 50, 3) := by decide +kernel
theorem dX7_planned_49 : decode cX7_planned 49 = .ok (.getfield 173, 3) := by decide +kernel
theorem dX7_planned_52 : decode cX7_planned 52 = .ok (.goto 4, 3) := by decide +kernel
theorem dX7_planned_55 : decode cX7_planned 55 = .ok (.iconst (-1), 1) := by decide +kernel
theorem dX7_planned_56 : decode cX7_planned 56 = .ok (.ireturn, 1) := by decide +kernel
theorem dX7_planned_57 : decode cX7_planned 57 = .ok (.aload_n 0, 1) := by decide +kernel
theorem dX7_planned_58 : decode cX7_planned 58 = .ok (.getfield 50, 3) := by decide +kernel
theorem dX7_planned_61 : decode cX7_planned 61 = .ok (.invokevirtual 163, 3) := by decide +kernel
theorem dX7_planned_64 : decode cX7_planned 64 = .ok (.aload_n 0, 1) := by decide +kernel
theorem dX7_planned_65 : decode cX7_planned 65 = .ok (.getfield 50, 3) := by decide +kernel
theorem dX7_planned_68 : decode cX7_planned 68 = .ok (.invokevirtual 169, 3) := by decide +kernel
theorem dX7_planned_71 : decode cX7_planned 71 = .ok (.ifCond .eq 13, 3) := by decide +kernel
theorem dX7_planned_74 : decode cX7_planned 74 = .ok (.aload_n 0, 1) := by decide +kernel
theorem dX7_planned_75 : decode cX7_planned 75 = .ok (.getfield 50, 3) := by decide +kernel
theorem dX7_planned_78 : decode cX7_planned 78 = .ok (.getfield 176, 3) := by decide +kernel
theorem dX7_planned_81 : decode cX7_planned 81 = .ok (.goto 4, 3) := by decide +kernel
theorem dX7_planned_84 : decode cX7_planned 84 = .ok (.iconst (-1), 1) := by decide +kernel
theorem dX7_planned_85 : decode cX7_planned 85 = .ok (.ireturn, 1) := by decide +kernel
theorem dX7_planned_86 : decode cX7_planned 86 = .ok (.iconst (-1), 1) := by decide +kernel
theorem dX7_planned_87 : decode cX7_planned 87 = .ok (.ireturn, 1) := by decide +kernel
theorem dX7_counted_0 : decode cX7_counted 0 = .ok (.aload_n 0, 1) := by decide +kernel
theorem dX7_counted_1 : decode cX7_counted 1 = .ok (.iload_n 1, 1) := by decide +kernel
theorem dX7_counted_2 : decode cX7_counted 2 = .ok (.invokevirtual 179, 3) := by decide +kernel
theorem dX7_counted_5 : decode cX7_counted 5 = .ok (.astore 4, 2) := by decide +kernel
theorem dX7_counted_7 : decode cX7_counted 7 = .ok (.aload 4, 2) := by decide +kernel
theorem dX7_counted_9 : decode cX7_counted 9 = .ok (.ifnull 22, 3) := by decide +kernel
theorem dX7_counted_12 : decode cX7_counted 12 = .ok (.aload_n 0, 1) := by decide +kernel
theorem dX7_counted_13 : decode cX7_counted 13 = .ok (.iload_n 2, 1) := by decide +kernel
theorem dX7_counted_14 : decode cX7_counted 14 = .ok (.invokevirtual 183, 3) := by decide +kernel
theorem dX7_counted_17 : decode cX7_counted 17 = .ok (.ifCond .eq 14, 3) := by decide +kernel
theorem dX7_counted_20 : decode cX7_counted 20 = .ok (.iload_n 3, 1) := by decide +kernel
theorem dX7_counted_21 : decode cX7_counted 21 = .ok (.iconst (-1), 1) := by decide +kernel
theorem dX7_counted_22 : decode cX7_counted 22 = .ok (.sipush 5000, 3) := by decide +kernel
theorem dX7_counted_25 : decode cX7_counted 25 = .ok (.invokestatic 54, 3) := by decide +kernel
theorem dX7_counted_28 : decode cX7_counted 28 = .ok (.ifCond .ne 5, 3) := by decide +kernel
theorem dX7_counted_31 : decode cX7_counted 31 = .ok (.iconst 0, 1) := by decide +kernel
theorem dX7_counted_32 : decode cX7_counted 32 = .ok (.ireturn, 1) := by decide +kernel
theorem dX7_counted_33 : decode cX7_counted 33 = .ok (.aload 4, 2) := by decide +kernel
theorem dX7_counted_35 : decode cX7_counted 35 = .ok (.getfield 186, 3) := by decide +kernel
theorem dX7_counted_38 : decode cX7_counted 38 = .ok (.iload_n 2, 1) := by decide +kernel
theorem dX7_counted_39 : decode cX7_counted 39 = .ok (.iload_n 3, 1) := by decide +kernel
theorem dX7_counted_40 : decode cX7_counted 40 = .ok (.iastore, 1) := by decide +kernel
theorem dX7_counted_41 : decode cX7_counted 41 = .ok (.iconst 1, 1) := by decide +kernel
theorem dX7_counted_42 : decode cX7_counted 42 = .ok (.ireturn, 1) := by decide +kernel
theorem dX7_came_0 : decode cX7_came 0 = .ok (.aload_n 0, 1) := by decide +kernel
theorem dX7_came_1 : decode cX7_came 1 = .ok (.iload_n 1, 1) := by decide +kernel
theorem dX7_came_2 : decode cX7_came 2 = .ok (.invokevirtual 179, 3) := by decide +kernel
theorem dX7_came_5 : decode cX7_came 5 = .ok (.astore 5, 2) := by decide +kernel
theorem dX7_came_7 : decode cX7_came 7 = .ok (.aload 5, 2) := by decide +kernel
theorem dX7_came_9 : decode cX7_came 9 = .ok (.ifnull 24, 3) := by decide +kernel
theorem dX7_came_12 : decode cX7_came 12 = .ok (.aload_n 0, 1) := by decide +kernel
theorem dX7_came_13 : decode cX7_came 13 = .ok (.iload_n 2, 1) := by decide +kernel
theorem dX7_came_14 : decode cX7_came 14 = .ok (.invokevirtual 183, 3) := by decide +kernel
theorem dX7_came_17 : decode cX7_came 17 = .ok (.ifCond .eq 16, 3) := by decide +kernel
theorem dX7_came_20 : decode cX7_came 20 = .ok (.aload_n 0, 1) := by decide +kernel
theorem dX7_came_21 : decode cX7_came 21 = .ok (.iload_n 3, 1) := by decide +kernel
theorem dX7_came_22 : decode cX7_came 22 = .ok (.invokevirtual 183, 3) := by decide +kernel
theorem dX7_came_25 : decode cX7_came 25 = .ok (.ifCond .eq 8, 3) := by decide +kernel
theorem dX7_came_28 : decode cX7_came 28 = .ok (.iload_n 2, 1) := by decide +kernel
theorem dX7_came_29 : decode cX7_came 29 = .ok (.iload_n 3, 1) := by decide +kernel
theorem dX7_came_30 : decode cX7_came 30 = .ok (.if_icmp .le 5, 3) := by decide +kernel
theorem dX7_came_33 : decode cX7_came 33 = .ok (.iconst (-1), 1) := by decide +kernel
theorem dX7_came_34 : decode cX7_came 34 = .ok (.ireturn, 1) := by decide +kernel
theorem dX7_came_35 : decode cX7_came 35 = .ok (.iload 4, 2) := by decide +kernel
theorem dX7_came_37 : decode cX7_came 37 = .ok (.lookupswitch 43 #[(0, 27), (1, 35)], 27) := by decide +kernel
theorem dX7_came_64 : decode cX7_came 64 = .ok (.aload 5, 2) := by decide +kernel
theorem dX7_came_66 : decode cX7_came 66 = .ok (.iload_n 2, 1) := by decide +kernel
theorem dX7_came_67 : decode cX7_came 67 = .ok (.iload_n 3, 1) := by decide +kernel
theorem dX7_came_68 : decode cX7_came 68 = .ok (.invokevirtual 189, 3) := by decide +kernel
theorem dX7_came_71 : decode cX7_came 71 = .ok (.ireturn, 1) := by decide +kernel
theorem dX7_came_72 : decode cX7_came 72 = .ok (.aload 5, 2) := by decide +kernel
theorem dX7_came_74 : decode cX7_came 74 = .ok (.iload_n 2, 1) := by decide +kernel
theorem dX7_came_75 : decode cX7_came 75 = .ok (.iload_n 3, 1) := by decide +kernel
theorem dX7_came_76 : decode cX7_came 76 = .ok (.invokevirtual 192, 3) := by decide +kernel
theorem dX7_came_79 : decode cX7_came 79 = .ok (.ireturn, 1) := by decide +kernel
theorem dX7_came_80 : decode cX7_came 80 = .ok (.iconst (-1), 1) := by decide +kernel
theorem dX7_came_81 : decode cX7_came 81 = .ok (.ireturn, 1) := by decide +kernel
theorem dX7_out_0 : decode cX7_out 0 = .ok (.aload_n 0, 1) := by decide +kernel
theorem dX7_out_1 : decode cX7_out 1 = .ok (.iload_n 1, 1) := by decide +kernel
theorem dX7_out_2 : decode cX7_out 2 = .ok (.invokevirtual 179, 3) := by decide +kernel
theorem dX7_out_5 : decode cX7_out 5 = .ok (.astore_n 3, 1) := by decide +kernel
theorem dX7_out_6 : decode cX7_out 6 = .ok (.aload_n 3, 1) := by decide +kernel
theorem dX7_out_7 : decode cX7_out 7 = .ok (.ifnull 20, 3) := by decide +kernel
theorem dX7_out_10 : decode cX7_out 10 = .ok (.aload_n 0, 1) := by decide +kernel
theorem dX7_out_11 : decode cX7_out 11 = .ok (.iload_n 2, 1) := by decide +kernel
theorem dX7_out_12 : decode cX7_out 12 = .ok (.invokevirtual 183, 3) := by decide +kernel
theorem dX7_out_15 : decode cX7_out 15 = .ok (.ifCond .eq 12, 3) := by decide +kernel
theorem dX7_out_18 : decode cX7_out 18 = .ok (.aload_n 3, 1) := by decide +kernel
theorem dX7_out_19 : decode cX7_out 19 = .ok (.getfield 195, 3) := by decide +kernel
theorem dX7_out_22 : decode cX7_out 22 = .ok (.iload_n 2, 1) := by decide +kernel
theorem dX7_out_23 : decode cX7_out 23 = .ok (.iaload, 1) := by decide +kernel
theorem dX7_out_24 : decode cX7_out 24 = .ok (.goto 4, 3) := by decide +kernel
theorem dX7_out_27 : decode cX7_out 27 = .ok (.iconst (-1), 1) := by decide +kernel
theorem dX7_out_28 : decode cX7_out 28 = .ok (.ireturn, 1) := by decide +kernel
theorem dX7_told_0 : decode cX7_told 0 = .ok (.aload_n 0, 1) := by decide +kernel
theorem dX7_told_1 : decode cX7_told 1 = .ok (.getfield 26, 3) := by decide +kernel
theorem dX7_told_4 : decode cX7_told 4 = .ok (.iload_n 1, 1) := by decide +kernel
theorem dX7_told_5 : decode cX7_told 5 = .ok (.invokevirtual 122, 3) := by decide +kernel
theorem dX7_told_8 : decode cX7_told 8 = .ok (.ifCond .ne 5, 3) := by decide +kernel
theorem dX7_told_11 : decode cX7_told 11 = .ok (.iconst (-1), 1) := by decide +kernel
theorem dX7_told_12 : decode cX7_told 12 = .ok (.ireturn, 1) := by decide +kernel
theorem dX7_told_13 : decode cX7_told 13 = .ok (.iload_n 2, 1) := by decide +kernel
theorem dX7_told_14 : decode cX7_told 14 = .ok (.tableswitch 97 0 5 #[38, 48, 58, 68, 78, 88], 38) := by decide +kernel
theorem dX7_told_52 : decode cX7_told 52 = .ok (.aload_n 0, 1) := by decide +kernel
theorem dX7_told_53 : decode cX7_told 53 = .ok (.getfield 26, 3) := by decide +kernel
theorem dX7_told_56 : decode cX7_told 56 = .ok (.getfield 110, 3) := by decide +kernel
theorem dX7_told_59 : decode cX7_told 59 = .ok (.iload_n 1, 1) := by decide +kernel
theorem dX7_told_60 : decode cX7_told 60 = .ok (.iaload, 1) := by decide +kernel
theorem dX7_told_61 : decode cX7_told 61 = .ok (.ireturn, 1) := by decide +kernel
theorem dX7_told_62 : decode cX7_told 62 = .ok (.aload_n 0, 1) := by decide +kernel
theorem dX7_told_63 : decode cX7_told 63 = .ok (.getfield 26, 3) := by decide +kernel
theorem dX7_told_66 : decode cX7_told 66 = .ok (.getfield 119, 3) := by decide +kernel
theorem dX7_told_69 : decode cX7_told 69 = .ok (.iload_n 1, 1) := by decide +kernel
theorem dX7_told_70 : decode cX7_told 70 = .ok (.iaload, 1) := by decide +kernel
theorem dX7_told_71 : decode cX7_told 71 = .ok (.ireturn, 1) := by decide +kernel
theorem dX7_told_72 : decode cX7_told 72 = .ok (.aload_n 0, 1) := by decide +kernel
theorem dX7_told_73 : decode cX7_told 73 = .ok (.getfield 26, 3) := by decide +kernel
theorem dX7_told_76 : decode cX7_told 76 = .ok (.getfield 113, 3) := by decide +kernel
theorem dX7_told_79 : decode cX7_told 79 = .ok (.iload_n 1, 1) := by decide +kernel
theorem dX7_told_80 : decode cX7_told 80 = .ok (.iaload, 1) := by decide +kernel
theorem dX7_told_81 : decode cX7_told 81 = .ok (.ireturn, 1) := by decide +kernel
theorem dX7_told_82 : decode cX7_told 82 = .ok (.aload_n 0, 1) := by decide +kernel
theorem dX7_told_83 : decode cX7_told 83 = .ok (.getfield 35, 3) := by decide +kernel
theorem dX7_told_86 : decode cX7_told 86 = .ok (.getfield 126, 3) := by decide +kernel
theorem dX7_told_89 : decode cX7_told 89 = .ok (.iload_n 1, 1) := by decide +kernel
theorem dX7_told_90 : decode cX7_told 90 = .ok (.iaload, 1) := by decide +kernel
theorem dX7_told_91 : decode cX7_told 91 = .ok (.ireturn, 1) := by decide +kernel
theorem dX7_told_92 : decode cX7_told 92 = .ok (.aload_n 0, 1) := by decide +kernel
theorem dX7_told_93 : decode cX7_told 93 = .ok (.getfield 35, 3) := by decide +kernel
theorem dX7_told_96 : decode cX7_told 96 = .ok (.getfield 198, 3) := by decide +kernel
theorem dX7_told_99 : decode cX7_told 99 = .ok (.iload_n 1, 1) := by decide +kernel
theorem dX7_told_100 : decode cX7_told 100 = .ok (.iaload, 1) := by decide +kernel
theorem dX7_told_101 : decode cX7_told 101 = .ok (.ireturn, 1) := by decide +kernel
theorem dX7_told_102 : decode cX7_told 102 = .ok (.aload_n 0, 1) := by decide +kernel
theorem dX7_told_103 : decode cX7_told 103 = .ok (.getfield 35, 3) := by decide +kernel
theorem dX7_told_106 : decode cX7_told 106 = .ok (.iload_n 1, 1) := by decide +kernel
theorem dX7_told_107 : decode cX7_told 107 = .ok (.invokevirtual 201, 3) := by decide +kernel
theorem dX7_told_110 : decode cX7_told 110 = .ok (.ireturn, 1) := by decide +kernel
theorem dX7_told_111 : decode cX7_told 111 = .ok (.iconst (-1), 1) := by decide +kernel
theorem dX7_told_112 : decode cX7_told 112 = .ok (.ireturn, 1) := by decide +kernel
theorem dX7_at_0 : decode cX7_at 0 = .ok (.aload_n 0, 1) := by decide +kernel
theorem dX7_at_1 : decode cX7_at 1 = .ok (.getfield 12, 3) := by decide +kernel
theorem dX7_at_4 : decode cX7_at 4 = .ok (.iload_n 1, 1) := by decide +kernel
theorem dX7_at_5 : decode cX7_at 5 = .ok (.invokevirtual 77, 3) := by decide +kernel
theorem dX7_at_8 : decode cX7_at 8 = .ok (.ifCond .ne 5, 3) := by decide +kernel
theorem dX7_at_11 : decode cX7_at 11 = .ok (.iconst (-1), 1) := by decide +kernel
theorem dX7_at_12 : decode cX7_at 12 = .ok (.ireturn, 1) := by decide +kernel
theorem dX7_at_13 : decode cX7_at 13 = .ok (.iload_n 2, 1) := by decide +kernel
theorem dX7_at_14 : decode cX7_at 14 = .ok (.tableswitch 56 0 2 #[26, 36, 46], 26) := by decide +kernel
theorem dX7_at_40 : decode cX7_at 40 = .ok (.aload_n 0, 1) := by decide +kernel
theorem dX7_at_41 : decode cX7_at 41 = .ok (.getfield 35, 3) := by decide +kernel
theorem dX7_at_44 : decode cX7_at 44 = .ok (.getfield 67, 3) := by decide +kernel
theorem dX7_at_47 : decode cX7_at 47 = .ok (.iload_n 1, 1) := by decide +kernel
theorem dX7_at_48 : decode cX7_at 48 = .ok (.iaload, 1) := by decide +kernel
theorem dX7_at_49 : decode cX7_at 49 = .ok (.ireturn, 1) := by decide +kernel
theorem dX7_at_50 : decode cX7_at 50 = .ok (.aload_n 0, 1) := by decide +kernel
theorem dX7_at_51 : decode cX7_at 51 = .ok (.getfield 35, 3) := by decide +kernel
theorem dX7_at_54 : decode cX7_at 54 = .ok (.getfield 107, 3) := by decide +kernel
theorem dX7_at_57 : decode cX7_at 57 = .ok (.iload_n 1, 1) := by decide +kernel
theorem dX7_at_58 : decode cX7_at 58 = .ok (.iaload, 1) := by decide +kernel
theorem dX7_at_59 : decode cX7_at 59 = .ok (.ireturn, 1) := by decide +kernel
theorem dX7_at_60 : decode cX7_at 60 = .ok (.aload_n 0, 1) := by decide +kernel
theorem dX7_at_61 : decode cX7_at 61 = .ok (.getfield 35, 3) := by decide +kernel
theorem dX7_at_64 : decode cX7_at 64 = .ok (.getfield 204, 3) := by decide +kernel
theorem dX7_at_67 : decode cX7_at 67 = .ok (.iload_n 1, 1) := by decide +kernel
theorem dX7_at_68 : decode cX7_at 68 = .ok (.iaload, 1) := by decide +kernel
theorem dX7_at_69 : decode cX7_at 69 = .ok (.ireturn, 1) := by decide +kernel
theorem dX7_at_70 : decode cX7_at 70 = .ok (.iconst (-1), 1) := by decide +kernel
theorem dX7_at_71 : decode cX7_at 71 = .ok (.ireturn, 1) := by decide +kernel
theorem dX7_count_0 : decode cX7_count 0 = .ok (.iload_n 1, 1) := by decide +kernel
theorem dX7_count_1 : decode cX7_count 1 = .ok (.tableswitch 99 0 6 #[43, 51, 59, 67, 75, 83, 91], 43) := by decide +kernel
theorem dX7_count_44 : decode cX7_count 44 = .ok (.aload_n 0, 1) := by decide +kernel
theorem dX7_count_45 : decode cX7_count 45 = .ok (.getfield 35, 3) := by decide +kernel
theorem dX7_count_48 : decode cX7_count 48 = .ok (.getfield 87, 3) := by decide +kernel
theorem dX7_count_51 : decode cX7_count 51 = .ok (.ireturn, 1) := by decide +kernel
theorem dX7_count_52 : decode cX7_count 52 = .ok (.aload_n 0, 1) := by decide +kernel
theorem dX7_count_53 : decode cX7_count 53 = .ok (.getfield 12, 3) := by decide +kernel
theorem dX7_count_56 : decode cX7_count 56 = .ok (.getfield 59, 3) := by decide +kernel
theorem dX7_count_59 : decode cX7_count 59 = .ok (.ireturn, 1) := by decide +kernel
theorem dX7_count_60 : decode cX7_count 60 = .ok (.aload_n 0, 1) := by decide +kernel
theorem dX7_count_61 : decode cX7_count 61 = .ok (.getfield 19, 3) := by decide +kernel
theorem dX7_count_64 : decode cX7_count 64 = .ok (.getfield 90, 3) := by decide +kernel
theorem dX7_count_67 : decode cX7_count 67 = .ok (.ireturn, 1) := by decide +kernel
theorem dX7_count_68 : decode cX7_count 68 = .ok (.aload_n 0, 1) := by decide +kernel
theorem dX7_count_69 : decode cX7_count 69 = .ok (.getfield 26, 3) := by decide +kernel
theorem dX7_count_72 : decode cX7_count 72 = .ok (.getfield 103, 3) := by decide +kernel
theorem dX7_count_75 : decode cX7_count 75 = .ok (.ireturn, 1) := by decide +kernel
theorem dX7_count_76 : decode cX7_count 76 = .ok (.aload_n 0, 1) := by decide +kernel
theorem dX7_count_77 : decode cX7_count 77 = .ok (.getfield 35, 3) := by decide +kernel
theorem dX7_count_80 : decode cX7_count 80 = .ok (.getfield 207, 3) := by decide +kernel
theorem dX7_count_83 : decode cX7_count 83 = .ok (.ireturn, 1) := by decide +kernel
theorem dX7_count_84 : decode cX7_count 84 = .ok (.aload_n 0, 1) := by decide +kernel
theorem dX7_count_85 : decode cX7_count 85 = .ok (.getfield 35, 3) := by decide +kernel
theorem dX7_count_88 : decode cX7_count 88 = .ok (.invokevirtual 210, 3) := by decide +kernel
theorem dX7_count_91 : decode cX7_count 91 = .ok (.ireturn, 1) := by decide +kernel
theorem dX7_count_92 : decode cX7_count 92 = .ok (.aload_n 0, 1) := by decide +kernel
theorem dX7_count_93 : decode cX7_count 93 = .ok (.getfield 35, 3) := by decide +kernel
theorem dX7_count_96 : decode cX7_count 96 = .ok (.getfield 214, 3) := by decide +kernel
theorem dX7_count_99 : decode cX7_count 99 = .ok (.ireturn, 1) := by decide +kernel
theorem dX7_count_100 : decode cX7_count 100 = .ok (.iconst (-1), 1) := by decide +kernel
theorem dX7_count_101 : decode cX7_count 101 = .ok (.ireturn, 1) := by decide +kernel
theorem dX7_within_0 : decode cX7_within 0 = .ok (.iload_n 0, 1) := by decide +kernel
theorem dX7_within_1 : decode cX7_within 1 = .ok (.iload_n 1, 1) := by decide +kernel
theorem dX7_within_2 : decode cX7_within 2 = .ok (.if_icmp .lt 12, 3) := by decide +kernel
theorem dX7_within_5 : decode cX7_within 5 = .ok (.iload_n 0, 1) := by decide +kernel
theorem dX7_within_6 : decode cX7_within 6 = .ok (.iload_n 2, 1) := by decide +kernel
theorem dX7_within_7 : decode cX7_within 7 = .ok (.if_icmp .gt 7, 3) := by decide +kernel
theorem dX7_within_10 : decode cX7_within 10 = .ok (.iconst 1, 1) := by decide +kernel
theorem dX7_within_11 : decode cX7_within 11 = .ok (.goto 4, 3) := by decide +kernel
theorem dX7_within_14 : decode cX7_within 14 = .ok (.iconst 0, 1) := by decide +kernel
theorem dX7_within_15 : decode cX7_within 15 = .ok (.ireturn, 1) := by decide +kernel
theorem dX7_areTwoTowns_0 : decode cX7_areTwoTowns 0 = .ok (.aload_n 0, 1) := by decide +kernel
theorem dX7_areTwoTowns_1 : decode cX7_areTwoTowns 1 = .ok (.getfield 12, 3) := by decide +kernel
theorem dX7_areTwoTowns_4 : decode cX7_areTwoTowns 4 = .ok (.iload_n 1, 1) := by decide +kernel
theorem dX7_areTwoTowns_5 : decode cX7_areTwoTowns 5 = .ok (.invokevirtual 77, 3) := by decide +kernel
theorem dX7_areTwoTowns_8 : decode cX7_areTwoTowns 8 = .ok (.ifCond .eq 23, 3) := by decide +kernel
theorem dX7_areTwoTowns_11 : decode cX7_areTwoTowns 11 = .ok (.aload_n 0, 1) := by decide +kernel
theorem dX7_areTwoTowns_12 : decode cX7_areTwoTowns 12 = .ok (.getfield 12, 3) := by decide +kernel
theorem dX7_areTwoTowns_15 : decode cX7_areTwoTowns 15 = .ok (.iload_n 2, 1) := by decide +kernel
theorem dX7_areTwoTowns_16 : decode cX7_areTwoTowns 16 = .ok (.invokevirtual 77, 3) := by decide +kernel
theorem dX7_areTwoTowns_19 : decode cX7_areTwoTowns 19 = .ok (.ifCond .eq 12, 3) := by decide +kernel
theorem dX7_areTwoTowns_22 : decode cX7_areTwoTowns 22 = .ok (.iload_n 1, 1) := by decide +kernel
theorem dX7_areTwoTowns_23 : decode cX7_areTwoTowns 23 = .ok (.iload_n 2, 1) := by decide +kernel
theorem dX7_areTwoTowns_24 : decode cX7_areTwoTowns 24 = .ok (.if_icmp .eq 7, 3) := by decide +kernel
theorem dX7_areTwoTowns_27 : decode cX7_areTwoTowns 27 = .ok (.iconst 1, 1) := by decide +kernel
theorem dX7_areTwoTowns_28 : decode cX7_areTwoTowns 28 = .ok (.goto 4, 3) := by decide +kernel
theorem dX7_areTwoTowns_31 : decode cX7_areTwoTowns 31 = .ok (.iconst 0, 1) := by decide +kernel
theorem dX7_areTwoTowns_32 : decode cX7_areTwoTowns 32 = .ok (.ireturn, 1) := by decide +kernel
theorem dX7_isOver_0 : decode cX7_isOver 0 = .ok (.iload_n 1, 1) := by decide +kernel
theorem dX7_isOver_1 : decode cX7_isOver 1 = .ok (.ifCond .lt 25, 3) := by decide +kernel
theorem dX7_isOver_4 : decode cX7_isOver 4 = .ok (.iload_n 1, 1) := by decide +kernel
theorem dX7_isOver_5 : decode cX7_isOver 5 = .ok (.aload_n 0, 1) := by decide +kernel
theorem dX7_isOver_6 : decode cX7_isOver 6 = .ok (.getfield 35, 3) := by decide +kernel
theorem dX7_isOver_9 : decode cX7_isOver 9 = .ok (.getfield 87, 3) := by decide +kernel
theorem dX7_isOver_12 : decode cX7_isOver 12 = .ok (.if_icmp .ge 14, 3) := by decide +kernel
theorem dX7_isOver_15 : decode cX7_isOver 15 = .ok (.iload_n 1, 1) := by decide +kernel
theorem dX7_isOver_16 : decode cX7_isOver 16 = .ok (.sipush 200, 3) := by decide +kernel
theorem dX7_isOver_19 : decode cX7_isOver 19 = .ok (.if_icmp .ge 7, 3) := by decide +kernel
theorem dX7_isOver_22 : decode cX7_isOver 22 = .ok (.iconst 1, 1) := by decide +kernel
theorem dX7_isOver_23 : decode cX7_isOver 23 = .ok (.goto 4, 3) := by decide +kernel
theorem dX7_isOver_26 : decode cX7_isOver 26 = .ok (.iconst 0, 1) := by decide +kernel
theorem dX7_isOver_27 : decode cX7_isOver 27 = .ok (.ireturn, 1) := by decide +kernel
theorem dX7_logOf_0 : decode cX7_logOf 0 = .ok (.aload_n 0, 1) := by decide +kernel
theorem dX7_logOf_1 : decode cX7_logOf 1 = .ok (.getfield 19, 3) := by decide +kernel
theorem dX7_logOf_4 : decode cX7_logOf 4 = .ok (.iload_n 1, 1) := by decide +kernel
theorem dX7_logOf_5 : decode cX7_logOf 5 = .ok (.invokevirtual 129, 3) := by decide +kernel
theorem dX7_logOf_8 : decode cX7_logOf 8 = .ok (.ifCond .eq 12, 3) := by decide +kernel
theorem dX7_logOf_11 : decode cX7_logOf 11 = .ok (.aload_n 0, 1) := by decide +kernel
theorem dX7_logOf_12 : decode cX7_logOf 12 = .ok (.getfield 41, 3) := by decide +kernel
theorem dX7_logOf_15 : decode cX7_logOf 15 = .ok (.iload_n 1, 1) := by decide +kernel
theorem dX7_logOf_16 : decode cX7_logOf 16 = .ok (.aaload, 1) := by decide +kernel
theorem dX7_logOf_17 : decode cX7_logOf 17 = .ok (.goto 4, 3) := by decide +kernel
theorem dX7_logOf_20 : decode cX7_logOf 20 = .ok (.aconst_null, 1) := by decide +kernel
theorem dX7_logOf_21 : decode cX7_logOf 21 = .ok (.areturn, 1) := by decide +kernel
theorem dX7_logTheHour_0 : decode cX7_logTheHour 0 = .ok (.iconst 0, 1) := by decide +kernel
theorem dX7_logTheHour_1 : decode cX7_logTheHour 1 = .ok (.istore_n 1, 1) := by decide +kernel
theorem dX7_logTheHour_2 : decode cX7_logTheHour 2 = .ok (.iload_n 1, 1) := by decide +kernel
theorem dX7_logTheHour_3 : decode cX7_logTheHour 3 = .ok (.aload_n 0, 1) := by decide +kernel
theorem dX7_logTheHour_4 : decode cX7_logTheHour 4 = .ok (.getfield 19, 3) := by decide +kernel
theorem dX7_logTheHour_7 : decode cX7_logTheHour 7 = .ok (.getfield 90, 3) := by decide +kernel
theorem dX7_logTheHour_10 : decode cX7_logTheHour 10 = .ok (.if_icmp .ge 55, 3) := by decide +kernel
theorem dX7_logTheHour_13 : decode cX7_logTheHour 13 = .ok (.aload_n 0, 1) := by decide +kernel
theorem dX7_logTheHour_14 : decode cX7_logTheHour 14 = .ok (.getfield 41, 3) := by decide +kernel
theorem dX7_logTheHour_17 : decode cX7_logTheHour 17 = .ok (.iload_n 1, 1) := by decide +kernel
theorem dX7_logTheHour_18 : decode cX7_logTheHour 18 = .ok (.aaload, 1) := by decide +kernel
theorem dX7_logTheHour_19 : decode cX7_logTheHour 19 = .ok (.astore_n 2, 1) := by decide +kernel
theorem dX7_logTheHour_20 : decode cX7_logTheHour 20 = .ok (.aload_n 2, 1) := by decide +kernel
theorem dX7_logTheHour_21 : decode cX7_logTheHour 21 = .ok (.ifnull 38, 3) := by decide +kernel
theorem dX7_logTheHour_24 : decode cX7_logTheHour 24 = .ok (.aload_n 2, 1) := by decide +kernel
theorem dX7_logTheHour_25 : decode cX7_logTheHour 25 = .ok (.aload_n 0, 1) := by decide +kernel
theorem dX7_logTheHour_26 : decode cX7_logTheHour 26 = .ok (.getfield 35, 3) := by decide +kernel
theorem dX7_logTheHour_29 : decode cX7_logTheHour 29 = .ok (.getfield 87, 3) := by decide +kernel
theorem dX7_logTheHour_32 : decode cX7_logTheHour 32 = .ok (.aload_n 0, 1) := by decide +kernel
theorem dX7_logTheHour_33 : decode cX7_logTheHour 33 = .ok (.getfield 35, 3) := by decide +kernel
theorem dX7_logTheHour_36 : decode cX7_logTheHour 36 = .ok (.getfield 217, 3) := by decide +kernel
theorem dX7_logTheHour_39 : decode cX7_logTheHour 39 = .ok (.iload_n 1, 1) := by decide +kernel
theorem dX7_logTheHour_40 : decode cX7_logTheHour 40 = .ok (.iaload, 1) := by decide +kernel
theorem dX7_logTheHour_41 : decode cX7_logTheHour 41 = .ok (.aload_n 0, 1) := by decide +kernel
theorem dX7_logTheHour_42 : decode cX7_logTheHour 42 = .ok (.getfield 19, 3) := by decide +kernel
theorem dX7_logTheHour_45 : decode cX7_logTheHour 45 = .ok (.iload_n 1, 1) := by decide +kernel
theorem dX7_logTheHour_46 : decode cX7_logTheHour 46 = .ok (.aload_n 0, 1) := by decide +kernel
theorem dX7_logTheHour_47 : decode cX7_logTheHour 47 = .ok (.getfield 35, 3) := by decide +kernel
theorem dX7_logTheHour_50 : decode cX7_logTheHour 50 = .ok (.getfield 87, 3) := by decide +kernel
theorem dX7_logTheHour_53 : decode cX7_logTheHour 53 = .ok (.invokevirtual 218, 3) := by decide +kernel
theorem dX7_logTheHour_56 : decode cX7_logTheHour 56 = .ok (.invokevirtual 221, 3) := by decide +kernel
theorem dX7_logTheHour_59 : decode cX7_logTheHour 59 = .ok (.iinc 1 1, 3) := by decide +kernel
theorem dX7_logTheHour_62 : decode cX7_logTheHour 62 = .ok (.goto (-60), 3) := by decide +kernel
theorem dX7_logTheHour_65 : decode cX7_logTheHour 65 = .ok (.return_, 1) := by decide +kernel
theorem dX7_bestSight_0 : decode cX7_bestSight 0 = .ok (.iload_n 1, 1) := by decide +kernel
theorem dX7_bestSight_1 : decode cX7_bestSight 1 = .ok (.istore 4, 2) := by decide +kernel
theorem dX7_bestSight_3 : decode cX7_bestSight 3 = .ok (.iconst 0, 1) := by decide +kernel
theorem dX7_bestSight_4 : decode cX7_bestSight 4 = .ok (.istore 5, 2) := by decide +kernel
theorem dX7_bestSight_6 : decode cX7_bestSight 6 = .ok (.iload 5, 2) := by decide +kernel
theorem dX7_bestSight_8 : decode cX7_bestSight 8 = .ok (.aload_n 0, 1) := by decide +kernel
theorem dX7_bestSight_9 : decode cX7_bestSight 9 = .ok (.getfield 12, 3) := by decide +kernel
theorem dX7_bestSight_12 : decode cX7_bestSight 12 = .ok (.getfield 59, 3) := by decide +kernel
theorem dX7_bestSight_15 : decode cX7_bestSight 15 = .ok (.if_icmp .ge 115, 3) := by decide +kernel
theorem dX7_bestSight_18 : decode cX7_bestSight 18 = .ok (.aload_n 0, 1) := by decide +kernel
theorem dX7_bestSight_19 : decode cX7_bestSight 19 = .ok (.getfield 19, 3) := by decide +kernel
theorem dX7_bestSight_22 : decode cX7_bestSight 22 = .ok (.iload_n 1, 1) := by decide +kernel
theorem dX7_bestSight_23 : decode cX7_bestSight 23 = .ok (.iload 5, 2) := by decide +kernel
theorem dX7_bestSight_25 : decode cX7_bestSight 25 = .ok (.invokevirtual 99, 3) := by decide +kernel
theorem dX7_bestSight_28 : decode cX7_bestSight 28 = .ok (.istore 6, 2) := by decide +kernel
theorem dX7_bestSight_30 : decode cX7_bestSight 30 = .ok (.iload 6, 2) := by decide +kernel
theorem dX7_bestSight_32 : decode cX7_bestSight 32 = .ok (.iconst (-1), 1) := by decide +kernel
theorem dX7_bestSight_33 : decode cX7_bestSight 33 = .ok (.if_icmp .eq 13, 3) := by decide +kernel
theorem dX7_bestSight_36 : decode cX7_bestSight 36 = .ok (.iload 6, 2) := by decide +kernel
theorem dX7_bestSight_38 : decode cX7_bestSight 38 = .ok (.iload_n 3, 1) := by decide +kernel
theorem dX7_bestSight_39 : decode cX7_bestSight 39 = .ok (.if_icmp .gt 7, 3) := by decide +kernel
theorem dX7_bestSight_42 : decode cX7_bestSight 42 = .ok (.iconst 1, 1) := by decide +kernel
theorem dX7_bestSight_43 : decode cX7_bestSight 43 = .ok (.goto 4, 3) := by decide +kernel
theorem dX7_bestSight_46 : decode cX7_bestSight 46 = .ok (.iconst 0, 1) := by decide +kernel
theorem dX7_bestSight_47 : decode cX7_bestSight 47 = .ok (.istore 7, 2) := by decide +kernel
theorem dX7_bestSight_49 : decode cX7_bestSight 49 = .ok (.iload 7, 2) := by decide +kernel
theorem dX7_bestSight_51 : decode cX7_bestSight 51 = .ok (.ifCond .eq 73, 3) := by decide +kernel
theorem dX7_bestSight_54 : decode cX7_bestSight 54 = .ok (.iload 5, 2) := by decide +kernel
theorem dX7_bestSight_56 : decode cX7_bestSight 56 = .ok (.iload_n 2, 1) := by decide +kernel
theorem dX7_bestSight_57 : decode cX7_bestSight 57 = .ok (.if_icmp .eq 67, 3) := by decide +kernel
theorem dX7_bestSight_60 : decode cX7_bestSight 60 = .ok (.aload_n 0, 1) := by decide +kernel
theorem dX7_bestSight_61 : decode cX7_bestSight 61 = .ok (.getfield 19, 3) := by decide +kernel
theorem dX7_bestSight_64 : decode cX7_bestSight 64 = .ok (.iload 5, 2) := by decide +kernel
theorem dX7_bestSight_66 : decode cX7_bestSight 66 = .ok (.iload_n 2, 1) := by decide +kernel
theorem dX7_bestSight_67 : decode cX7_bestSight 67 = .ok (.invokevirtual 99, 3) := by decide +kernel
theorem dX7_bestSight_70 : decode cX7_bestSight 70 = .ok (.iconst (-1), 1) := by decide +kernel
theorem dX7_bestSight_71 : decode cX7_bestSight 71 = .ok (.if_icmp .eq 53, 3) := by decide +kernel
theorem dX7_bestSight_74 : decode cX7_bestSight 74 = .ok (.aload_n 0, 1) := by decide +kernel
theorem dX7_bestSight_75 : decode cX7_bestSight 75 = .ok (.getfield 12, 3) := by decide +kernel
theorem dX7_bestSight_78 : decode cX7_bestSight 78 = .ok (.iload 5, 2) := by decide +kernel
theorem dX7_bestSight_80 : decode cX7_bestSight 80 = .ok (.invokevirtual 225, 3) := by decide +kernel
theorem dX7_bestSight_83 : decode cX7_bestSight 83 = .ok (.aload_n 0, 1) := by decide +kernel
theorem dX7_bestSight_84 : decode cX7_bestSight 84 = .ok (.getfield 12, 3) := by decide +kernel
theorem dX7_bestSight_87 : decode cX7_bestSight 87 = .ok (.iload 4, 2) := by decide +kernel
theorem dX7_bestSight_89 : decode cX7_bestSight 89 = .ok (.invokevirtual 225, 3) := by decide +kernel
theorem dX7_bestSight_92 : decode cX7_bestSight 92 = .ok (.isub, 1) := by decide +kernel
theorem dX7_bestSight_93 : decode cX7_bestSight 93 = .ok (.istore 8, 2) := by decide +kernel
theorem dX7_bestSight_95 : decode cX7_bestSight 95 = .ok (.iload 8, 2) := by decide +kernel
theorem dX7_bestSight_97 : decode cX7_bestSight 97 = .ok (.ifCond .gt 23, 3) := by decide +kernel
theorem dX7_bestSight_100 : decode cX7_bestSight 100 = .ok (.iload 8, 2) := by decide +kernel
theorem dX7_bestSight_102 : decode cX7_bestSight 102 = .ok (.ifCond .ne 22, 3) := by decide +kernel
theorem dX7_bestSight_105 : decode cX7_bestSight 105 = .ok (.iload 6, 2) := by decide +kernel
theorem dX7_bestSight_107 : decode cX7_bestSight 107 = .ok (.aload_n 0, 1) := by decide +kernel
theorem dX7_bestSight_108 : decode cX7_bestSight 108 = .ok (.getfield 19, 3) := by decide +kernel
theorem dX7_bestSight_111 : decode cX7_bestSight 111 = .ok (.iload_n 1, 1) := by decide +kernel
theorem dX7_bestSight_112 : decode cX7_bestSight 112 = .ok (.iload 4, 2) := by decide +kernel
theorem dX7_bestSight_114 : decode cX7_bestSight 114 = .ok (.invokevirtual 99, 3) := by decide +kernel
theorem dX7_bestSight_117 : decode cX7_bestSight 117 = .ok (.if_icmp .ge 7, 3) := by decide +kernel
theorem dX7_bestSight_120 : decode cX7_bestSight 120 = .ok (.iload 5, 2) := by decide +kernel
theorem dX7_bestSight_122 : decode cX7_bestSight 122 = .ok (.istore 4, 2) := by decide +kernel
theorem dX7_bestSight_124 : decode cX7_bestSight 124 = .ok (.iinc 5 1, 3) := by decide +kernel
theorem dX7_bestSight_127 : decode cX7_bestSight 127 = .ok (.goto (-121), 3) := by decide +kernel
theorem dX7_bestSight_130 : decode cX7_bestSight 130 = .ok (.iload 4, 2) := by decide +kernel
theorem dX7_bestSight_132 : decode cX7_bestSight 132 = .ok (.ireturn, 1) := by decide +kernel
theorem dX8_init_0 : decode cX8_init 0 = .ok (.aload_n 0, 1) := by decide +kernel
theorem dX8_init_1 : decode cX8_init 1 = .ok (.invokespecial 1, 3) := by decide +kernel
theorem dX8_init_4 : decode cX8_init 4 = .ok (.aload_n 0, 1) := by decide +kernel
theorem dX8_init_5 : decode cX8_init 5 = .ok (.bipush 10, 2) := by decide +kernel
theorem dX8_init_7 : decode cX8_init 7 = .ok (.newarray .int, 2) := by decide +kernel
theorem dX8_init_9 : decode cX8_init 9 = .ok (.putfield 9, 3) := by decide +kernel
theorem dX8_init_12 : decode cX8_init 12 = .ok (.aload_n 0, 1) := by decide +kernel
theorem dX8_init_13 : decode cX8_init 13 = .ok (.bipush 10, 2) := by decide +kernel
theorem dX8_init_15 : decode cX8_init 15 = .ok (.newarray .int, 2) := by decide +kernel
theorem dX8_init_17 : decode cX8_init 17 = .ok (.putfield 13, 3) := by decide +kernel
theorem dX8_init_20 : decode cX8_init 20 = .ok (.aload_n 0, 1) := by decide +kernel
theorem dX8_init_21 : decode cX8_init 21 = .ok (.bipush 50, 2) := by decide +kernel
theorem dX8_init_23 : decode cX8_init 23 = .ok (.putfield 16, 3) := by decide +kernel
theorem dX8_init_26 : decode cX8_init 26 = .ok (.aload_n 0, 1) := by decide +kernel
theorem dX8_init_27 : decode cX8_init 27 = .ok (.bipush 16, 2) := by decide +kernel
theorem dX8_init_29 : decode cX8_init 29 = .ok (.newarray .int, 2) := by decide +kernel
theorem dX8_init_31 : decode cX8_init 31 = .ok (.putfield 20, 3) := by decide +kernel
theorem dX8_init_34 : decode cX8_init 34 = .ok (.aload_n 0, 1) := by decide +kernel
theorem dX8_init_35 : decode cX8_init 35 = .ok (.bipush 16, 2) := by decide +kernel
theorem dX8_init_37 : decode cX8_init 37 = .ok (.newarray .int, 2) := by decide +kernel
theorem dX8_init_39 : decode cX8_init 39 = .ok (.putfield 23, 3) := by decide +kernel
theorem dX8_init_42 : decode cX8_init 42 = .ok (.aload_n 0, 1) := by decide +kernel
theorem dX8_init_43 : decode cX8_init 43 = .ok (.bipush 16, 2) := by decide +kernel
theorem dX8_init_45 : decode cX8_init 45 = .ok (.newarray .int, 2) := by decide +kernel
theorem dX8_init_47 : decode cX8_init 47 = .ok (.putfield 26, 3) := by decide +kernel
theorem dX8_init_50 : decode cX8_init 50 = .ok (.aload_n 0, 1) := by decide +kernel
theorem dX8_init_51 : decode cX8_init 51 = .ok (.bipush 16, 2) := by decide +kernel
theorem dX8_init_53 : decode cX8_init 53 = .ok (.newarray .int, 2) := by decide +kernel
theorem dX8_init_55 : decode cX8_init 55 = .ok (.putfield 29, 3) := by decide +kernel
theorem dX8_init_58 : decode cX8_init 58 = .ok (.aload_n 0, 1) := by decide +kernel
theorem dX8_init_59 : decode cX8_init 59 = .ok (.bipush 16, 2) := by decide +kernel
theorem dX8_init_61 : decode cX8_init 61 = .ok (.newarray .int, 2) := by decide +kernel
theorem dX8_init_63 : decode cX8_init 63 = .ok (.putfield 32, 3) := by decide +kernel
theorem dX8_init_66 : decode cX8_init 66 = .ok (.aload_n 0, 1) := by decide +kernel
theorem dX8_init_67 : decode cX8_init 67 = .ok (.bipush 16, 2) := by decide +kernel
theorem dX8_init_69 : decode cX8_init 69 = .ok (.newarray .int, 2) := by decide +kernel
theorem dX8_init_71 : decode cX8_init 71 = .ok (.putfield 35, 3) := by decide +kernel
theorem dX8_init_74 : decode cX8_init 74 = .ok (.aload_n 0, 1) := by decide +kernel
theorem dX8_init_75 : decode cX8_init 75 = .ok (.bipush 100, 2) := by decide +kernel
theorem dX8_init_77 : decode cX8_init 77 = .ok (.newarray .int, 2) := by decide +kernel
theorem dX8_init_79 : decode cX8_init 79 = .ok (.putfield 38, 3) := by decide +kernel
theorem dX8_init_82 : decode cX8_init 82 = .ok (.aload_n 0, 1) := by decide +kernel
theorem dX8_init_83 : decode cX8_init 83 = .ok (.bipush 8, 2) := by decide +kernel
theorem dX8_init_85 : decode cX8_init 85 = .ok (.newarray .int, 2) := by decide +kernel
theorem dX8_init_87 : decode cX8_init 87 = .ok (.putfield 41, 3) := by decide +kernel
theorem dX8_init_90 : decode cX8_init 90 = .ok (.aload_n 0, 1) := by decide +kernel
theorem dX8_init_91 : decode cX8_init 91 = .ok (.bipush 8, 2) := by decide +kernel
theorem dX8_init_93 : decode cX8_init 93 = .ok (.newarray .int, 2) := by decide +kernel
theorem dX8_init_95 : decode cX8_init 95 = .ok (.putfield 44, 3) := by decide +kernel
theorem dX8_init_98 : decode cX8_init 98 = .ok (.aload_n 0, 1) := by decide +kernel
theorem dX8_init_99 : decode cX8_init 99 = .ok (.bipush 8, 2) := by decide +kernel
theorem dX8_init_101 : decode cX8_init 101 = .ok (.newarray .int, 2) := by decide +kernel
theorem dX8_init_103 : decode cX8_init 103 = .ok (.putfield 47, 3) := by decide +kernel
theorem dX8_init_106 : decode cX8_init 106 = .ok (.aload_n 0, 1) := by decide +kernel
theorem dX8_init_107 : decode cX8_init 107 = .ok (.bipush 8, 2) := by decide +kernel
theorem dX8_init_109 : decode cX8_init 109 = .ok (.newarray .int, 2) := by decide +kernel
theorem dX8_init_111 : decode cX8_init 111 = .ok (.putfield 50, 3) := by decide +kernel
theorem dX8_init_114 : decode cX8_init 114 = .ok (.aload_n 0, 1) := by decide +kernel
theorem dX8_init_115 : decode cX8_init 115 = .ok (.sipush 3200, 3) := by decide +kernel
theorem dX8_init_118 : decode cX8_init 118 = .ok (.newarray .int, 2) := by decide +kernel
theorem dX8_init_120 : decode cX8_init 120 = .ok (.putfield 53, 3) := by decide +kernel
theorem dX8_init_123 : decode cX8_init 123 = .ok (.aload_n 0, 1) := by decide +kernel
theorem dX8_init_124 : decode cX8_init 124 = .ok (.sipush 3200, 3) := by decide +kernel
theorem dX8_init_127 : decode cX8_init 127 = .ok (.newarray .int, 2) := by decide +kernel
theorem dX8_init_129 : decode cX8_init 129 = .ok (.putfield 56, 3) := by decide +kernel
theorem dX8_init_132 : decode cX8_init 132 = .ok (.aload_n 0, 1) := by decide +kernel
theorem dX8_init_133 : decode cX8_init 133 = .ok (.sipush 3200, 3) := by decide +kernel
theorem dX8_init_136 : decode cX8_init 136 = .ok (.newarray .boolean, 2) := by decide +kernel
theorem dX8_init_138 : decode cX8_init 138 = .ok (.putfield 59, 3) := by decide +kernel
theorem dX8_init_141 : decode cX8_init 141 = .ok (.aload_n 0, 1) := by decide +kernel
theorem dX8_init_142 : decode cX8_init 142 = .ok (.sipush 3400, 3) := by decide +kernel
theorem dX8_init_145 : decode cX8_init 145 = .ok (.newarray .int, 2) := by decide +kernel
theorem dX8_init_147 : decode cX8_init 147 = .ok (.putfield 63, 3) := by decide +kernel
theorem dX8_init_150 : decode cX8_init 150 = .ok (.aload_n 0, 1) := by decide +kernel
theorem dX8_init_151 : decode cX8_init 151 = .ok (.sipush 3400, 3) := by decide +kernel
theorem dX8_init_154 : decode cX8_init 154 = .ok (.newarray .int, 2) := by decide +kernel
theorem dX8_init_156 : decode cX8_init 156 = .ok (.putfield 66, 3) := by decide +kernel
theorem dX8_init_159 : decode cX8_init 159 = .ok (.aload_n 0, 1) := by decide +kernel
theorem dX8_init_160 : decode cX8_init 160 = .ok (.sipush 3400, 3) := by decide +kernel
theorem dX8_init_163 : decode cX8_init 163 = .ok (.newarray .int, 2) := by decide +kernel
theorem dX8_init_165 : decode cX8_init 165 = .ok (.putfield 69, 3) := by decide +kernel
theorem dX8_init_168 : decode cX8_init 168 = .ok (.aload_n 0, 1) := by decide +kernel
theorem dX8_init_169 : decode cX8_init 169 = .ok (.sipush 3400, 3) := by decide +kernel
theorem dX8_init_172 : decode cX8_init 172 = .ok (.newarray .int, 2) := by decide +kernel
theorem dX8_init_174 : decode cX8_init 174 = .ok (.putfield 72, 3) := by decide +kernel
theorem dX8_init_177 : decode cX8_init 177 = .ok (.aload_n 0, 1) := by decide +kernel
theorem dX8_init_178 : decode cX8_init 178 = .ok (.bipush 32, 2) := by decide +kernel
theorem dX8_init_180 : decode cX8_init 180 = .ok (.newarray .int, 2) := by decide +kernel
theorem dX8_init_182 : decode cX8_init 182 = .ok (.putfield 75, 3) := by decide +kernel
theorem dX8_init_185 : decode cX8_init 185 = .ok (.aload_n 0, 1) := by decide +kernel
theorem dX8_init_186 : decode cX8_init 186 = .ok (.bipush 32, 2) := by decide +kernel
theorem dX8_init_188 : decode cX8_init 188 = .ok (.newarray .int, 2) := by decide +kernel
theorem dX8_init_190 : decode cX8_init 190 = .ok (.putfield 78, 3) := by decide +kernel
theorem dX8_init_193 : decode cX8_init 193 = .ok (.aload_n 0, 1) := by decide +kernel
theorem dX8_init_194 : decode cX8_init 194 = .ok (.bipush 8, 2) := by decide +kernel
theorem dX8_init_196 : decode cX8_init 196 = .ok (.newarray .boolean, 2) := by decide +kernel
theorem dX8_init_198 : decode cX8_init 198 = .ok (.putfield 81, 3) := by decide +kernel
theorem dX8_init_201 : decode cX8_init 201 = .ok (.aload_n 0, 1) := by decide +kernel
theorem dX8_init_202 : decode cX8_init 202 = .ok (.bipush 8, 2) := by decide +kernel
theorem dX8_init_204 : decode cX8_init 204 = .ok (.newarray .int, 2) := by decide +kernel
theorem dX8_init_206 : decode cX8_init 206 = .ok (.putfield 84, 3) := by decide +kernel
theorem dX8_init_209 : decode cX8_init 209 = .ok (.aload_n 0, 1) := by decide +kernel
theorem dX8_init_210 : decode cX8_init 210 = .ok (.bipush 8, 2) := by decide +kernel
theorem dX8_init_212 : decode cX8_init 212 = .ok (.newarray .int, 2) := by decide +kernel
theorem dX8_init_214 : decode cX8_init 214 = .ok (.putfield 87, 3) := by decide +kernel
theorem dX8_init_217 : decode cX8_init 217 = .ok (.aload_n 0, 1) := by decide +kernel
theorem dX8_init_218 : decode cX8_init 218 = .ok (.bipush 10, 2) := by decide +kernel
theorem dX8_init_220 : decode cX8_init 220 = .ok (.newarray .int, 2) := by decide +kernel
theorem dX8_init_222 : decode cX8_init 222 = .ok (.putfield 90, 3) := by decide +kernel
theorem dX8_init_225 : decode cX8_init 225 = .ok (.aload_n 0, 1) := by decide +kernel
theorem dX8_init_226 : decode cX8_init 226 = .ok (.bipush 10, 2) := by decide +kernel
theorem dX8_init_228 : decode cX8_init 228 = .ok (.newarray .int, 2) := by decide +kernel
theorem dX8_init_230 : decode cX8_init 230 = .ok (.putfield 93, 3) := by decide +kernel
theorem dX8_init_233 : decode cX8_init 233 = .ok (.aload_n 0, 1) := by decide +kernel
theorem dX8_init_234 : decode cX8_init 234 = .ok (.bipush 10, 2) := by decide +kernel
theorem dX8_init_236 : decode cX8_init 236 = .ok (.newarray .int, 2) := by decide +kernel
theorem dX8_init_238 : decode cX8_init 238 = .ok (.putfield 96, 3) := by decide +kernel
theorem dX8_init_241 : decode cX8_init 241 = .ok (.aload_n 0, 1) := by decide +kernel
theorem dX8_init_242 : decode cX8_init 242 = .ok (.sipush 13711, 3) := by decide +kernel
theorem dX8_init_245 : decode cX8_init 245 = .ok (.newarray .int, 2) := by decide +kernel
theorem dX8_init_247 : decode cX8_init 247 = .ok (.putfield 99, 3) := by decide +kernel
theorem dX8_init_250 : decode cX8_init 250 = .ok (.aload_n 0, 1) := by decide +kernel
theorem dX8_init_251 : decode cX8_init 251 = .ok (.iconst 4, 1) := by decide +kernel
theorem dX8_init_252 : decode cX8_init 252 = .ok (.newarray .int, 2) := by decide +kernel
theorem dX8_init_254 : decode cX8_init 254 = .ok (.putfield 102, 3) := by decide +kernel
