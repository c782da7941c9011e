theorem dX0_init_0 : decode cX0_init 0 = .ok (.aload_n 0, 1) := by decide +kernel
theorem dX0_init_1 : decode cX0_init 1 = .ok (.invokespecial 3, 3) := by decide +kernel
theorem dX0_init_4 : decode cX0_init 4 = .ok (.aload_n 0, 1) := by decide +kernel
theorem dX0_init_5 : decode cX0_init 5 = .ok (.bipush 8, 2) := by decide +kernel
theorem dX0_init_7 : decode cX0_init 7 = .ok (.newarray .int, 2) := by decide +kernel
theorem dX0_init_9 : decode cX0_init 9 = .ok (.putfield 9, 3) := by decide +kernel
theorem dX0_init_12 : decode cX0_init 12 = .ok (.aload_n 0, 1) := by decide +kernel
theorem dX0_init_13 : decode cX0_init 13 = .ok (.bipush 8, 2) := by decide +kernel
theorem dX0_init_15 : decode cX0_init 15 = .ok (.newarray .int, 2) := by decide +kernel
theorem dX0_init_17 : decode cX0_init 17 = .ok (.putfield 15, 3) := by decide +kernel
theorem dX0_init_20 : decode cX0_init 20 = .ok (.aload_n 0, 1) := by decide +kernel
theorem dX0_init_21 : decode cX0_init 21 = .ok (.bipush 8, 2) := by decide +kernel
theorem dX0_init_23 : decode cX0_init 23 = .ok (.newarray .int, 2) := by decide +kernel
theorem dX0_init_25 : decode cX0_init 25 = .ok (.putfield 18, 3) := by decide +kernel
theorem dX0_init_28 : decode cX0_init 28 = .ok (.return_, 1) := by decide +kernel
theorem dX0_has_0 : decode cX0_has 0 = .ok (.iload_n 1, 1) := by decide +kernel
theorem dX0_has_1 : decode cX0_has 1 = .ok (.ifCond .lt 15, 3) := by decide +kernel
theorem dX0_has_4 : decode cX0_has 4 = .ok (.iload_n 1, 1) := by decide +kernel
theorem dX0_has_5 : decode cX0_has 5 = .ok (.aload_n 0, 1) := by decide +kernel
theorem dX0_has_6 : decode cX0_has 6 = .ok (.getfield 21, 3) := by decide +kernel
theorem dX0_has_9 : decode cX0_has 9 = .ok (.if_icmp .ge 7, 3) := by decide +kernel
theorem dX0_has_12 : decode cX0_has 12 = .ok (.iconst 1, 1) := by decide +kernel
theorem dX0_has_13 : decode cX0_has 13 = .ok (.goto 4, 3) := by decide +kernel
theorem dX0_has_16 : decode cX0_has 16 = .ok (.iconst 0, 1) := by decide +kernel
theorem dX0_has_17 : decode cX0_has 17 = .ok (.ireturn, 1) := by decide +kernel
theorem dX0_add_0 : decode cX0_add 0 = .ok (.aload_n 0, 1) := by decide +kernel
theorem dX0_add_1 : decode cX0_add 1 = .ok (.getfield 9, 3) := by decide +kernel
theorem dX0_add_4 : decode cX0_add 4 = .ok (.aload_n 0, 1) := by decide +kernel
theorem dX0_add_5 : decode cX0_add 5 = .ok (.getfield 21, 3) := by decide +kernel
theorem dX0_add_8 : decode cX0_add 8 = .ok (.iload_n 1, 1) := by decide +kernel
theorem dX0_add_9 : decode cX0_add 9 = .ok (.iastore, 1) := by decide +kernel
theorem dX0_add_10 : decode cX0_add 10 = .ok (.aload_n 0, 1) := by decide +kernel
theorem dX0_add_11 : decode cX0_add 11 = .ok (.getfield 15, 3) := by decide +kernel
theorem dX0_add_14 : decode cX0_add 14 = .ok (.aload_n 0, 1) := by decide +kernel
theorem dX0_add_15 : decode cX0_add 15 = .ok (.getfield 21, 3) := by decide +kernel
theorem dX0_add_18 : decode cX0_add 18 = .ok (.iload_n 2, 1) := by decide +kernel
theorem dX0_add_19 : decode cX0_add 19 = .ok (.iastore, 1) := by decide +kernel
theorem dX0_add_20 : decode cX0_add 20 = .ok (.aload_n 0, 1) := by decide +kernel
theorem dX0_add_21 : decode cX0_add 21 = .ok (.getfield 18, 3) := by decide +kernel
theorem dX0_add_24 : decode cX0_add 24 = .ok (.aload_n 0, 1) := by decide +kernel
theorem dX0_add_25 : decode cX0_add 25 = .ok (.getfield 21, 3) := by decide +kernel
theorem dX0_add_28 : decode cX0_add 28 = .ok (.iload_n 3, 1) := by decide +kernel
theorem dX0_add_29 : decode cX0_add 29 = .ok (.iastore, 1) := by decide +kernel
theorem dX0_add_30 : decode cX0_add 30 = .ok (.aload_n 0, 1) := by decide +kernel
theorem dX0_add_31 : decode cX0_add 31 = .ok (.dup, 1) := by decide +kernel
theorem dX0_add_32 : decode cX0_add 32 = .ok (.getfield 25, 3) := by decide +kernel
theorem dX0_add_35 : decode cX0_add 35 = .ok (.iload_n 2, 1) := by decide +kernel
theorem dX0_add_36 : decode cX0_add 36 = .ok (.iadd, 1) := by decide +kernel
theorem dX0_add_37 : decode cX0_add 37 = .ok (.putfield 25, 3) := by decide +kernel
theorem dX0_add_40 : decode cX0_add 40 = .ok (.aload_n 0, 1) := by decide +kernel
theorem dX0_add_41 : decode cX0_add 41 = .ok (.dup, 1) := by decide +kernel
theorem dX0_add_42 : decode cX0_add 42 = .ok (.getfield 21, 3) := by decide +kernel
theorem dX0_add_45 : decode cX0_add 45 = .ok (.dup_x1, 1) := by decide +kernel
theorem dX0_add_46 : decode cX0_add 46 = .ok (.iconst 1, 1) := by decide +kernel
theorem dX0_add_47 : decode cX0_add 47 = .ok (.iadd, 1) := by decide +kernel
theorem dX0_add_48 : decode cX0_add 48 = .ok (.putfield 21, 3) := by decide +kernel
theorem dX0_add_51 : decode cX0_add 51 = .ok (.ireturn, 1) := by decide +kernel
theorem dX1_init_0 : decode cX1_init 0 = .ok (.aload_n 0, 1) := by decide +kernel
theorem dX1_init_1 : decode cX1_init 1 = .ok (.invokespecial 3, 3) := by decide +kernel
theorem dX1_init_4 : decode cX1_init 4 = .ok (.aload_n 0, 1) := by decide +kernel
theorem dX1_init_5 : decode cX1_init 5 = .ok (.bipush 10, 2) := by decide +kernel
theorem dX1_init_7 : decode cX1_init 7 = .ok (.newarray .int, 2) := by decide +kernel
theorem dX1_init_9 : decode cX1_init 9 = .ok (.putfield 9, 3) := by decide +kernel
theorem dX1_init_12 : decode cX1_init 12 = .ok (.aload_n 0, 1) := by decide +kernel
theorem dX1_init_13 : decode cX1_init 13 = .ok (.iconst 4, 1) := by decide +kernel
theorem dX1_init_14 : decode cX1_init 14 = .ok (.newarray .int, 2) := by decide +kernel
theorem dX1_init_16 : decode cX1_init 16 = .ok (.putfield 15, 3) := by decide +kernel
theorem dX1_init_19 : decode cX1_init 19 = .ok (.aload_n 0, 1) := by decide +kernel
theorem dX1_init_20 : decode cX1_init 20 = .ok (.iconst 4, 1) := by decide +kernel
theorem dX1_init_21 : decode cX1_init 21 = .ok (.newarray .int, 2) := by decide +kernel
theorem dX1_init_23 : decode cX1_init 23 = .ok (.putfield 18, 3) := by decide +kernel
theorem dX1_init_26 : decode cX1_init 26 = .ok (.aload_n 0, 1) := by decide +kernel
theorem dX1_init_27 : decode cX1_init 27 = .ok (.aload_n 1, 1) := by decide +kernel
theorem dX1_init_28 : decode cX1_init 28 = .ok (.putfield 21, 3) := by decide +kernel
theorem dX1_init_31 : decode cX1_init 31 = .ok (.aload_n 0, 1) := by decide +kernel
theorem dX1_init_32 : decode cX1_init 32 = .ok (.aload_n 2, 1) := by decide +kernel
theorem dX1_init_33 : decode cX1_init 33 = .ok (.putfield 25, 3) := by decide +kernel
theorem dX1_init_36 : decode cX1_init 36 = .ok (.return_, 1) := by decide +kernel
theorem dX1_forget_0 : decode cX1_forget 0 = .ok (.aload_n 0, 1) := by decide +kernel
theorem dX1_forget_1 : decode cX1_forget 1 = .ok (.iconst 0, 1) := by decide +kernel
theorem dX1_forget_2 : decode cX1_forget 2 = .ok (.putfield 28, 3) := by decide +kernel
theorem dX1_forget_5 : decode cX1_forget 5 = .ok (.aload_n 0, 1) := by decide +kernel
theorem dX1_forget_6 : decode cX1_forget 6 = .ok (.iconst 0, 1) := by decide +kernel
theorem dX1_forget_7 : decode cX1_forget 7 = .ok (.putfield 32, 3) := by decide +kernel
theorem dX1_forget_10 : decode cX1_forget 10 = .ok (.return_, 1) := by decide +kernel
theorem dX1_hasPlan_0 : decode cX1_hasPlan 0 = .ok (.aload_n 0, 1) := by decide +kernel
theorem dX1_hasPlan_1 : decode cX1_hasPlan 1 = .ok (.getfield 35, 3) := by decide +kernel
theorem dX1_hasPlan_4 : decode cX1_hasPlan 4 = .ok (.ifCond .le 7, 3) := by decide +kernel
theorem dX1_hasPlan_7 : decode cX1_hasPlan 7 = .ok (.iconst 1, 1) := by decide +kernel
theorem dX1_hasPlan_8 : decode cX1_hasPlan 8 = .ok (.goto 4, 3) := by decide +kernel
theorem dX1_hasPlan_11 : decode cX1_hasPlan 11 = .ok (.iconst 0, 1) := by decide +kernel
theorem dX1_hasPlan_12 : decode cX1_hasPlan 12 = .ok (.ireturn, 1) := by decide +kernel
theorem dX1_bestHour_0 : decode cX1_bestHour 0 = .ok (.iconst 0, 1) := by decide +kernel
theorem dX1_bestHour_1 : decode cX1_bestHour 1 = .ok (.istore_n 2, 1) := by decide +kernel
theorem dX1_bestHour_2 : decode cX1_bestHour 2 = .ok (.iload_n 2, 1) := by decide +kernel
theorem dX1_bestHour_3 : decode cX1_bestHour 3 = .ok (.aload_n 0, 1) := by decide +kernel
theorem dX1_bestHour_4 : decode cX1_bestHour 4 = .ok (.getfield 35, 3) := by decide +kernel
theorem dX1_bestHour_7 : decode cX1_bestHour 7 = .ok (.if_icmp .ge 34, 3) := by decide +kernel
theorem dX1_bestHour_10 : decode cX1_bestHour 10 = .ok (.aload_n 0, 1) := by decide +kernel
theorem dX1_bestHour_11 : decode cX1_bestHour 11 = .ok (.getfield 15, 3) := by decide +kernel
theorem dX1_bestHour_14 : decode cX1_bestHour 14 = .ok (.iload_n 2, 1) := by decide +kernel
theorem dX1_bestHour_15 : decode cX1_bestHour 15 = .ok (.iaload, 1) := by decide +kernel
theorem dX1_bestHour_16 : decode cX1_bestHour 16 = .ok (.iload_n 1, 1) := by decide +kernel
theorem dX1_bestHour_17 : decode cX1_bestHour 17 = .ok (.if_icmp .ne 18, 3) := by decide +kernel
theorem dX1_bestHour_20 : decode cX1_bestHour 20 = .ok (.aload_n 0, 1) := by decide +kernel
theorem dX1_bestHour_21 : decode cX1_bestHour 21 = .ok (.getfield 21, 3) := by decide +kernel
theorem dX1_bestHour_24 : decode cX1_bestHour 24 = .ok (.getfield 39, 3) := by decide +kernel
theorem dX1_bestHour_27 : decode cX1_bestHour 27 = .ok (.aload_n 0, 1) := by decide +kernel
theorem dX1_bestHour_28 : decode cX1_bestHour 28 = .ok (.getfield 18, 3) := by decide +kernel
theorem dX1_bestHour_31 : decode cX1_bestHour 31 = .ok (.iload_n 2, 1) := by decide +kernel
theorem dX1_bestHour_32 : decode cX1_bestHour 32 = .ok (.iaload, 1) := by decide +kernel
theorem dX1_bestHour_33 : decode cX1_bestHour 33 = .ok (.iadd, 1) := by decide +kernel
theorem dX1_bestHour_34 : decode cX1_bestHour 34 = .ok (.ireturn, 1) := by decide +kernel
theorem dX1_bestHour_35 : decode cX1_bestHour 35 = .ok (.iinc 2 1, 3) := by decide +kernel
theorem dX1_bestHour_38 : decode cX1_bestHour 38 = .ok (.goto (-36), 3) := by decide +kernel
theorem dX1_bestHour_41 : decode cX1_bestHour 41 = .ok (.iconst (-1), 1) := by decide +kernel
theorem dX1_bestHour_42 : decode cX1_bestHour 42 = .ok (.ireturn, 1) := by decide +kernel
theorem dX1_foresee_0 : decode cX1_foresee 0 = .ok (.aload_n 0, 1) := by decide +kernel
theorem dX1_foresee_1 : decode cX1_foresee 1 = .ok (.getfield 28, 3) := by decide +kernel
theorem dX1_foresee_4 : decode cX1_foresee 4 = .ok (.ifCond .eq 4, 3) := by decide +kernel
theorem dX1_foresee_7 : decode cX1_foresee 7 = .ok (.return_, 1) := by decide +kernel
theorem dX1_foresee_8 : decode cX1_foresee 8 = .ok (.aload_n 0, 1) := by decide +kernel
theorem dX1_foresee_9 : decode cX1_foresee 9 = .ok (.iconst 1, 1) := by decide +kernel
theorem dX1_foresee_10 : decode cX1_foresee 10 = .ok (.putfield 28, 3) := by decide +kernel
theorem dX1_foresee_13 : decode cX1_foresee 13 = .ok (.aload_n 0, 1) := by decide +kernel
theorem dX1_foresee_14 : decode cX1_foresee 14 = .ok (.getfield 25, 3) := by decide +kernel
theorem dX1_foresee_17 : decode cX1_foresee 17 = .ok (.aload_n 0, 1) := by decide +kernel
theorem dX1_foresee_18 : decode cX1_foresee 18 = .ok (.getfield 21, 3) := by decide +kernel
theorem dX1_foresee_21 : decode cX1_foresee 21 = .ok (.invokevirtual 44, 3) := by decide +kernel
theorem dX1_foresee_24 : decode cX1_foresee 24 = .ok (.aload_n 0, 1) := by decide +kernel
theorem dX1_foresee_25 : decode cX1_foresee 25 = .ok (.getfield 9, 3) := by decide +kernel
theorem dX1_foresee_28 : decode cX1_foresee 28 = .ok (.iconst (-1), 1) := by decide +kernel
theorem dX1_foresee_29 : decode cX1_foresee 29 = .ok (.invokestatic 48, 3) := by decide +kernel
theorem dX1_foresee_32 : decode cX1_foresee 32 = .ok (.aload_n 0, 1) := by decide +kernel
theorem dX1_foresee_33 : decode cX1_foresee 33 = .ok (.getfield 21, 3) := by decide +kernel
theorem dX1_foresee_36 : decode cX1_foresee 36 = .ok (.getfield 39, 3) := by decide +kernel
theorem dX1_foresee_39 : decode cX1_foresee 39 = .ok (.istore_n 1, 1) := by decide +kernel
theorem dX1_foresee_40 : decode cX1_foresee 40 = .ok (.iload_n 1, 1) := by decide +kernel
theorem dX1_foresee_41 : decode cX1_foresee 41 = .ok (.sipush 200, 3) := by decide +kernel
theorem dX1_foresee_44 : decode cX1_foresee 44 = .ok (.if_icmp .ge 40, 3) := by decide +kernel
theorem dX1_foresee_47 : decode cX1_foresee 47 = .ok (.aload_n 0, 1) := by decide +kernel
theorem dX1_foresee_48 : decode cX1_foresee 48 = .ok (.getfield 25, 3) := by decide +kernel
theorem dX1_foresee_51 : decode cX1_foresee 51 = .ok (.invokevirtual 54, 3) := by decide +kernel
theorem dX1_foresee_54 : decode cX1_foresee 54 = .ok (.aload_n 0, 1) := by decide +kernel
theorem dX1_foresee_55 : decode cX1_foresee 55 = .ok (.invokevirtual 57, 3) := by decide +kernel
theorem dX1_foresee_58 : decode cX1_foresee 58 = .ok (.aload_n 0, 1) := by decide +kernel
theorem dX1_foresee_59 : decode cX1_foresee 59 = .ok (.getfield 25, 3) := by decide +kernel
theorem dX1_foresee_62 : decode cX1_foresee 62 = .ok (.invokevirtual 60, 3) := by decide +kernel
theorem dX1_foresee_65 : decode cX1_foresee 65 = .ok (.aload_n 0, 1) := by decide +kernel
theorem dX1_foresee_66 : decode cX1_foresee 66 = .ok (.getfield 25, 3) := by decide +kernel
theorem dX1_foresee_69 : decode cX1_foresee 69 = .ok (.dup, 1) := by decide +kernel
theorem dX1_foresee_70 : decode cX1_foresee 70 = .ok (.getfield 39, 3) := by decide +kernel
theorem dX1_foresee_73 : decode cX1_foresee 73 = .ok (.iconst 1, 1) := by decide +kernel
theorem dX1_foresee_74 : decode cX1_foresee 74 = .ok (.iadd, 1) := by decide +kernel
theorem dX1_foresee_75 : decode cX1_foresee 75 = .ok (.putfield 39, 3) := by decide +kernel
theorem dX1_foresee_78 : decode cX1_foresee 78 = .ok (.iinc 1 1, 3) := by decide +kernel
theorem dX1_foresee_81 : decode cX1_foresee 81 = .ok (.goto (-41), 3) := by decide +kernel
theorem dX1_foresee_84 : decode cX1_foresee 84 = .ok (.aload_n 0, 1) := by decide +kernel
theorem dX1_foresee_85 : decode cX1_foresee 85 = .ok (.aload_n 0, 1) := by decide +kernel
theorem dX1_foresee_86 : decode cX1_foresee 86 = .ok (.getfield 25, 3) := by decide +kernel
theorem dX1_foresee_89 : decode cX1_foresee 89 = .ok (.invokevirtual 63, 3) := by decide +kernel
theorem dX1_foresee_92 : decode cX1_foresee 92 = .ok (.putfield 67, 3) := by decide +kernel
theorem dX1_foresee_95 : decode cX1_foresee 95 = .ok (.aload_n 0, 1) := by decide +kernel
theorem dX1_foresee_96 : decode cX1_foresee 96 = .ok (.aload_n 0, 1) := by decide +kernel
theorem dX1_foresee_97 : decode cX1_foresee 97 = .ok (.getfield 25, 3) := by decide +kernel
theorem dX1_foresee_100 : decode cX1_foresee 100 = .ok (.getfield 70, 3) := by decide +kernel
theorem dX1_foresee_103 : decode cX1_foresee 103 = .ok (.aload_n 0, 1) := by decide +kernel
theorem dX1_foresee_104 : decode cX1_foresee 104 = .ok (.getfield 21, 3) := by decide +kernel
theorem dX1_foresee_107 : decode cX1_foresee 107 = .ok (.getfield 70, 3) := by decide +kernel
theorem dX1_foresee_110 : decode cX1_foresee 110 = .ok (.isub, 1) := by decide +kernel
theorem dX1_foresee_111 : decode cX1_foresee 111 = .ok (.putfield 73, 3) := by decide +kernel
theorem dX1_foresee_114 : decode cX1_foresee 114 = .ok (.return_, 1) := by decide +kernel
theorem dX1_makePlan_0 : decode cX1_makePlan 0 = .ok (.aload_n 0, 1) := by decide +kernel
theorem dX1_makePlan_1 : decode cX1_makePlan 1 = .ok (.getfield 32, 3) := by decide +kernel
theorem dX1_makePlan_4 : decode cX1_makePlan 4 = .ok (.ifCond .eq 4, 3) := by decide +kernel
theorem dX1_makePlan_7 : decode cX1_makePlan 7 = .ok (.return_, 1) := by decide +kernel
theorem dX1_makePlan_8 : decode cX1_makePlan 8 = .ok (.aload_n 0, 1) := by decide +kernel
theorem dX1_makePlan_9 : decode cX1_makePlan 9 = .ok (.iconst 1, 1) := by decide +kernel
theorem dX1_makePlan_10 : decode cX1_makePlan 10 = .ok (.putfield 32, 3) := by decide +kernel
theorem dX1_makePlan_13 : decode cX1_makePlan 13 = .ok (.aload_n 0, 1) := by decide +kernel
theorem dX1_makePlan_14 : decode cX1_makePlan 14 = .ok (.invokevirtual 76, 3) := by decide +kernel
theorem dX1_makePlan_17 : decode cX1_makePlan 17 = .ok (.aload_n 0, 1) := by decide +kernel
theorem dX1_makePlan_18 : decode cX1_makePlan 18 = .ok (.invokevirtual 79, 3) := by decide +kernel
theorem dX1_makePlan_21 : decode cX1_makePlan 21 = .ok (.ifCond .ne 4, 3) := by decide +kernel
theorem dX1_makePlan_24 : decode cX1_makePlan 24 = .ok (.return_, 1) := by decide +kernel
theorem dX1_makePlan_25 : decode cX1_makePlan 25 = .ok (.aload_n 0, 1) := by decide +kernel
theorem dX1_makePlan_26 : decode cX1_makePlan 26 = .ok (.sipush 200, 3) := by decide +kernel
theorem dX1_makePlan_29 : decode cX1_makePlan 29 = .ok (.putfield 83, 3) := by decide +kernel
theorem dX1_makePlan_32 : decode cX1_makePlan 32 = .ok (.aload_n 0, 1) := by decide +kernel
theorem dX1_makePlan_33 : decode cX1_makePlan 33 = .ok (.ldc 88, 2) := by decide +kernel
theorem dX1_makePlan_35 : decode cX1_makePlan 35 = .ok (.putfield 89, 3) := by decide +kernel
theorem dX1_makePlan_38 : decode cX1_makePlan 38 = .ok (.iconst 1, 1) := by decide +kernel
theorem dX1_makePlan_39 : decode cX1_makePlan 39 = .ok (.iconst 2, 1) := by decide +kernel
theorem dX1_makePlan_40 : decode cX1_makePlan 40 = .ok (.aload_n 0, 1) := by decide +kernel
theorem dX1_makePlan_41 : decode cX1_makePlan 41 = .ok (.getfield 35, 3) := by decide +kernel
theorem dX1_makePlan_44 : decode cX1_makePlan 44 = .ok (.imul, 1) := by decide +kernel
theorem dX1_makePlan_45 : decode cX1_makePlan 45 = .ok (.ishl, 1) := by decide +kernel
theorem dX1_makePlan_46 : decode cX1_makePlan 46 = .ok (.istore_n 1, 1) := by decide +kernel
theorem dX1_makePlan_47 : decode cX1_makePlan 47 = .ok (.iconst 0, 1) := by decide +kernel
theorem dX1_makePlan_48 : decode cX1_makePlan 48 = .ok (.istore_n 2, 1) := by decide +kernel
theorem dX1_makePlan_49 : decode cX1_makePlan 49 = .ok (.iload_n 2, 1) := by decide +kernel
theorem dX1_makePlan_50 : decode cX1_makePlan 50 = .ok (.iload_n 1, 1) := by decide +kernel
theorem dX1_makePlan_51 : decode cX1_makePlan 51 = .ok (.if_icmp .ge 22, 3) := by decide +kernel
theorem dX1_makePlan_54 : decode cX1_makePlan 54 = .ok (.aload_n 0, 1) := by decide +kernel
theorem dX1_makePlan_55 : decode cX1_makePlan 55 = .ok (.iload_n 2, 1) := by decide +kernel
theorem dX1_makePlan_56 : decode cX1_makePlan 56 = .ok (.invokevirtual 92, 3) := by decide +kernel
theorem dX1_makePlan_59 : decode cX1_makePlan 59 = .ok (.ifCond .eq 8, 3) := by decide +kernel
theorem dX1_makePlan_62 : decode cX1_makePlan 62 = .ok (.aload_n 0, 1) := by decide +kernel
theorem dX1_makePlan_63 : decode cX1_makePlan 63 = .ok (.iload_n 2, 1) := by decide +kernel
theorem dX1_makePlan_64 : decode cX1_makePlan 64 = .ok (.invokevirtual 96, 3) := by decide +kernel
theorem dX1_makePlan_67 : decode cX1_makePlan 67 = .ok (.iinc 2 1, 3) := by decide +kernel
theorem dX1_makePlan_70 : decode cX1_makePlan 70 = .ok (.goto (-21), 3) := by decide +kernel
theorem dX1_makePlan_73 : decode cX1_makePlan 73 = .ok (.return_, 1) := by decide +kernel
theorem dX1_noteLacks_0 : decode cX1_noteLacks 0 = .ok (.iconst 0, 1) := by decide +kernel
theorem dX1_noteLacks_1 : decode cX1_noteLacks 1 = .ok (.istore_n 1, 1) := by decide +kernel
theorem dX1_noteLacks_2 : decode cX1_noteLacks 2 = .ok (.iload_n 1, 1) := by decide +kernel
theorem dX1_noteLacks_3 : decode cX1_noteLacks 3 = .ok (.bipush 10, 2) := by decide +kernel
theorem dX1_noteLacks_5 : decode cX1_noteLacks 5 = .ok (.if_icmp .ge 53, 3) := by decide +kernel
theorem dX1_noteLacks_8 : decode cX1_noteLacks 8 = .ok (.aload_n 0, 1) := by decide +kernel
theorem dX1_noteLacks_9 : decode cX1_noteLacks 9 = .ok (.getfield 9, 3) := by decide +kernel
theorem dX1_noteLacks_12 : decode cX1_noteLacks 12 = .ok (.iload_n 1, 1) := by decide +kernel
theorem dX1_noteLacks_13 : decode cX1_noteLacks 13 = .ok (.iaload, 1) := by decide +kernel
theorem dX1_noteLacks_14 : decode cX1_noteLacks 14 = .ok (.iconst (-1), 1) := by decide +kernel
theorem dX1_noteLacks_15 : decode cX1_noteLacks 15 = .ok (.if_icmp .ne 37, 3) := by decide +kernel
theorem dX1_noteLacks_18 : decode cX1_noteLacks 18 = .ok (.aload_n 0, 1) := by decide +kernel
theorem dX1_noteLacks_19 : decode cX1_noteLacks 19 = .ok (.getfield 25, 3) := by decide +kernel
theorem dX1_noteLacks_22 : decode cX1_noteLacks 22 = .ok (.getfield 100, 3) := by decide +kernel
theorem dX1_noteLacks_25 : decode cX1_noteLacks 25 = .ok (.iload_n 1, 1) := by decide +kernel
theorem dX1_noteLacks_26 : decode cX1_noteLacks 26 = .ok (.iaload, 1) := by decide +kernel
theorem dX1_noteLacks_27 : decode cX1_noteLacks 27 = .ok (.aload_n 0, 1) := by decide +kernel
theorem dX1_noteLacks_28 : decode cX1_noteLacks 28 = .ok (.getfield 25, 3) := by decide +kernel
theorem dX1_noteLacks_31 : decode cX1_noteLacks 31 = .ok (.getfield 103, 3) := by decide +kernel
theorem dX1_noteLacks_34 : decode cX1_noteLacks 34 = .ok (.iload_n 1, 1) := by decide +kernel
theorem dX1_noteLacks_35 : decode cX1_noteLacks 35 = .ok (.iaload, 1) := by decide +kernel
theorem dX1_noteLacks_36 : decode cX1_noteLacks 36 = .ok (.if_icmp .le 16, 3) := by decide +kernel
theorem dX1_noteLacks_39 : decode cX1_noteLacks 39 = .ok (.aload_n 0, 1) := by decide +kernel
theorem dX1_noteLacks_40 : decode cX1_noteLacks 40 = .ok (.getfield 9, 3) := by decide +kernel
theorem dX1_noteLacks_43 : decode cX1_noteLacks 43 = .ok (.iload_n 1, 1) := by decide +kernel
theorem dX1_noteLacks_44 : decode cX1_noteLacks 44 = .ok (.aload_n 0, 1) := by decide +kernel
theorem dX1_noteLacks_45 : decode cX1_noteLacks 45 = .ok (.getfield 25, 3) := by decide +kernel
theorem dX1_noteLacks_48 : decode cX1_noteLacks 48 = .ok (.getfield 39, 3) := by decide +kernel
theorem dX1_noteLacks_51 : decode cX1_noteLacks 51 = .ok (.iastore, 1) := by decide +kernel
theorem dX1_noteLacks_52 : decode cX1_noteLacks 52 = .ok (.iinc 1 1, 3) := by decide +kernel
theorem dX1_noteLacks_55 : decode cX1_noteLacks 55 = .ok (.goto (-53), 3) := by decide +kernel
theorem dX1_noteLacks_58 : decode cX1_noteLacks 58 = .ok (.return_, 1) := by decide +kernel
theorem dX1_findWaiting_0 : decode cX1_findWaiting 0 = .ok (.aload_n 0, 1) := by decide +kernel
theorem dX1_findWaiting_1 : decode cX1_findWaiting 1 = .ok (.iconst 0, 1) := by decide +kernel
theorem dX1_findWaiting_2 : decode cX1_findWaiting 2 = .ok (.putfield 35, 3) := by decide +kernel
theorem dX1_findWaiting_5 : decode cX1_findWaiting 5 = .ok (.iconst 0, 1) := by decide +kernel
theorem dX1_findWaiting_6 : decode cX1_findWaiting 6 = .ok (.istore_n 1, 1) := by decide +kernel
theorem dX1_findWaiting_7 : decode cX1_findWaiting 7 = .ok (.iload_n 1, 1) := by decide +kernel
theorem dX1_findWaiting_8 : decode cX1_findWaiting 8 = .ok (.aload_n 0, 1) := by decide +kernel
theorem dX1_findWaiting_9 : decode cX1_findWaiting 9 = .ok (.getfield 21, 3) := by decide +kernel
theorem dX1_findWaiting_12 : decode cX1_findWaiting 12 = .ok (.getfield 106, 3) := by decide +kernel
theorem dX1_findWaiting_15 : decode cX1_findWaiting 15 = .ok (.getfield 110, 3) := by decide +kernel
theorem dX1_findWaiting_18 : decode cX1_findWaiting 18 = .ok (.if_icmp .ge 54, 3) := by decide +kernel
theorem dX1_findWaiting_21 : decode cX1_findWaiting 21 = .ok (.aload_n 0, 1) := by decide +kernel
theorem dX1_findWaiting_22 : decode cX1_findWaiting 22 = .ok (.getfield 21, 3) := by decide +kernel
theorem dX1_findWaiting_25 : decode cX1_findWaiting 25 = .ok (.iload_n 1, 1) := by decide +kernel
theorem dX1_findWaiting_26 : decode cX1_findWaiting 26 = .ok (.invokevirtual 115, 3) := by decide +kernel
theorem dX1_findWaiting_29 : decode cX1_findWaiting 29 = .ok (.ifCond .ne 37, 3) := by decide +kernel
theorem dX1_findWaiting_32 : decode cX1_findWaiting 32 = .ok (.aload_n 0, 1) := by decide +kernel
theorem dX1_findWaiting_33 : decode cX1_findWaiting 33 = .ok (.getfield 35, 3) := by decide +kernel
theorem dX1_findWaiting_36 : decode cX1_findWaiting 36 = .ok (.iconst 4, 1) := by decide +kernel
theorem dX1_findWaiting_37 : decode cX1_findWaiting 37 = .ok (.if_icmp .lt 9, 3) := by decide +kernel
theorem dX1_findWaiting_40 : decode cX1_findWaiting 40 = .ok (.aload_n 0, 1) := by decide +kernel
theorem dX1_findWaiting_41 : decode cX1_findWaiting 41 = .ok (.iconst 0, 1) := by decide +kernel
theorem dX1_findWaiting_42 : decode cX1_findWaiting 42 = .ok (.putfield 35, 3) := by decide +kernel
theorem dX1_findWaiting_45 : decode cX1_findWaiting 45 = .ok (.return_, 1) := by decide +kernel
theorem dX1_findWaiting_46 : decode cX1_findWaiting 46 = .ok (.aload_n 0, 1) := by decide +kernel
theorem dX1_findWaiting_47 : decode cX1_findWaiting 47 = .ok (.getfield 15, 3) := by decide +kernel
theorem dX1_findWaiting_50 : decode cX1_findWaiting 50 = .ok (.aload_n 0, 1) := by decide +kernel
theorem dX1_findWaiting_51 : decode cX1_findWaiting 51 = .ok (.getfield 35, 3) := by decide +kernel
theorem dX1_findWaiting_54 : decode cX1_findWaiting 54 = .ok (.iload_n 1, 1) := by decide +kernel
theorem dX1_findWaiting_55 : decode cX1_findWaiting 55 = .ok (.iastore, 1) := by decide +kernel
theorem dX1_findWaiting_56 : decode cX1_findWaiting 56 = .ok (.aload_n 0, 1) := by decide +kernel
theorem dX1_findWaiting_57 : decode cX1_findWaiting 57 = .ok (.dup, 1) := by decide +kernel
theorem dX1_findWaiting_58 : decode cX1_findWaiting 58 = .ok (.getfield 35, 3) := by decide +kernel
theorem dX1_findWaiting_61 : decode cX1_findWaiting 61 = .ok (.iconst 1, 1) := by decide +kernel
theorem dX1_findWaiting_62 : decode cX1_findWaiting 62 = .ok (.iadd, 1) := by decide +kernel
theorem dX1_findWaiting_63 : decode cX1_findWaiting 63 = .ok (.putfield 35, 3) := by decide +kernel
theorem dX1_findWaiting_66 : decode cX1_findWaiting 66 = .ok (.iinc 1 1, 3) := by decide +kernel
theorem dX1_findWaiting_69 : decode cX1_findWaiting 69 = .ok (.goto (-62), 3) := by decide +kernel
theorem dX1_findWaiting_72 : decode cX1_findWaiting 72 = .ok (.return_, 1) := by decide +kernel
theorem dX1_stepOf_0 : decode cX1_stepOf 0 = .ok (.iload_n 1, 1) := by decide +kernel
theorem dX1_stepOf_1 : decode cX1_stepOf 1 = .ok (.iconst 2, 1) := by decide +kernel
theorem dX1_stepOf_2 : decode cX1_stepOf 2 = .ok (.aload_n 0, 1) := by decide +kernel
theorem dX1_stepOf_3 : decode cX1_stepOf 3 = .ok (.getfield 35, 3) := by decide +kernel
theorem dX1_stepOf_6 : decode cX1_stepOf 6 = .ok (.iconst 1, 1) := by decide +kernel
theorem dX1_stepOf_7 : decode cX1_stepOf 7 = .ok (.isub, 1) := by decide +kernel
theorem dX1_stepOf_8 : decode cX1_stepOf 8 = .ok (.iload_n 2, 1) := by decide +kernel
theorem dX1_stepOf_9 : decode cX1_stepOf 9 = .ok (.isub, 1) := by decide +kernel
theorem dX1_stepOf_10 : decode cX1_stepOf 10 = .ok (.imul, 1) := by decide +kernel
theorem dX1_stepOf_11 : decode cX1_stepOf 11 = .ok (.ishr, 1) := by decide +kernel
theorem dX1_stepOf_12 : decode cX1_stepOf 12 = .ok (.iconst 3, 1) := by decide +kernel
theorem dX1_stepOf_13 : decode cX1_stepOf 13 = .ok (.iand, 1) := by decide +kernel
theorem dX1_stepOf_14 : decode cX1_stepOf 14 = .ok (.ireturn, 1) := by decide +kernel
theorem dX1_isWithinHours_0 : decode cX1_isWithinHours 0 = .ok (.iconst 0, 1) := by decide +kernel
theorem dX1_isWithinHours_1 : decode cX1_isWithinHours 1 = .ok (.istore_n 2, 1) := by decide +kernel
theorem dX1_isWithinHours_2 : decode cX1_isWithinHours 2 = .ok (.iload_n 2, 1) := by decide +kernel
theorem dX1_isWithinHours_3 : decode cX1_isWithinHours 3 = .ok (.aload_n 0, 1) := by decide +kernel
theorem dX1_isWithinHours_4 : decode cX1_isWithinHours 4 = .ok (.getfield 35, 3) := by decide +kernel
theorem dX1_isWithinHours_7 : decode cX1_isWithinHours 7 = .ok (.if_icmp .ge 31, 3) := by decide +kernel
theorem dX1_isWithinHours_10 : decode cX1_isWithinHours 10 = .ok (.aload_n 0, 1) := by decide +kernel
theorem dX1_isWithinHours_11 : decode cX1_isWithinHours 11 = .ok (.getfield 21, 3) := by decide +kernel
theorem dX1_isWithinHours_14 : decode cX1_isWithinHours 14 = .ok (.getfield 39, 3) := by decide +kernel
theorem dX1_isWithinHours_17 : decode cX1_isWithinHours 17 = .ok (.aload_n 0, 1) := by decide +kernel
theorem dX1_isWithinHours_18 : decode cX1_isWithinHours 18 = .ok (.iload_n 1, 1) := by decide +kernel
theorem dX1_isWithinHours_19 : decode cX1_isWithinHours 19 = .ok (.iload_n 2, 1) := by decide +kernel
theorem dX1_isWithinHours_20 : decode cX1_isWithinHours 20 = .ok (.invokevirtual 118, 3) := by decide +kernel
theorem dX1_isWithinHours_23 : decode cX1_isWithinHours 23 = .ok (.iadd, 1) := by decide +kernel
theorem dX1_isWithinHours_24 : decode cX1_isWithinHours 24 = .ok (.sipush 200, 3) := by decide +kernel
theorem dX1_isWithinHours_27 : decode cX1_isWithinHours 27 = .ok (.if_icmp .lt 5, 3) := by decide +kernel
theorem dX1_isWithinHours_30 : decode cX1_isWithinHours 30 = .ok (.iconst 0, 1) := by decide +kernel
theorem dX1_isWithinHours_31 : decode cX1_isWithinHours 31 = .ok (.ireturn, 1) := by decide +kernel
theorem dX1_isWithinHours_32 : decode cX1_isWithinHours 32 = .ok (.iinc 2 1, 3) := by decide +kernel
theorem dX1_isWithinHours_35 : decode cX1_isWithinHours 35 = .ok (.goto (-33), 3) := by decide +kernel
theorem dX1_isWithinHours_38 : decode cX1_isWithinHours 38 = .ok (.iconst 1, 1) := by decide +kernel
theorem dX1_isWithinHours_39 : decode cX1_isWithinHours 39 = .ok (.ireturn, 1) := by decide +kernel
theorem dX1_tryWay_0 : decode cX1_tryWay 0 = .ok (.aload_n 0, 1) := by decide +kernel
theorem dX1_tryWay_1 : decode cX1_tryWay 1 = .ok (.getfield 25, 3) := by decide +kernel
theorem dX1_tryWay_4 : decode cX1_tryWay 4 = .ok (.aload_n 0, 1) := by decide +kernel
theorem dX1_tryWay_5 : decode cX1_tryWay 5 = .ok (.getfield 21, 3) := by decide +kernel
theorem dX1_tryWay_8 : decode cX1_tryWay 8 = .ok (.invokevirtual 44, 3) := by decide +kernel
theorem dX1_tryWay_11 : decode cX1_tryWay 11 = .ok (.iconst 0, 1) := by decide +kernel
theorem dX1_tryWay_12 : decode cX1_tryWay 12 = .ok (.istore_n 2, 1) := by decide +kernel
theorem dX1_tryWay_13 : decode cX1_tryWay 13 = .ok (.iload_n 2, 1) := by decide +kernel
theorem dX1_tryWay_14 : decode cX1_tryWay 14 = .ok (.aload_n 0, 1) := by decide +kernel
theorem dX1_tryWay_15 : decode cX1_tryWay 15 = .ok (.getfield 35, 3) := by decide +kernel
theorem dX1_tryWay_18 : decode cX1_tryWay 18 = .ok (.if_icmp .ge 37, 3) := by decide +kernel
theorem dX1_tryWay_21 : decode cX1_tryWay 21 = .ok (.aload_n 0, 1) := by decide +kernel
theorem dX1_tryWay_22 : decode cX1_tryWay 22 = .ok (.getfield 25, 3) := by decide +kernel
theorem dX1_tryWay_25 : decode cX1_tryWay 25 = .ok (.getfield 122, 3) := by decide +kernel
theorem dX1_tryWay_28 : decode cX1_tryWay 28 = .ok (.aload_n 0, 1) := by decide +kernel
theorem dX1_tryWay_29 : decode cX1_tryWay 29 = .ok (.getfield 15, 3) := by decide +kernel
theorem dX1_tryWay_32 : decode cX1_tryWay 32 = .ok (.iload_n 2, 1) := by decide +kernel
theorem dX1_tryWay_33 : decode cX1_tryWay 33 = .ok (.iaload, 1) := by decide +kernel
theorem dX1_tryWay_34 : decode cX1_tryWay 34 = .ok (.aload_n 0, 1) := by decide +kernel
theorem dX1_tryWay_35 : decode cX1_tryWay 35 = .ok (.getfield 21, 3) := by decide +kernel
theorem dX1_tryWay_38 : decode cX1_tryWay 38 = .ok (.getfield 39, 3) := by decide +kernel
theorem dX1_tryWay_41 : decode cX1_tryWay 41 = .ok (.aload_n 0, 1) := by decide +kernel
theorem dX1_tryWay_42 : decode cX1_tryWay 42 = .ok (.iload_n 1, 1) := by decide +kernel
theorem dX1_tryWay_43 : decode cX1_tryWay 43 = .ok (.iload_n 2, 1) := by decide +kernel
theorem dX1_tryWay_44 : decode cX1_tryWay 44 = .ok (.invokevirtual 118, 3) := by decide +kernel
theorem dX1_tryWay_47 : decode cX1_tryWay 47 = .ok (.iadd, 1) := by decide +kernel
theorem dX1_tryWay_48 : decode cX1_tryWay 48 = .ok (.iastore, 1) := by decide +kernel
theorem dX1_tryWay_49 : decode cX1_tryWay 49 = .ok (.iinc 2 1, 3) := by decide +kernel
theorem dX1_tryWay_52 : decode cX1_tryWay 52 = .ok (.goto (-39), 3) := by decide +kernel
theorem dX1_tryWay_55 : decode cX1_tryWay 55 = .ok (.aload_n 0, 1) := by decide +kernel
theorem dX1_tryWay_56 : decode cX1_tryWay 56 = .ok (.getfield 21, 3) := by decide +kernel
theorem dX1_tryWay_59 : decode cX1_tryWay 59 = .ok (.getfield 39, 3) := by decide +kernel
theorem dX1_tryWay_62 : decode cX1_tryWay 62 = .ok (.istore_n 2, 1) := by decide +kernel
theorem dX1_tryWay_63 : decode cX1_tryWay 63 = .ok (.iload_n 2, 1) := by decide +kernel
theorem dX1_tryWay_64 : decode cX1_tryWay 64 = .ok (.sipush 200, 3) := by decide +kernel
theorem dX1_tryWay_67 : decode cX1_tryWay 67 = .ok (.if_icmp .ge 47, 3) := by decide +kernel
theorem dX1_tryWay_70 : decode cX1_tryWay 70 = .ok (.iload_n 2, 1) := by decide +kernel
theorem dX1_tryWay_71 : decode cX1_tryWay 71 = .ok (.aload_n 0, 1) := by decide +kernel
theorem dX1_tryWay_72 : decode cX1_tryWay 72 = .ok (.getfield 83, 3) := by decide +kernel
theorem dX1_tryWay_75 : decode cX1_tryWay 75 = .ok (.if_icmp .gt 39, 3) := by decide +kernel
theorem dX1_tryWay_78 : decode cX1_tryWay 78 = .ok (.aload_n 0, 1) := by decide +kernel
theorem dX1_tryWay_79 : decode cX1_tryWay 79 = .ok (.getfield 25, 3) := by decide +kernel
theorem dX1_tryWay_82 : decode cX1_tryWay 82 = .ok (.invokevirtual 125, 3) := by decide +kernel
theorem dX1_tryWay_85 : decode cX1_tryWay 85 = .ok (.ifCond .ne 29, 3) := by decide +kernel
theorem dX1_tryWay_88 : decode cX1_tryWay 88 = .ok (.aload_n 0, 1) := by decide +kernel
theorem dX1_tryWay_89 : decode cX1_tryWay 89 = .ok (.getfield 25, 3) := by decide +kernel
theorem dX1_tryWay_92 : decode cX1_tryWay 92 = .ok (.invokevirtual 54, 3) := by decide +kernel
theorem dX1_tryWay_95 : decode cX1_tryWay 95 = .ok (.aload_n 0, 1) := by decide +kernel
theorem dX1_tryWay_96 : decode cX1_tryWay 96 = .ok (.getfield 25, 3) := by decide +kernel
theorem dX1_tryWay_99 : decode cX1_tryWay 99 = .ok (.dup, 1) := by decide +kernel
theorem dX1_tryWay_100 : decode cX1_tryWay 100 = .ok (.getfield 39, 3) := by decide +kernel
theorem dX1_tryWay_103 : decode cX1_tryWay 103 = .ok (.iconst 1, 1) := by decide +kernel
theorem dX1_tryWay_104 : decode cX1_tryWay 104 = .ok (.iadd, 1) := by decide +kernel
theorem dX1_tryWay_105 : decode cX1_tryWay 105 = .ok (.putfield 39, 3) := by decide +kernel
theorem dX1_tryWay_108 : decode cX1_tryWay 108 = .ok (.iinc 2 1, 3) := by decide +kernel
theorem dX1_tryWay_111 : decode cX1_tryWay 111 = .ok (.goto (-48), 3) := by decide +kernel
theorem dX1_tryWay_114 : decode cX1_tryWay 114 = .ok (.aload_n 0, 1) := by decide +kernel
theorem dX1_tryWay_115 : decode cX1_tryWay 115 = .ok (.getfield 25, 3) := by decide +kernel
theorem dX1_tryWay_118 : decode cX1_tryWay 118 = .ok (.invokevirtual 125, 3) := by decide +kernel
theorem dX1_tryWay_121 : decode cX1_tryWay 121 = .ok (.ifCond .eq 13, 3) := by decide +kernel
theorem dX1_tryWay_124 : decode cX1_tryWay 124 = .ok (.aload_n 0, 1) := by decide +kernel
theorem dX1_tryWay_125 : decode cX1_tryWay 125 = .ok (.getfield 25, 3) := by decide +kernel
theorem dX1_tryWay_128 : decode cX1_tryWay 128 = .ok (.getfield 128, 3) := by decide +kernel
theorem dX1_tryWay_131 : decode cX1_tryWay 131 = .ok (.goto 6, 3) := by decide +kernel
theorem dX1_tryWay_134 : decode cX1_tryWay 134 = .ok (.sipush 200, 3) := by decide +kernel
theorem dX1_tryWay_137 : decode cX1_tryWay 137 = .ok (.istore_n 2, 1) := by decide +kernel
theorem dX1_tryWay_138 : decode cX1_tryWay 138 = .ok (.aload_n 0, 1) := by decide +kernel
theorem dX1_tryWay_139 : decode cX1_tryWay 139 = .ok (.getfield 25, 3) := by decide +kernel
theorem dX1_tryWay_142 : decode cX1_tryWay 142 = .ok (.getfield 70, 3) := by decide +kernel
theorem dX1_tryWay_145 : decode cX1_tryWay 145 = .ok (.aload_n 0, 1) := by decide +kernel
theorem dX1_tryWay_146 : decode cX1_tryWay 146 = .ok (.getfield 21, 3) := by decide +kernel
theorem dX1_tryWay_149 : decode cX1_tryWay 149 = .ok (.getfield 70, 3) := by decide +kernel
theorem dX1_tryWay_152 : decode cX1_tryWay 152 = .ok (.isub, 1) := by decide +kernel
theorem dX1_tryWay_153 : decode cX1_tryWay 153 = .ok (.istore_n 3, 1) := by decide +kernel
theorem dX1_tryWay_154 : decode cX1_tryWay 154 = .ok (.iload_n 2, 1) := by decide +kernel
theorem dX1_tryWay_155 : decode cX1_tryWay 155 = .ok (.aload_n 0, 1) := by decide +kernel
theorem dX1_tryWay_156 : decode cX1_tryWay 156 = .ok (.getfield 83, 3) := by decide +kernel
theorem dX1_tryWay_159 : decode cX1_tryWay 159 = .ok (.if_icmp .lt 19, 3) := by decide +kernel
theorem dX1_tryWay_162 : decode cX1_tryWay 162 = .ok (.iload_n 2, 1) := by decide +kernel
theorem dX1_tryWay_163 : decode cX1_tryWay 163 = .ok (.aload_n 0, 1) := by decide +kernel
theorem dX1_tryWay_164 : decode cX1_tryWay 164 = .ok (.getfield 83, 3) := by decide +kernel
theorem dX1_tryWay_167 : decode cX1_tryWay 167 = .ok (.if_icmp .ne 18, 3) := by decide +kernel
theorem dX1_tryWay_170 : decode cX1_tryWay 170 = .ok (.iload_n 3, 1) := by decide +kernel
theorem dX1_tryWay_171 : decode cX1_tryWay 171 = .ok (.aload_n 0, 1) := by decide +kernel
theorem dX1_tryWay_172 : decode cX1_tryWay 172 = .ok (.getfield 89, 3) := by decide +kernel
theorem dX1_tryWay_175 : decode cX1_tryWay 175 = .ok (.if_icmp .ge 10, 3) := by decide +kernel
theorem dX1_tryWay_178 : decode cX1_tryWay 178 = .ok (.aload_n 0, 1) := by decide +kernel
theorem dX1_tryWay_179 : decode cX1_tryWay 179 = .ok (.iload_n 1, 1) := by decide +kernel
theorem dX1_tryWay_180 : decode cX1_tryWay 180 = .ok (.iload_n 2, 1) := by decide +kernel
theorem dX1_tryWay_181 : decode cX1_tryWay 181 = .ok (.iload_n 3, 1) := by decide +kernel
theorem dX1_tryWay_182 : decode cX1_tryWay 182 = .ok (.invokevirtual 131, 3) := by decide +kernel
theorem dX1_tryWay_185 : decode cX1_tryWay 185 = .ok (.return_, 1) := by decide +kernel
theorem dX1_keepWay_0 : decode cX1_keepWay 0 = .ok (.aload_n 0, 1) := by decide +kernel
theorem dX1_keepWay_1 : decode cX1_keepWay 1 = .ok (.iload_n 2, 1) := by decide +kernel
theorem dX1_keepWay_2 : decode cX1_keepWay 2 = .ok (.putfield 83, 3) := by decide +kernel
theorem dX1_keepWay_5 : decode cX1_keepWay 5 = .ok (.aload_n 0, 1) := by decide +kernel
theorem dX1_keepWay_6 : decode cX1_keepWay 6 = .ok (.iload_n 3, 1) := by decide +kernel
theorem dX1_keepWay_7 : decode cX1_keepWay 7 = .ok (.putfield 89, 3) := by decide +kernel
theorem dX1_keepWay_10 : decode cX1_keepWay 10 = .ok (.iconst 0, 1) := by decide +kernel
theorem dX1_keepWay_11 : decode cX1_keepWay 11 = .ok (.istore 4, 2) := by decide +kernel
theorem dX1_keepWay_13 : decode cX1_keepWay 13 = .ok (.iload 4, 2) := by decide +kernel
theorem dX1_keepWay_15 : decode cX1_keepWay 15 = .ok (.aload_n 0, 1) := by decide +kernel
theorem dX1_keepWay_16 : decode cX1_keepWay 16 = .ok (.getfield 35, 3) := by decide +kernel
theorem dX1_keepWay_19 : decode cX1_keepWay 19 = .ok (.if_icmp .ge 23, 3) := by decide +kernel
theorem dX1_keepWay_22 : decode cX1_keepWay 22 = .ok (.aload_n 0, 1) := by decide +kernel
theorem dX1_keepWay_23 : decode cX1_keepWay 23 = .ok (.getfield 18, 3) := by decide +kernel
theorem dX1_keepWay_26 : decode cX1_keepWay 26 = .ok (.iload 4, 2) := by decide +kernel
theorem dX1_keepWay_28 : decode cX1_keepWay 28 = .ok (.aload_n 0, 1) := by decide +kernel
theorem dX1_keepWay_29 : decode cX1_keepWay 29 = .ok (.iload_n 1, 1) := by decide +kernel
theorem dX1_keepWay_30 : decode cX1_keepWay 30 = .ok (.iload 4, 2) := by decide +kernel
theorem dX1_keepWay_32 : decode cX1_keepWay 32 = .ok (.invokevirtual 118, 3) := by decide +kernel
theorem dX1_keepWay_35 : decode cX1_keepWay 35 = .ok (.iastore, 1) := by decide +kernel
theorem dX1_keepWay_36 : decode cX1_keepWay 36 = .ok (.iinc 4 1, 3) := by decide +kernel
theorem dX1_keepWay_39 : decode cX1_keepWay 39 = .ok (.goto (-26), 3) := by decide +kernel
theorem dX1_keepWay_42 : decode cX1_keepWay 42 = .ok (.return_, 1) := by decide +kernel
theorem dX2_init_0 : decode cX2_init 0 = .ok (.aload_n 0, 1) := by decide +kernel
theorem dX2_init_1 : decode cX2_init 1 = .ok (.invokespecial 3, 3) := by decide +kernel
theorem dX2_init_4 : decode cX2_init 4 = .ok (.aload_n 0, 1) := by decide +kernel
theorem dX2_init_5 : decode cX2_init 5 = .ok (.bipush 32, 2) := by decide +kernel
theorem dX2_init_7 : decode cX2_init 7 = .ok (.newarray .int, 2) := by decide +kernel
theorem dX2_init_9 : decode cX2_init 9 = .ok (.putfield 9, 3) := by decide +kernel
theorem dX2_init_12 : decode cX2_init 12 = .ok (.aload_n 0, 1) := by decide +kernel
theorem dX2_init_13 : decode cX2_init 13 = .ok (.bipush 32, 2) := by decide +kernel
theorem dX2_init_15 : decode cX2_init 15 = .ok (.newarray .int, 2) := by decide +kernel
theorem dX2_init_17 : decode cX2_init 17 = .ok (.putfield 15, 3) := by decide +kernel
theorem dX2_init_20 : decode cX2_init 20 = .ok (.aload_n 0, 1) := by decide +kernel
theorem dX2_init_21 : decode cX2_init 21 = .ok (.bipush 32, 2) := by decide +kernel
theorem dX2_init_23 : decode cX2_init 23 = .ok (.newarray .int, 2) := by decide +kernel
theorem dX2_init_25 : decode cX2_init 25 = .ok (.putfield 18, 3) := by decide +kernel
theorem dX2_init_28 : decode cX2_init 28 = .ok (.aload_n 0, 1) := by decide +kernel
theorem dX2_init_29 : decode cX2_init 29 = .ok (.bipush 32, 2) := by decide +kernel
theorem dX2_init_31 : decode cX2_init 31 = .ok (.newarray .int, 2) := by decide +kernel
theorem dX2_init_33 : decode cX2_init 33 = .ok (.putfield 21, 3) := by decide +kernel
theorem dX2_init_36 : decode cX2_init 36 = .ok (.aload_n 0, 1) := by decide +kernel
theorem dX2_init_37 : decode cX2_init 37 = .ok (.bipush 32, 2) := by decide +kernel
theorem dX2_init_39 : decode cX2_init 39 = .ok (.newarray .int, 2) := by decide +kernel
theorem dX2_init_41 : decode cX2_init 41 = .ok (.putfield 24, 3) := by decide +kernel
theorem dX2_init_44 : decode cX2_init 44 = .ok (.aload_n 0, 1) := by decide +kernel
theorem dX2_init_45 : decode cX2_init 45 = .ok (.bipush 32, 2) := by decide +kernel
theorem dX2_init_47 : decode cX2_init 47 = .ok (.newarray .int, 2) := by decide +kernel
theorem dX2_init_49 : decode cX2_init 49 = .ok (.putfield 27, 3) := by decide +kernel
theorem dX2_init_52 : decode cX2_init 52 = .ok (.aload_n 0, 1) := by decide +kernel
theorem dX2_init_53 : decode cX2_init 53 = .ok (.bipush 32, 2) := by decide +kernel
theorem dX2_init_55 : decode cX2_init 55 = .ok (.newarray .int, 2) := by decide +kernel
theorem dX2_init_57 : decode cX2_init 57 = .ok (.putfield 30, 3) := by decide +kernel
theorem dX2_init_60 : decode cX2_init 60 = .ok (.aload_n 0, 1) := by decide +kernel
theorem dX2_init_61 : decode cX2_init 61 = .ok (.iconst (-1), 1) := by decide +kernel
theorem dX2_init_62 : decode cX2_init 62 = .ok (.putfield 33, 3) := by decide +kernel
theorem dX2_init_65 : decode cX2_init 65 = .ok (.aload_n 0, 1) := by decide +kernel
theorem dX2_init_66 : decode cX2_init 66 = .ok (.getfield 9, 3) := by decide +kernel
theorem dX2_init_69 : decode cX2_init 69 = .ok (.iconst (-1), 1) := by decide +kernel
theorem dX2_init_70 : decode cX2_init 70 = .ok (.invokestatic 37, 3) := by decide +kernel
theorem dX2_init_73 : decode cX2_init 73 = .ok (.aload_n 0, 1) := by decide +kernel
theorem dX2_init_74 : decode cX2_init 74 = .ok (.getfield 15, 3) := by decide +kernel
theorem dX2_init_77 : decode cX2_init 77 = .ok (.iconst (-1), 1) := by decide +kernel
theorem dX2_init_78 : decode cX2_init 78 = .ok (.invokestatic 37, 3) := by decide +kernel
theorem dX2_init_81 : decode cX2_init 81 = .ok (.return_, 1) := by decide +kernel
theorem dX2_queueOf_0 : decode cX2_queueOf 0 = .ok (.iload_n 0, 1) := by decide +kernel
theorem dX2_queueOf_1 : decode cX2_queueOf 1 = .ok (.ireturn, 1) := by decide +kernel
theorem dX2_driveOf_0 : decode cX2_driveOf 0 = .ok (.bipush 16, 2) := by decide +kernel
theorem dX2_driveOf_2 : decode cX2_driveOf 2 = .ok (.iload_n 0, 1) := by decide +kernel
theorem dX2_driveOf_3 : decode cX2_driveOf 3 = .ok (.iadd, 1) := by decide +kernel
theorem dX2_driveOf_4 : decode cX2_driveOf 4 = .ok (.ireturn, 1) := by decide +kernel
theorem dX2_isEmpty_0 : decode cX2_isEmpty 0 = .ok (.aload_n 0, 1) := by decide +kernel
theorem dX2_isEmpty_1 : decode cX2_isEmpty 1 = .ok (.getfield 9, 3) := by decide +kernel
theorem dX2_isEmpty_4 : decode cX2_isEmpty 4 = .ok (.iload_n 1, 1) := by decide +kernel
theorem dX2_isEmpty_5 : decode cX2_isEmpty 5 = .ok (.iaload, 1) := by decide +kernel
theorem dX2_isEmpty_6 : decode cX2_isEmpty 6 = .ok (.iconst (-1), 1) := by decide +kernel
theorem dX2_isEmpty_7 : decode cX2_isEmpty 7 = .ok (.if_icmp .ne 7, 3) := by decide +kernel
theorem dX2_isEmpty_10 : decode cX2_isEmpty 10 = .ok (.iconst 1, 1) := by decide +kernel
theorem dX2_isEmpty_11 : decode cX2_isEmpty 11 = .ok (.goto 4, 3) := by decide +kernel
theorem dX2_isEmpty_14 : decode cX2_isEmpty 14 = .ok (.iconst 0, 1) := by decide +kernel
theorem dX2_isEmpty_15 : decode cX2_isEmpty 15 = .ok (.ireturn, 1) := by decide +kernel
theorem dX2_isDue_0 : decode cX2_isDue 0 = .ok (.aload_n 0, 1) := by decide +kernel
theorem dX2_isDue_1 : decode cX2_isDue 1 = .ok (.getfield 9, 3) := by decide +kernel
theorem dX2_isDue_4 : decode cX2_isDue 4 = .ok (.iload_n 1, 1) := by decide +kernel
theorem dX2_isDue_5 : decode cX2_isDue 5 = .ok (.iaload, 1) := by decide +kernel
theorem dX2_isDue_6 : decode cX2_isDue 6 = .ok (.istore_n 3, 1) := by decide +kernel
theorem dX2_isDue_7 : decode cX2_isDue 7 = .ok (.iload_n 3, 1) := by decide +kernel
theorem dX2_isDue_8 : decode cX2_isDue 8 = .ok (.iconst (-1), 1) := by decide +kernel
theorem dX2_isDue_9 : decode cX2_isDue 9 = .ok (.if_icmp .eq 17, 3) := by decide +kernel
theorem dX2_isDue_12 : decode cX2_isDue 12 = .ok (.aload_n 0, 1) := by decide +kernel
theorem dX2_isDue_13 : decode cX2_isDue 13 = .ok (.getfield 27, 3) := by decide +kernel
theorem dX2_isDue_16 : decode cX2_isDue 16 = .ok (.iload_n 3, 1) := by decide +kernel
theorem dX2_isDue_17 : decode cX2_isDue 17 = .ok (.iaload, 1) := by decide +kernel
theorem dX2_isDue_18 : decode cX2_isDue 18 = .ok (.iload_n 2, 1) := by decide +kernel
theorem dX2_isDue_19 : decode cX2_isDue 19 = .ok (.if_icmp .ne 7, 3) := by decide +kernel
theorem dX2_isDue_22 : decode cX2_isDue 22 = .ok (.iconst 1, 1) := by decide +kernel
theorem dX2_isDue_23 : decode cX2_isDue 23 = .ok (.goto 4, 3) := by decide +kernel
theorem dX2_isDue_26 : decode cX2_isDue 26 = .ok (.iconst 0, 1) := by decide +kernel
theorem dX2_isDue_27 : decode cX2_isDue 27 = .ok (.ireturn, 1) := by decide +kernel
theorem dX2_firstCrowd_0 : decode cX2_firstCrowd 0 = .ok (.aload_n 0, 1) := by decide +kernel
theorem dX2_firstCrowd_1 : decode cX2_firstCrowd 1 = .ok (.getfield 9, 3) := by decide +kernel
theorem dX2_firstCrowd_4 : decode cX2_firstCrowd 4 = .ok (.iload_n 1, 1) := by decide +kernel
theorem dX2_firstCrowd_5 : decode cX2_firstCrowd 5 = .ok (.iaload, 1) := by decide +kernel
theorem dX2_firstCrowd_6 : decode cX2_firstCrowd 6 = .ok (.istore_n 2, 1) := by decide +kernel
theorem dX2_firstCrowd_7 : decode cX2_firstCrowd 7 = .ok (.iload_n 2, 1) := by decide +kernel
theorem dX2_firstCrowd_8 : decode cX2_firstCrowd 8 = .ok (.iconst (-1), 1) := by decide +kernel
theorem dX2_firstCrowd_9 : decode cX2_firstCrowd 9 = .ok (.if_icmp .ne 7, 3) := by decide +kernel
theorem dX2_firstCrowd_12 : decode cX2_firstCrowd 12 = .ok (.iconst (-1), 1) := by decide +kernel
theorem dX2_firstCrowd_13 : decode cX2_firstCrowd 13 = .ok (.goto 9, 3) := by decide +kernel
theorem dX2_firstCrowd_16 : decode cX2_firstCrowd 16 = .ok (.aload_n 0, 1) := by decide +kernel
theorem dX2_firstCrowd_17 : decode cX2_firstCrowd 17 = .ok (.getfield 21, 3) := by decide +kernel
theorem dX2_firstCrowd_20 : decode cX2_firstCrowd 20 = .ok (.iload_n 2, 1) := by decide +kernel
theorem dX2_firstCrowd_21 : decode cX2_firstCrowd 21 = .ok (.iaload, 1) := by decide +kernel
theorem dX2_firstCrowd_22 : decode cX2_firstCrowd 22 = .ok (.ireturn, 1) := by decide +kernel
theorem dX2_firstCars_0 : decode cX2_firstCars 0 = .ok (.aload_n 0, 1) := by decide +kernel
theorem dX2_firstCars_1 : decode cX2_firstCars 1 = .ok (.getfield 9, 3) := by decide +kernel
theorem dX2_firstCars_4 : decode cX2_firstCars 4 = .ok (.iload_n 1, 1) := by decide +kernel
theorem dX2_firstCars_5 : decode cX2_firstCars 5 = .ok (.iaload, 1) := by decide +kernel
theorem dX2_firstCars_6 : decode cX2_firstCars 6 = .ok (.istore_n 2, 1) := by decide +kernel
theorem dX2_firstCars_7 : decode cX2_firstCars 7 = .ok (.iload_n 2, 1) := by decide +kernel
theorem dX2_firstCars_8 : decode cX2_firstCars 8 = .ok (.iconst (-1), 1) := by decide +kernel
theorem dX2_firstCars_9 : decode cX2_firstCars 9 = .ok (.if_icmp .ne 7, 3) := by decide +kernel
theorem dX2_firstCars_12 : decode cX2_firstCars 12 = .ok (.iconst 0, 1) := by decide +kernel
theorem dX2_firstCars_13 : decode cX2_firstCars 13 = .ok (.goto 9, 3) := by decide +kernel
theorem dX2_firstCars_16 : decode cX2_firstCars 16 = .ok (.aload_n 0, 1) := by decide +kernel
theorem dX2_firstCars_17 : decode cX2_firstCars 17 = .ok (.getfield 24, 3) := by decide +kernel
theorem dX2_firstCars_20 : decode cX2_firstCars 20 = .ok (.iload_n 2, 1) := by decide +kernel
theorem dX2_firstCars_21 : decode cX2_firstCars 21 = .ok (.iaload, 1) := by decide +kernel
theorem dX2_firstCars_22 : decode cX2_firstCars 22 = .ok (.ireturn, 1) := by decide +kernel
theorem dX2_append_0 : decode cX2_append 0 = .ok (.aload_n 0, 1) := by decide +kernel
theorem dX2_append_1 : decode cX2_append 1 = .ok (.getfield 15, 3) := by decide +kernel
theorem dX2_append_4 : decode cX2_append 4 = .ok (.iload_n 1, 1) := by decide +kernel
theorem dX2_append_5 : decode cX2_append 5 = .ok (.iaload, 1) := by decide +kernel
theorem dX2_append_6 : decode cX2_append 6 = .ok (.istore 5, 2) := by decide +kernel
theorem dX2_append_8 : decode cX2_append 8 = .ok (.iload 5, 2) := by decide +kernel
theorem dX2_append_10 : decode cX2_append 10 = .ok (.iconst (-1), 1) := by decide +kernel
theorem dX2_append_11 : decode cX2_append 11 = .ok (.if_icmp .eq 48, 3) := by decide +kernel
theorem dX2_append_14 : decode cX2_append 14 = .ok (.aload_n 0, 1) := by decide +kernel
theorem dX2_append_15 : decode cX2_append 15 = .ok (.getfield 21, 3) := by decide +kernel
theorem dX2_append_18 : decode cX2_append 18 = .ok (.iload 5, 2) := by decide +kernel
theorem dX2_append_20 : decode cX2_append 20 = .ok (.iaload, 1) := by decide +kernel
theorem dX2_append_21 : decode cX2_append 21 = .ok (.iload_n 2, 1) := by decide +kernel
theorem dX2_append_22 : decode cX2_append 22 = .ok (.if_icmp .ne 37, 3) := by decide +kernel
theorem dX2_append_25 : decode cX2_append 25 = .ok (.aload_n 0, 1) := by decide +kernel
theorem dX2_append_26 : decode cX2_append 26 = .ok (.getfield 27, 3) := by decide +kernel
theorem dX2_append_29 : decode cX2_append 29 = .ok (.iload 5, 2) := by decide +kernel
theorem dX2_append_31 : decode cX2_append 31 = .ok (.iaload, 1) := by decide +kernel
theorem dX2_append_32 : decode cX2_append 32 = .ok (.iload 4, 2) := by decide +kernel
theorem dX2_append_34 : decode cX2_append 34 = .ok (.if_icmp .ne 25, 3) := by decide +kernel
theorem dX2_append_37 : decode cX2_append 37 = .ok (.aload_n 0, 1) := by decide +kernel
theorem dX2_append_38 : decode cX2_append 38 = .ok (.getfield 18, 3) := by decide +kernel
theorem dX2_append_41 : decode cX2_append 41 = .ok (.iload_n 1, 1) := by decide +kernel
theorem dX2_append_42 : decode cX2_append 42 = .ok (.dup2, 1) := by decide +kernel
theorem dX2_append_43 : decode cX2_append 43 = .ok (.iaload, 1) := by decide +kernel
theorem dX2_append_44 : decode cX2_append 44 = .ok (.iload_n 3, 1) := by decide +kernel
theorem dX2_append_45 : decode cX2_append 45 = .ok (.iadd, 1) := by decide +kernel
theorem dX2_append_46 : decode cX2_append 46 = .ok (.iastore, 1) := by decide +kernel
theorem dX2_append_47 : decode cX2_append 47 = .ok (.aload_n 0, 1) := by decide +kernel
theorem dX2_append_48 : decode cX2_append 48 = .ok (.getfield 24, 3) := by decide +kernel
theorem dX2_append_51 : decode cX2_append 51 = .ok (.iload 5, 2) := by decide +kernel
theorem dX2_append_53 : decode cX2_append 53 = .ok (.dup2, 1) := by decide +kernel
theorem dX2_append_54 : decode cX2_append 54 = .ok (.iaload, 1) := by decide +kernel
theorem dX2_append_55 : decode cX2_append 55 = .ok (.iload_n 3, 1) := by decide +kernel
theorem dX2_append_56 : decode cX2_append 56 = .ok (.iadd, 1) := by decide +kernel
theorem dX2_append_57 : decode cX2_append 57 = .ok (.iastore, 1) := by decide +kernel
theorem dX2_append_58 : decode cX2_append 58 = .ok (.return_, 1) := by decide +kernel
theorem dX2_append_59 : decode cX2_append 59 = .ok (.aload_n 0, 1) := by decide +kernel
theorem dX2_append_60 : decode cX2_append 60 = .ok (.invokevirtual 43, 3) := by decide +kernel
theorem dX2_append_63 : decode cX2_append 63 = .ok (.istore 6, 2) := by decide +kernel
theorem dX2_append_65 : decode cX2_append 65 = .ok (.iload 6, 2) := by decide +kernel
theorem dX2_append_67 : decode cX2_append 67 = .ok (.iconst (-1), 1) := by decide +kernel
theorem dX2_append_68 : decode cX2_append 68 = .ok (.if_icmp .ne 4, 3) := by decide +kernel
theorem dX2_append_71 : decode cX2_append 71 = .ok (.return_, 1) := by decide +kernel
theorem dX2_append_72 : decode cX2_append 72 = .ok (.aload_n 0, 1) := by decide +kernel
theorem dX2_append_73 : decode cX2_append 73 = .ok (.getfield 18, 3) := by decide +kernel
theorem dX2_append_76 : decode cX2_append 76 = .ok (.iload_n 1, 1) := by decide +kernel
theorem dX2_append_77 : decode cX2_append 77 = .ok (.dup2, 1) := by decide +kernel
theorem dX2_append_78 : decode cX2_append 78 = .ok (.iaload, 1) := by decide +kernel
theorem dX2_append_79 : decode cX2_append 79 = .ok (.iload_n 3, 1) := by decide +kernel
theorem dX2_append_80 : decode cX2_append 80 = .ok (.iadd, 1) := by decide +kernel
theorem dX2_append_81 : decode cX2_append 81 = .ok (.iastore, 1) := by decide +kernel
theorem dX2_append_82 : decode cX2_append 82 = .ok (.aload_n 0, 1) := by decide +kernel
theorem dX2_append_83 : decode cX2_append 83 = .ok (.getfield 21, 3) := by decide +kernel
theorem dX2_append_86 : decode cX2_append 86 = .ok (.iload 6, 2) := by decide +kernel
theorem dX2_append_88 : decode cX2_append 88 = .ok (.iload_n 2, 1) := by decide +kernel
theorem dX2_append_89 : decode cX2_append 89 = .ok (.iastore, 1) := by decide +kernel
theorem dX2_append_90 : decode cX2_append 90 = .ok (.aload_n 0, 1) := by decide +kernel
theorem dX2_append_91 : decode cX2_append 91 = .ok (.getfield 24, 3) := by decide +kernel
theorem dX2_append_94 : decode cX2_append 94 = .ok (.iload 6, 2) := by decide +kernel
theorem dX2_append_96 : decode cX2_append 96 = .ok (.iload_n 3, 1) := by decide +kernel
theorem dX2_append_97 : decode cX2_append 97 = .ok (.iastore, 1) := by decide +kernel
theorem dX2_append_98 : decode cX2_append 98 = .ok (.aload_n 0, 1) := by decide +kernel
theorem dX2_append_99 : decode cX2_append 99 = .ok (.getfield 27, 3) := by decide +kernel
theorem dX2_append_102 : decode cX2_append 102 = .ok (.iload 6, 2) := by decide +kernel
theorem dX2_append_104 : decode cX2_append 104 = .ok (.iload 4, 2) := by decide +kernel
theorem dX2_append_106 : decode cX2_append 106 = .ok (.iastore, 1) := by decide +kernel
theorem dX2_append_107 : decode cX2_append 107 = .ok (.aload_n 0, 1) := by decide +kernel
theorem dX2_append_108 : decode cX2_append 108 = .ok (.getfield 30, 3) := by decide +kernel
theorem dX2_append_111 : decode cX2_append 111 = .ok (.iload 6, 2) := by decide +kernel
theorem dX2_append_113 : decode cX2_append 113 = .ok (.iconst (-1), 1) := by decide +kernel
theorem dX2_append_114 : decode cX2_append 114 = .ok (.iastore, 1) := by decide +kernel
theorem dX2_append_115 : decode cX2_append 115 = .ok (.iload 5, 2) := by decide +kernel
theorem dX2_append_117 : decode cX2_append 117 = .ok (.iconst (-1), 1) := by decide +kernel
theorem dX2_append_118 : decode cX2_append 118 = .ok (.if_icmp .ne 14, 3) := by decide +kernel
theorem dX2_append_121 : decode cX2_append 121 = .ok (.aload_n 0, 1) := by decide +kernel
theorem dX2_append_122 : decode cX2_append 122 = .ok (.getfield 9, 3) := by decide +kernel
theorem dX2_append_125 : decode cX2_append 125 = .ok (.iload_n 1, 1) := by decide +kernel
theorem dX2_append_126 : decode cX2_append 126 = .ok (.iload 6, 2) := by decide +kernel
theorem dX2_append_128 : decode cX2_append 128 = .ok (.iastore, 1) := by decide +kernel
theorem dX2_append_129 : decode cX2_append 129 = .ok (.goto 12, 3) := by decide +kernel
theorem dX2_append_132 : decode cX2_append 132 = .ok (.aload_n 0, 1) := by decide +kernel
theorem dX2_append_133 : decode cX2_append 133 = .ok (.getfield 30, 3) := by decide +kernel
theorem dX2_append_136 : decode cX2_append 136 = .ok (.iload 5, 2) := by decide +kernel
theorem dX2_append_138 : decode cX2_append 138 = .ok (.iload 6, 2) := by decide +kernel
theorem dX2_append_140 : decode cX2_append 140 = .ok (.iastore, 1) := by decide +kernel
theorem dX2_append_141 : decode cX2_append 141 = .ok (.aload_n 0, 1) := by decide +kernel
theorem dX2_append_142 : decode cX2_append 142 = .ok (.getfield 15, 3) := by decide +kernel
theorem dX2_append_145 : decode cX2_append 145 = .ok (.iload_n 1, 1) := by decide +kernel
theorem dX2_append_146 : decode cX2_append 146 = .ok (.iload 6, 2) := by decide +kernel
theorem dX2_append_148 : decode cX2_append 148 = .ok (.iastore, 1) := by decide +kernel
theorem dX2_append_149 : decode cX2_append 149 = .ok (.return_, 1) := by decide +kernel
theorem dX2_take_0 : decode cX2_take 0 = .ok (.aload_n 0, 1) := by decide +kernel
theorem dX2_take_1 : decode cX2_take 1 = .ok (.getfield 9, 3) := by decide +kernel
theorem dX2_take_4 : decode cX2_take 4 = .ok (.iload_n 1, 1) := by decide +kernel
theorem dX2_take_5 : decode cX2_take 5 = .ok (.iaload, 1) := by decide +kernel
theorem dX2_take_6 : decode cX2_take 6 = .ok (.istore_n 3, 1) := by decide +kernel
theorem dX2_take_7 : decode cX2_take 7 = .ok (.iload_n 3, 1) := by decide +kernel
theorem dX2_take_8 : decode cX2_take 8 = .ok (.iconst (-1), 1) := by decide +kernel
theorem dX2_take_9 : decode cX2_take 9 = .ok (.if_icmp .ne 4, 3) := by decide +kernel
theorem dX2_take_12 : decode cX2_take 12 = .ok (.return_, 1) := by decide +kernel
theorem dX2_take_13 : decode cX2_take 13 = .ok (.aload_n 0, 1) := by decide +kernel
theorem dX2_take_14 : decode cX2_take 14 = .ok (.getfield 18, 3) := by decide +kernel
theorem dX2_take_17 : decode cX2_take 17 = .ok (.iload_n 1, 1) := by decide +kernel
theorem dX2_take_18 : decode cX2_take 18 = .ok (.dup2, 1) := by decide +kernel
theorem dX2_take_19 : decode cX2_take 19 = .ok (.iaload, 1) := by decide +kernel
theorem dX2_take_20 : decode cX2_take 20 = .ok (.iload_n 2, 1) := by decide +kernel
theorem dX2_take_21 : decode cX2_take 21 = .ok (.isub, 1) := by decide +kernel
theorem dX2_take_22 : decode cX2_take 22 = .ok (.iastore, 1) := by decide +kernel
theorem dX2_take_23 : decode cX2_take 23 = .ok (.aload_n 0, 1) := by decide +kernel
theorem dX2_take_24 : decode cX2_take 24 = .ok (.getfield 24, 3) := by decide +kernel
theorem dX2_take_27 : decode cX2_take 27 = .ok (.iload_n 3, 1) := by decide +kernel
theorem dX2_take_28 : decode cX2_take 28 = .ok (.dup2, 1) := by decide +kernel
theorem dX2_take_29 : decode cX2_take 29 = .ok (.iaload, 1) := by decide +kernel
theorem dX2_take_30 : decode cX2_take 30 = .ok (.iload_n 2, 1) := by decide +kernel
theorem dX2_take_31 : decode cX2_take 31 = .ok (.isub, 1) := by decide +kernel
theorem dX2_take_32 : decode cX2_take 32 = .ok (.iastore, 1) := by decide +kernel
theorem dX2_take_33 : decode cX2_take 33 = .ok (.aload_n 0, 1) := by decide +kernel
theorem dX2_take_34 : decode cX2_take 34 = .ok (.getfield 24, 3) := by decide +kernel
theorem dX2_take_37 : decode cX2_take 37 = .ok (.iload_n 3, 1) := by decide +kernel
theorem dX2_take_38 : decode cX2_take 38 = .ok (.iaload, 1) := by decide +kernel
theorem dX2_take_39 : decode cX2_take 39 = .ok (.ifCond .le 4, 3) := by decide +kernel
theorem dX2_take_42 : decode cX2_take 42 = .ok (.return_, 1) := by decide +kernel
theorem dX2_take_43 : decode cX2_take 43 = .ok (.aload_n 0, 1) := by decide +kernel
theorem dX2_take_44 : decode cX2_take 44 = .ok (.getfield 9, 3) := by decide +kernel
theorem dX2_take_47 : decode cX2_take 47 = .ok (.iload_n 1, 1) := by decide +kernel
theorem dX2_take_48 : decode cX2_take 48 = .ok (.aload_n 0, 1) := by decide +kernel
theorem dX2_take_49 : decode cX2_take 49 = .ok (.getfield 30, 3) := by decide +kernel
theorem dX2_take_52 : decode cX2_take 52 = .ok (.iload_n 3, 1) := by decide +kernel
theorem dX2_take_53 : decode cX2_take 53 = .ok (.iaload, 1) := by decide +kernel
theorem dX2_take_54 : decode cX2_take 54 = .ok (.iastore, 1) := by decide +kernel
theorem dX2_take_55 : decode cX2_take 55 = .ok (.aload_n 0, 1) := by decide +kernel
theorem dX2_take_56 : decode cX2_take 56 = .ok (.getfield 9, 3) := by decide +kernel
theorem dX2_take_59 : decode cX2_take 59 = .ok (.iload_n 1, 1) := by decide +kernel
theorem dX2_take_60 : decode cX2_take 60 = .ok (.iaload, 1) := by decide +kernel
theorem dX2_take_61 : decode cX2_take 61 = .ok (.iconst (-1), 1) := by decide +kernel
theorem dX2_take_62 : decode cX2_take 62 = .ok (.if_icmp .ne 10, 3) := by decide +kernel
theorem dX2_take_65 : decode cX2_take 65 = .ok (.aload_n 0, 1) := by decide +kernel
theorem dX2_take_66 : decode cX2_take 66 = .ok (.getfield 15, 3) := by decide +kernel
theorem dX2_take_69 : decode cX2_take 69 = .ok (.iload_n 1, 1) := by decide +kernel
theorem dX2_take_70 : decode cX2_take 70 = .ok (.iconst (-1), 1) := by decide +kernel
theorem dX2_take_71 : decode cX2_take 71 = .ok (.iastore, 1) := by decide +kernel
theorem dX2_take_72 : decode cX2_take 72 = .ok (.aload_n 0, 1) := by decide +kernel
theorem dX2_take_73 : decode cX2_take 73 = .ok (.getfield 30, 3) := by decide +kernel
theorem dX2_take_76 : decode cX2_take 76 = .ok (.iload_n 3, 1) := by decide +kernel
theorem dX2_take_77 : decode cX2_take 77 = .ok (.aload_n 0, 1) := by decide +kernel
theorem dX2_take_78 : decode cX2_take 78 = .ok (.getfield 33, 3) := by decide +kernel
theorem dX2_take_81 : decode cX2_take 81 = .ok (.iastore, 1) := by decide +kernel
theorem dX2_take_82 : decode cX2_take 82 = .ok (.aload_n 0, 1) := by decide +kernel
theorem dX2_take_83 : decode cX2_take 83 = .ok (.iload_n 3, 1) := by decide +kernel
theorem dX2_take_84 : decode cX2_take 84 = .ok (.putfield 33, 3) := by decide +kernel
theorem dX2_take_87 : decode cX2_take 87 = .ok (.return_, 1) := by decide +kernel
theorem dX2_makeRoomForAnHour_0 : decode cX2_makeRoomForAnHour 0 = .ok (.aload_n 0, 1) := by decide +kernel
theorem dX2_makeRoomForAnHour_1 : decode cX2_makeRoomForAnHour 1 = .ok (.getfield 47, 3) := by decide +kernel
theorem dX2_makeRoomForAnHour_4 : decode cX2_makeRoomForAnHour 4 = .ok (.bipush 24, 2) := by decide +kernel
theorem dX2_makeRoomForAnHour_6 : decode cX2_makeRoomForAnHour 6 = .ok (.iadd, 1) := by decide +kernel
theorem dX2_makeRoomForAnHour_7 : decode cX2_makeRoomForAnHour 7 = .ok (.aload_n 0, 1) := by decide +kernel
theorem dX2_makeRoomForAnHour_8 : decode cX2_makeRoomForAnHour 8 = .ok (.getfield 21, 3) := by decide +kernel
theorem dX2_makeRoomForAnHour_11 : decode cX2_makeRoomForAnHour 11 = .ok (.arraylength, 1) := by decide +kernel
theorem dX2_makeRoomForAnHour_12 : decode cX2_makeRoomForAnHour 12 = .ok (.if_icmp .le 20, 3) := by decide +kernel
theorem dX2_makeRoomForAnHour_15 : decode cX2_makeRoomForAnHour 15 = .ok (.aload_n 0, 1) := by decide +kernel
theorem dX2_makeRoomForAnHour_16 : decode cX2_makeRoomForAnHour 16 = .ok (.iconst 2, 1) := by decide +kernel
theorem dX2_makeRoomForAnHour_17 : decode cX2_makeRoomForAnHour 17 = .ok (.aload_n 0, 1) := by decide +kernel
theorem dX2_makeRoomForAnHour_18 : decode cX2_makeRoomForAnHour 18 = .ok (.getfield 21, 3) := by decide +kernel
theorem dX2_makeRoomForAnHour_21 : decode cX2_makeRoomForAnHour 21 = .ok (.arraylength, 1) := by decide +kernel
theorem dX2_makeRoomForAnHour_22 : decode cX2_makeRoomForAnHour 22 = .ok (.imul, 1) := by decide +kernel
theorem dX2_makeRoomForAnHour_23 : decode cX2_makeRoomForAnHour 23 = .ok (.sipush 4096, 3) := by decide +kernel
theorem dX2_makeRoomForAnHour_26 : decode cX2_makeRoomForAnHour 26 = .ok (.invokestatic 50, 3) := by decide +kernel
theorem dX2_makeRoomForAnHour_29 : decode cX2_makeRoomForAnHour 29 = .ok (.invokevirtual 56, 3) := by decide +kernel
theorem dX2_makeRoomForAnHour_32 : decode cX2_makeRoomForAnHour 32 = .ok (.return_, 1) := by decide +kernel
theorem dX2_copyFrom_0 : decode cX2_copyFrom 0 = .ok (.aload_n 0, 1) := by decide +kernel
theorem dX2_copyFrom_1 : decode cX2_copyFrom 1 = .ok (.getfield 21, 3) := by decide +kernel
theorem dX2_copyFrom_4 : decode cX2_copyFrom 4 = .ok (.arraylength, 1) := by decide +kernel
theorem dX2_copyFrom_5 : decode cX2_copyFrom 5 = .ok (.aload_n 1, 1) := by decide +kernel
theorem dX2_copyFrom_6 : decode cX2_copyFrom 6 = .ok (.getfield 47, 3) := by decide +kernel
theorem dX2_copyFrom_9 : decode cX2_copyFrom 9 = .ok (.if_icmp .ge 12, 3) := by decide +kernel
theorem dX2_copyFrom_12 : decode cX2_copyFrom 12 = .ok (.aload_n 0, 1) := by decide +kernel
theorem dX2_copyFrom_13 : decode cX2_copyFrom 13 = .ok (.aload_n 1, 1) := by decide +kernel
theorem dX2_copyFrom_14 : decode cX2_copyFrom 14 = .ok (.getfield 21, 3) := by decide +kernel
theorem dX2_copyFrom_17 : decode cX2_copyFrom 17 = .ok (.arraylength, 1) := by decide +kernel
theorem dX2_copyFrom_18 : decode cX2_copyFrom 18 = .ok (.invokevirtual 56, 3) := by decide +kernel
theorem dX2_copyFrom_21 : decode cX2_copyFrom 21 = .ok (.aload_n 1, 1) := by decide +kernel
theorem dX2_copyFrom_22 : decode cX2_copyFrom 22 = .ok (.getfield 9, 3) := by decide +kernel
theorem dX2_copyFrom_25 : decode cX2_copyFrom 25 = .ok (.iconst 0, 1) := by decide +kernel
theorem dX2_copyFrom_26 : decode cX2_copyFrom 26 = .ok (.aload_n 0, 1) := by decide +kernel
theorem dX2_copyFrom_27 : decode cX2_copyFrom 27 = .ok (.getfield 9, 3) := by decide +kernel
theorem dX2_copyFrom_30 : decode cX2_copyFrom 30 = .ok (.iconst 0, 1) := by decide +kernel
theorem dX2_copyFrom_31 : decode cX2_copyFrom 31 = .ok (.aload_n 0, 1) := by decide +kernel
theorem dX2_copyFrom_32 : decode cX2_copyFrom 32 = .ok (.getfield 9, 3) := by decide +kernel
theorem dX2_copyFrom_35 : decode cX2_copyFrom 35 = .ok (.arraylength, 1) := by decide +kernel
theorem dX2_copyFrom_36 : decode cX2_copyFrom 36 = .ok (.invokestatic 60, 3) := by decide +kernel
theorem dX2_copyFrom_39 : decode cX2_copyFrom 39 = .ok (.aload_n 1, 1) := by decide +kernel
theorem dX2_copyFrom_40 : decode cX2_copyFrom 40 = .ok (.getfield 15, 3) := by decide +kernel
theorem dX2_copyFrom_43 : decode cX2_copyFrom 43 = .ok (.iconst 0, 1) := by decide +kernel
theorem dX2_copyFrom_44 : decode cX2_copyFrom 44 = .ok (.aload_n 0, 1) := by decide +kernel
theorem dX2_copyFrom_45 : decode cX2_copyFrom 45 = .ok (.getfield 15, 3) := by decide +kernel
theorem dX2_copyFrom_48 : decode cX2_copyFrom 48 = .ok (.iconst 0, 1) := by decide +kernel
theorem dX2_copyFrom_49 : decode cX2_copyFrom 49 = .ok (.aload_n 0, 1) := by decide +kernel
theorem dX2_copyFrom_50 : decode cX2_copyFrom 50 = .ok (.getfield 15, 3) := by decide +kernel
theorem dX2_copyFrom_53 : decode cX2_copyFrom 53 = .ok (.arraylength, 1) := by decide +kernel
theorem dX2_copyFrom_54 : decode cX2_copyFrom 54 = .ok (.invokestatic 60, 3) := by decide +kernel
theorem dX2_copyFrom_57 : decode cX2_copyFrom 57 = .ok (.aload_n 1, 1) := by decide +kernel
theorem dX2_copyFrom_58 : decode cX2_copyFrom 58 = .ok (.getfield 18, 3) := by decide +kernel
theorem dX2_copyFrom_61 : decode cX2_copyFrom 61 = .ok (.iconst 0, 1) := by decide +kernel
theorem dX2_copyFrom_62 : decode cX2_copyFrom 62 = .ok (.aload_n 0, 1) := by decide +kernel
theorem dX2_copyFrom_63 : decode cX2_copyFrom 63 = .ok (.getfield 18, 3) := by decide +kernel
theorem dX2_copyFrom_66 : decode cX2_copyFrom 66 = .ok (.iconst 0, 1) := by decide +kernel
theorem dX2_copyFrom_67 : decode cX2_copyFrom 67 = .ok (.aload_n 0, 1) := by decide +kernel
theorem dX2_copyFrom_68 : decode cX2_copyFrom 68 = .ok (.getfield 18, 3) := by decide +kernel
theorem dX2_copyFrom_71 : decode cX2_copyFrom 71 = .ok (.arraylength, 1) := by decide +kernel
theorem dX2_copyFrom_72 : decode cX2_copyFrom 72 = .ok (.invokestatic 60, 3) := by decide +kernel
theorem dX2_copyFrom_75 : decode cX2_copyFrom 75 = .ok (.aload_n 1, 1) := by decide +kernel
theorem dX2_copyFrom_76 : decode cX2_copyFrom 76 = .ok (.getfield 21, 3) := by decide +kernel
theorem dX2_copyFrom_79 : decode cX2_copyFrom 79 = .ok (.iconst 0, 1) := by decide +kernel
theorem dX2_copyFrom_80 : decode cX2_copyFrom 80 = .ok (.aload_n 0, 1) := by decide +kernel
theorem dX2_copyFrom_81 : decode cX2_copyFrom 81 = .ok (.getfield 21, 3) := by decide +kernel
theorem dX2_copyFrom_84 : decode cX2_copyFrom 84 = .ok (.iconst 0, 1) := by decide +kernel
theorem dX2_copyFrom_85 : decode cX2_copyFrom 85 = .ok (.aload_n 1, 1) := by decide +kernel
theorem dX2_copyFrom_86 : decode cX2_copyFrom 86 = .ok (.getfield 47, 3) := by decide +kernel
theorem dX2_copyFrom_89 : decode cX2_copyFrom 89 = .ok (.invokestatic 60, 3) := by decide +kernel
theorem dX2_copyFrom_92 : decode cX2_copyFrom 92 = .ok (.aload_n 1, 1) := by decide +kernel
theorem dX2_copyFrom_93 : decode cX2_copyFrom 93 = .ok (.getfield 24, 3) := by decide +kernel
theorem dX2_copyFrom_96 : decode cX2_copyFrom 96 = .ok (.iconst 0, 1) := by decide +kernel
theorem dX2_copyFrom_97 : decode cX2_copyFrom 97 = .ok (.aload_n 0, 1) := by decide +kernel
theorem dX2_copyFrom_98 : decode cX2_copyFrom 98 = .ok (.getfield 24, 3) := by decide +kernel
theorem dX2_copyFrom_101 : decode cX2_copyFrom 101 = .ok (.iconst 0, 1) := by decide +kernel
theorem dX2_copyFrom_102 : decode cX2_copyFrom 102 = .ok (.aload_n 1, 1) := by decide +kernel
theorem dX2_copyFrom_103 : decode cX2_copyFrom 103 = .ok (.getfield 47, 3) := by decide +kernel
theorem dX2_copyFrom_106 : decode cX2_copyFrom 106 = .ok (.invokestatic 60, 3) := by decide +kernel
theorem dX2_copyFrom_109 : decode cX2_copyFrom 109 = .ok (.aload_n 1, 1) := by decide +kernel
theorem dX2_copyFrom_110 : decode cX2_copyFrom 110 = .ok (.getfield 27, 3) := by decide +kernel
theorem dX2_copyFrom_113 : decode cX2_copyFrom 113 = .ok (.iconst 0, 1) := by decide +kernel
theorem dX2_copyFrom_114 : decode cX2_copyFrom 114 = .ok (.aload_n 0, 1) := by decide +kernel
theorem dX2_copyFrom_115 : decode cX2_copyFrom 115 = .ok (.getfield 27, 3) := by decide +kernel
theorem dX2_copyFrom_118 : decode cX2_copyFrom 118 = .ok (.iconst 0, 1) := by decide +kernel
theorem dX2_copyFrom_119 : decode cX2_copyFrom 119 = .ok (.aload_n 1, 1) := by decide +kernel
theorem dX2_copyFrom_120 : decode cX2_copyFrom 120 = .ok (.getfield 47, 3) := by decide +kernel
theorem dX2_copyFrom_123 : decode cX2_copyFrom 123 = .ok (.invokestatic 60, 3) := by decide +kernel
theorem dX2_copyFrom_126 : decode cX2_copyFrom 126 = .ok (.aload_n 1, 1) := by decide +kernel
theorem dX2_copyFrom_127 : decode cX2_copyFrom 127 = .ok (.getfield 30, 3) := by decide +kernel
theorem dX2_copyFrom_130 : decode cX2_copyFrom 130 = .ok (.iconst 0, 1) := by decide +kernel
theorem dX2_copyFrom_131 : decode cX2_copyFrom 131 = .ok (.aload_n 0, 1) := by decide +kernel
theorem dX2_copyFrom_132 : decode cX2_copyFrom 132 = .ok (.getfield 30, 3) := by decide +kernel
theorem dX2_copyFrom_135 : decode cX2_copyFrom 135 = .ok (.iconst 0, 1) := by decide +kernel
theorem dX2_copyFrom_136 : decode cX2_copyFrom 136 = .ok (.aload_n 1, 1) := by decide +kernel
theorem dX2_copyFrom_137 : decode cX2_copyFrom 137 = .ok (.getfield 47, 3) := by decide +kernel
theorem dX2_copyFrom_140 : decode cX2_copyFrom 140 = .ok (.invokestatic 60, 3) := by decide +kernel
theorem dX2_copyFrom_143 : decode cX2_copyFrom 143 = .ok (.aload_n 0, 1) := by decide +kernel
theorem dX2_copyFrom_144 : decode cX2_copyFrom 144 = .ok (.aload_n 1, 1) := by decide +kernel
theorem dX2_copyFrom_145 : decode cX2_copyFrom 145 = .ok (.getfield 47, 3) := by decide +kernel
theorem dX2_copyFrom_148 : decode cX2_copyFrom 148 = .ok (.putfield 47, 3) := by decide +kernel
theorem dX2_copyFrom_151 : decode cX2_copyFrom 151 = .ok (.aload_n 0, 1) := by decide +kernel
theorem dX2_copyFrom_152 : decode cX2_copyFrom 152 = .ok (.aload_n 1, 1) := by decide +kernel
theorem dX2_copyFrom_153 : decode cX2_copyFrom 153 = .ok (.getfield 33, 3) := by decide +kernel
theorem dX2_copyFrom_156 : decode cX2_copyFrom 156 = .ok (.putfield 33, 3) := by decide +kernel
theorem dX2_copyFrom_159 : decode cX2_copyFrom 159 = .ok (.return_, 1) := by decide +kernel
theorem dX2_newPart_0 : decode cX2_newPart 0 = .ok (.aload_n 0, 1) := by decide +kernel
theorem dX2_newPart_1 : decode cX2_newPart 1 = .ok (.getfield 33, 3) := by decide +kernel
theorem dX2_newPart_4 : decode cX2_newPart 4 = .ok (.iconst (-1), 1) := by decide +kernel
theorem dX2_newPart_5 : decode cX2_newPart 5 = .ok (.if_icmp .eq 20, 3) := by decide +kernel
theorem dX2_newPart_8 : decode cX2_newPart 8 = .ok (.aload_n 0, 1) := by decide +kernel
theorem dX2_newPart_9 : decode cX2_newPart 9 = .ok (.getfield 33, 3) := by decide +kernel
theorem dX2_newPart_12 : decode cX2_newPart 12 = .ok (.istore_n 1, 1) := by decide +kernel
theorem dX2_newPart_13 : decode cX2_newPart 13 = .ok (.aload_n 0, 1) := by decide +kernel
theorem dX2_newPart_14 : decode cX2_newPart 14 = .ok (.aload_n 0, 1) := by decide +kernel
theorem dX2_newPart_15 : decode cX2_newPart 15 = .ok (.getfield 30, 3) := by decide +kernel
theorem dX2_newPart_18 : decode cX2_newPart 18 = .ok (.iload_n 1, 1) := by decide +kernel
theorem dX2_newPart_19 : decode cX2_newPart 19 = .ok (.iaload, 1) := by decide +kernel
theorem dX2_newPart_20 : decode cX2_newPart 20 = .ok (.putfield 33, 3) := by decide +kernel
theorem dX2_newPart_23 : decode cX2_newPart 23 = .ok (.iload_n 1, 1) := by decide +kernel
theorem dX2_newPart_24 : decode cX2_newPart 24 = .ok (.ireturn, 1) := by decide +kernel
theorem dX2_newPart_25 : decode cX2_newPart 25 = .ok (.aload_n 0, 1) := by decide +kernel
theorem dX2_newPart_26 : decode cX2_newPart 26 = .ok (.getfield 47, 3) := by decide +kernel
theorem dX2_newPart_29 : decode cX2_newPart 29 = .ok (.aload_n 0, 1) := by decide +kernel
theorem dX2_newPart_30 : decode cX2_newPart 30 = .ok (.getfield 21, 3) := by decide +kernel
theorem dX2_newPart_33 : decode cX2_newPart 33 = .ok (.arraylength, 1) := by decide +kernel
theorem dX2_newPart_34 : decode cX2_newPart 34 = .ok (.if_icmp .ge 17, 3) := by decide +kernel
theorem dX2_newPart_37 : decode cX2_newPart 37 = .ok (.aload_n 0, 1) := by decide +kernel
theorem dX2_newPart_38 : decode cX2_newPart 38 = .ok (.dup, 1) := by decide +kernel
theorem dX2_newPart_39 : decode cX2_newPart 39 = .ok (.getfield 47, 3) := by decide +kernel
theorem dX2_newPart_42 : decode cX2_newPart 42 = .ok (.dup_x1, 1) := by decide +kernel
theorem dX2_newPart_43 : decode cX2_newPart 43 = .ok (.iconst 1, 1) := by decide +kernel
theorem dX2_newPart_44 : decode cX2_newPart 44 = .ok (.iadd, 1) := by decide +kernel
theorem dX2_newPart_45 : decode cX2_newPart 45 = .ok (.putfield 47, 3) := by decide +kernel
theorem dX2_newPart_48 : decode cX2_newPart 48 = .ok (.goto 4, 3) := by decide +kernel
theorem dX2_newPart_51 : decode cX2_newPart 51 = .ok (.iconst (-1), 1) := by decide +kernel
theorem dX2_newPart_52 : decode cX2_newPart 52 = .ok (.ireturn, 1) := by decide +kernel
theorem dX2_makeRoom_0 : decode cX2_makeRoom 0 = .ok (.aload_n 0, 1) := by decide +kernel
theorem dX2_makeRoom_1 : decode cX2_makeRoom 1 = .ok (.aload_n 0, 1) := by decide +kernel
theorem dX2_makeRoom_2 : decode cX2_makeRoom 2 = .ok (.getfield 21, 3) := by decide +kernel
theorem dX2_makeRoom_5 : decode cX2_makeRoom 5 = .ok (.iload_n 1, 1) := by decide +kernel
theorem dX2_makeRoom_6 : decode cX2_makeRoom 6 = .ok (.invokestatic 66, 3) := by decide +kernel
theorem dX2_makeRoom_9 : decode cX2_makeRoom 9 = .ok (.putfield 21, 3) := by decide +kernel
theorem dX2_makeRoom_12 : decode cX2_makeRoom 12 = .ok (.aload_n 0, 1) := by decide +kernel
theorem dX2_makeRoom_13 : decode cX2_makeRoom 13 = .ok (.aload_n 0, 1) := by decide +kernel
theorem dX2_makeRoom_14 : decode cX2_makeRoom 14 = .ok (.getfield 24, 3) := by decide +kernel
theorem dX2_makeRoom_17 : decode cX2_makeRoom 17 = .ok (.iload_n 1, 1) := by decide +kernel
theorem dX2_makeRoom_18 : decode cX2_makeRoom 18 = .ok (.invokestatic 66, 3) := by decide +kernel
theorem dX2_makeRoom_21 : decode cX2_makeRoom 21 = .ok (.putfield 24, 3) := by decide +kernel
theorem dX2_makeRoom_24 : decode cX2_makeRoom 24 = .ok (.aload_n 0, 1) := by decide +kernel
theorem dX2_makeRoom_25 : decode cX2_makeRoom 25 = .ok (.aload_n 0, 1) := by decide +kernel
theorem dX2_makeRoom_26 : decode cX2_makeRoom 26 = .ok (.getfield 27, 3) := by decide +kernel
theorem dX2_makeRoom_29 : decode cX2_makeRoom 29 = .ok (.iload_n 1, 1) := by decide +kernel
theorem dX2_makeRoom_30 : decode cX2_makeRoom 30 = .ok (.invokestatic 66, 3) := by decide +kernel
theorem dX2_makeRoom_33 : decode cX2_makeRoom 33 = .ok (.putfield 27, 3) := by decide +kernel
theorem dX2_makeRoom_36 : decode cX2_makeRoom 36 = .ok (.aload_n 0, 1) := by decide +kernel
theorem dX2_makeRoom_37 : decode cX2_makeRoom 37 = .ok (.aload_n 0, 1) := by decide +kernel
theorem dX2_makeRoom_38 : decode cX2_makeRoom 38 = .ok (.getfield 30, 3) := by decide +kernel
theorem dX2_makeRoom_41 : decode cX2_makeRoom 41 = .ok (.iload_n 1, 1) := by decide +kernel
theorem dX2_makeRoom_42 : decode cX2_makeRoom 42 = .ok (.invokestatic 66, 3) := by decide +kernel
theorem dX2_makeRoom_45 : decode cX2_makeRoom 45 = .ok (.putfield 30, 3) := by decide +kernel
theorem dX2_makeRoom_48 : decode cX2_makeRoom 48 = .ok (.return_, 1) := by decide +kernel
theorem dX3_init_0 : decode cX3_init 0 = .ok (.aload_n 0, 1) := by decide +kernel
theorem dX3_init_1 : decode cX3_init 1 = .ok (.invokespecial 3, 3) := by decide +kernel
theorem dX3_init_4 : decode cX3_init 4 = .ok (.aload_n 0, 1) := by decide +kernel
theorem dX3_init_5 : decode cX3_init 5 = .ok (.sipush 200, 3) := by decide +kernel
theorem dX3_init_8 : decode cX3_init 8 = .ok (.newarray .int, 2) := by decide +kernel
theorem dX3_init_10 : decode cX3_init 10 = .ok (.putfield 9, 3) := by decide +kernel
theorem dX3_init_13 : decode cX3_init 13 = .ok (.aload_n 0, 1) := by decide +kernel
theorem dX3_init_14 : decode cX3_init 14 = .ok (.sipush 200, 3) := by decide +kernel
theorem dX3_init_17 : decode cX3_init 17 = .ok (.newarray .int, 2) := by decide +kernel
theorem dX3_init_19 : decode cX3_init 19 = .ok (.putfield 15, 3) := by decide +kernel
theorem dX3_init_22 : decode cX3_init 22 = .ok (.aload_n 0, 1) := by decide +kernel
theorem dX3_init_23 : decode cX3_init 23 = .ok (.sipush 200, 3) := by decide +kernel
theorem dX3_init_26 : decode cX3_init 26 = .ok (.newarray .int, 2) := by decide +kernel
theorem dX3_init_28 : decode cX3_init 28 = .ok (.putfield 18, 3) := by decide +kernel
theorem dX3_init_31 : decode cX3_init 31 = .ok (.aload_n 0, 1) := by decide +kernel
theorem dX3_init_32 : decode cX3_init 32 = .ok (.getfield 18, 3) := by decide +kernel
theorem dX3_init_35 : decode cX3_init 35 = .ok (.iconst (-1), 1) := by decide +kernel
theorem dX3_init_36 : decode cX3_init 36 = .ok (.invokestatic 21, 3) := by decide +kernel
theorem dX3_init_39 : decode cX3_init 39 = .ok (.return_, 1) := by decide +kernel
theorem dX3_note_0 : decode cX3_note 0 = .ok (.iload_n 1, 1) := by decide +kernel
theorem dX3_note_1 : decode cX3_note 1 = .ok (.ifCond .lt 24, 3) := by decide +kernel
theorem dX3_note_4 : decode cX3_note 4 = .ok (.iload_n 1, 1) := by decide +kernel
theorem dX3_note_5 : decode cX3_note 5 = .ok (.sipush 200, 3) := by decide +kernel
theorem dX3_note_8 : decode cX3_note 8 = .ok (.if_icmp .ge 17, 3) := by decide +kernel
theorem dX3_note_11 : decode cX3_note 11 = .ok (.aload_n 0, 1) := by decide +kernel
theorem dX3_note_12 : decode cX3_note 12 = .ok (.getfield 9, 3) := by decide +kernel
theorem dX3_note_15 : decode cX3_note 15 = .ok (.iload_n 1, 1) := by decide +kernel
theorem dX3_note_16 : decode cX3_note 16 = .ok (.iload_n 2, 1) := by decide +kernel
theorem dX3_note_17 : decode cX3_note 17 = .ok (.iastore, 1) := by decide +kernel
theorem dX3_note_18 : decode cX3_note 18 = .ok (.aload_n 0, 1) := by decide +kernel
theorem dX3_note_19 : decode cX3_note 19 = .ok (.getfield 15, 3) := by decide +kernel
theorem dX3_note_22 : decode cX3_note 22 = .ok (.iload_n 1, 1) := by decide +kernel
theorem dX3_note_23 : decode cX3_note 23 = .ok (.iload_n 3, 1) := by decide +kernel
theorem dX3_note_24 : decode cX3_note 24 = .ok (.iastore, 1) := by decide +kernel
theorem dX3_note_25 : decode cX3_note 25 = .ok (.return_, 1) := by decide +kernel
theorem dX3_atLeast_0 : decode cX3_atLeast 0 = .ok (.iconst 0, 1) := by decide +kernel
theorem dX3_atLeast_1 : decode cX3_atLeast 1 = .ok (.istore_n 3, 1) := by decide +kernel
theorem dX3_atLeast_2 : decode cX3_atLeast 2 = .ok (.iload_n 1, 1) := by decide +kernel
theorem dX3_atLeast_3 : decode cX3_atLeast 3 = .ok (.istore 4, 2) := by decide +kernel
theorem dX3_atLeast_5 : decode cX3_atLeast 5 = .ok (.iload 4, 2) := by decide +kernel
theorem dX3_atLeast_7 : decode cX3_atLeast 7 = .ok (.iload_n 2, 1) := by decide +kernel
theorem dX3_atLeast_8 : decode cX3_atLeast 8 = .ok (.if_icmp .gt 42, 3) := by decide +kernel
theorem dX3_atLeast_11 : decode cX3_atLeast 11 = .ok (.iload 4, 2) := by decide +kernel
theorem dX3_atLeast_13 : decode cX3_atLeast 13 = .ok (.sipush 200, 3) := by decide +kernel
theorem dX3_atLeast_16 : decode cX3_atLeast 16 = .ok (.if_icmp .ge 34, 3) := by decide +kernel
theorem dX3_atLeast_19 : decode cX3_atLeast 19 = .ok (.iload_n 3, 1) := by decide +kernel
theorem dX3_atLeast_20 : decode cX3_atLeast 20 = .ok (.aload_n 0, 1) := by decide +kernel
theorem dX3_atLeast_21 : decode cX3_atLeast 21 = .ok (.getfield 18, 3) := by decide +kernel
theorem dX3_atLeast_24 : decode cX3_atLeast 24 = .ok (.iload 4, 2) := by decide +kernel
theorem dX3_atLeast_26 : decode cX3_atLeast 26 = .ok (.iaload, 1) := by decide +kernel
theorem dX3_atLeast_27 : decode cX3_atLeast 27 = .ok (.iconst (-1), 1) := by decide +kernel
theorem dX3_atLeast_28 : decode cX3_atLeast 28 = .ok (.if_icmp .ne 7, 3) := by decide +kernel
theorem dX3_atLeast_31 : decode cX3_atLeast 31 = .ok (.iconst 0, 1) := by decide +kernel
theorem dX3_atLeast_32 : decode cX3_atLeast 32 = .ok (.goto 10, 3) := by decide +kernel
theorem dX3_atLeast_35 : decode cX3_atLeast 35 = .ok (.aload_n 0, 1) := by decide +kernel
theorem dX3_atLeast_36 : decode cX3_atLeast 36 = .ok (.getfield 18, 3) := by decide +kernel
theorem dX3_atLeast_39 : decode cX3_atLeast 39 = .ok (.iload 4, 2) := by decide +kernel
theorem dX3_atLeast_41 : decode cX3_atLeast 41 = .ok (.iaload, 1) := by decide +kernel
theorem dX3_atLeast_42 : decode cX3_atLeast 42 = .ok (.iadd, 1) := by decide +kernel
theorem dX3_atLeast_43 : decode cX3_atLeast 43 = .ok (.istore_n 3, 1) := by decide +kernel
theorem dX3_atLeast_44 : decode cX3_atLeast 44 = .ok (.iinc 4 1, 3) := by decide +kernel
theorem dX3_atLeast_47 : decode cX3_atLeast 47 = .ok (.goto (-42), 3) := by decide +kernel
theorem dX3_atLeast_50 : decode cX3_atLeast 50 = .ok (.iload_n 3, 1) := by decide +kernel
theorem dX3_atLeast_51 : decode cX3_atLeast 51 = .ok (.ireturn, 1) := by decide +kernel
theorem dX3_atMost_0 : decode cX3_atMost 0 = .ok (.iconst 0, 1) := by decide +kernel
theorem dX3_atMost_1 : decode cX3_atMost 1 = .ok (.istore_n 3, 1) := by decide +kernel
theorem dX3_atMost_2 : decode cX3_atMost 2 = .ok (.iload_n 1, 1) := by decide +kernel
theorem dX3_atMost_3 : decode cX3_atMost 3 = .ok (.istore 4, 2) := by decide +kernel
theorem dX3_atMost_5 : decode cX3_atMost 5 = .ok (.iload 4, 2) := by decide +kernel
theorem dX3_atMost_7 : decode cX3_atMost 7 = .ok (.iload_n 2, 1) := by decide +kernel
theorem dX3_atMost_8 : decode cX3_atMost 8 = .ok (.if_icmp .gt 48, 3) := by decide +kernel
theorem dX3_atMost_11 : decode cX3_atMost 11 = .ok (.iload 4, 2) := by decide +kernel
theorem dX3_atMost_13 : decode cX3_atMost 13 = .ok (.sipush 200, 3) := by decide +kernel
theorem dX3_atMost_16 : decode cX3_atMost 16 = .ok (.if_icmp .ge 40, 3) := by decide +kernel
theorem dX3_atMost_19 : decode cX3_atMost 19 = .ok (.iload_n 3, 1) := by decide +kernel
theorem dX3_atMost_20 : decode cX3_atMost 20 = .ok (.aload_n 0, 1) := by decide +kernel
theorem dX3_atMost_21 : decode cX3_atMost 21 = .ok (.getfield 18, 3) := by decide +kernel
theorem dX3_atMost_24 : decode cX3_atMost 24 = .ok (.iload 4, 2) := by decide +kernel
theorem dX3_atMost_26 : decode cX3_atMost 26 = .ok (.iaload, 1) := by decide +kernel
theorem dX3_atMost_27 : decode cX3_atMost 27 = .ok (.iconst (-1), 1) := by decide +kernel
theorem dX3_atMost_28 : decode cX3_atMost 28 = .ok (.if_icmp .ne 13, 3) := by decide +kernel
theorem dX3_atMost_31 : decode cX3_atMost 31 = .ok (.aload_n 0, 1) := by decide +kernel
theorem dX3_atMost_32 : decode cX3_atMost 32 = .ok (.getfield 15, 3) := by decide +kernel
theorem dX3_atMost_35 : decode cX3_atMost 35 = .ok (.iload 4, 2) := by decide +kernel
theorem dX3_atMost_37 : decode cX3_atMost 37 = .ok (.iaload, 1) := by decide +kernel
theorem dX3_atMost_38 : decode cX3_atMost 38 = .ok (.goto 10, 3) := by decide +kernel
theorem dX3_atMost_41 : decode cX3_atMost 41 = .ok (.aload_n 0, 1) := by decide +kernel
theorem dX3_atMost_42 : decode cX3_atMost 42 = .ok (.getfield 18, 3) := by decide +kernel
theorem dX3_atMost_45 : decode cX3_atMost 45 = .ok (.iload 4, 2) := by decide +kernel
theorem dX3_atMost_47 : decode cX3_atMost 47 = .ok (.iaload, 1) := by decide +kernel
theorem dX3_atMost_48 : decode cX3_atMost 48 = .ok (.iadd, 1) := by decide +kernel
theorem dX3_atMost_49 : decode cX3_atMost 49 = .ok (.istore_n 3, 1) := by decide +kernel
theorem dX3_atMost_50 : decode cX3_atMost 50 = .ok (.iinc 4 1, 3) := by decide +kernel
theorem dX3_atMost_53 : decode cX3_atMost 53 = .ok (.goto (-48), 3) := by decide +kernel
theorem dX3_atMost_56 : decode cX3_atMost 56 = .ok (.iload_n 3, 1) := by decide +kernel
theorem dX3_atMost_57 : decode cX3_atMost 57 = .ok (.ireturn, 1) := by decide +kernel
theorem dX4_init_0 : decode cX4_init 0 = .ok (.aload_n 0, 1) := by decide +kernel
theorem dX4_init_1 : decode cX4_init 1 = .ok (.invokespecial 3, 3) := by decide +kernel
theorem dX4_init_4 : decode cX4_init 4 = .ok (.aload_n 0, 1) := by decide +kernel
theorem dX4_init_5 : decode cX4_init 5 = .ok (.bipush 16, 2) := by decide +kernel
theorem dX4_init_7 : decode cX4_init 7 = .ok (.newarray .int, 2) := by decide +kernel
theorem dX4_init_9 : decode cX4_init 9 = .ok (.putfield 9, 3) := by decide +kernel
theorem dX4_init_12 : decode cX4_init 12 = .ok (.aload_n 0, 1) := by decide +kernel
theorem dX4_init_13 : decode cX4_init 13 = .ok (.bipush 16, 2) := by decide +kernel
theorem dX4_init_15 : decode cX4_init 15 = .ok (.newarray .int, 2) := by decide +kernel
theorem dX4_init_17 : decode cX4_init 17 = .ok (.putfield 15, 3) := by decide +kernel
theorem dX4_init_20 : decode cX4_init 20 = .ok (.aload_n 0, 1) := by decide +kernel
theorem dX4_init_21 : decode cX4_init 21 = .ok (.bipush 16, 2) := by decide +kernel
theorem dX4_init_23 : decode cX4_init 23 = .ok (.newarray .int, 2) := by decide +kernel
theorem dX4_init_25 : decode cX4_init 25 = .ok (.putfield 18, 3) := by decide +kernel
theorem dX4_init_28 : decode cX4_init 28 = .ok (.aload_n 0, 1) := by decide +kernel
theorem dX4_init_29 : decode cX4_init 29 = .ok (.bipush 16, 2) := by decide +kernel
theorem dX4_init_31 : decode cX4_init 31 = .ok (.newarray .int, 2) := by decide +kernel
theorem dX4_init_33 : decode cX4_init 33 = .ok (.putfield 21, 3) := by decide +kernel
theorem dX4_init_36 : decode cX4_init 36 = .ok (.aload_n 0, 1) := by decide +kernel
theorem dX4_init_37 : decode cX4_init 37 = .ok (.bipush 16, 2) := by decide +kernel
theorem dX4_init_39 : decode cX4_init 39 = .ok (.newarray .int, 2) := by decide +kernel
theorem dX4_init_41 : decode cX4_init 41 = .ok (.putfield 24, 3) := by decide +kernel
theorem dX4_init_44 : decode cX4_init 44 = .ok (.aload_n 0, 1) := by decide +kernel
theorem dX4_init_45 : decode cX4_init 45 = .ok (.bipush 16, 2) := by decide +kernel
theorem dX4_init_47 : decode cX4_init 47 = .ok (.newarray .int, 2) := by decide +kernel
theorem dX4_init_49 : decode cX4_init 49 = .ok (.putfield 27, 3) := by decide +kernel
theorem dX4_init_52 : decode cX4_init 52 = .ok (.aload_n 0, 1) := by decide +kernel
theorem dX4_init_53 : decode cX4_init 53 = .ok (.bipush 100, 2) := by decide +kernel
theorem dX4_init_55 : decode cX4_init 55 = .ok (.newarray .int, 2) := by decide +kernel
theorem dX4_init_57 : decode cX4_init 57 = .ok (.putfield 30, 3) := by decide +kernel
theorem dX4_init_60 : decode cX4_init 60 = .ok (.aload_n 0, 1) := by decide +kernel
theorem dX4_init_61 : decode cX4_init 61 = .ok (.bipush 100, 2) := by decide +kernel
theorem dX4_init_63 : decode cX4_init 63 = .ok (.newarray .int, 2) := by decide +kernel
theorem dX4_init_65 : decode cX4_init 65 = .ok (.putfield 33, 3) := by decide +kernel
theorem dX4_init_68 : decode cX4_init 68 = .ok (.aload_n 0, 1) := by decide +kernel
theorem dX4_init_69 : decode cX4_init 69 = .ok (.getfield 33, 3) := by decide +kernel
theorem dX4_init_72 : decode cX4_init 72 = .ok (.iconst (-1), 1) := by decide +kernel
theorem dX4_init_73 : decode cX4_init 73 = .ok (.invokestatic 36, 3) := by decide +kernel
theorem dX4_init_76 : decode cX4_init 76 = .ok (.aload_n 0, 1) := by decide +kernel
theorem dX4_init_77 : decode cX4_init 77 = .ok (.getfield 30, 3) := by decide +kernel
theorem dX4_init_80 : decode cX4_init 80 = .ok (.iconst (-1), 1) := by decide +kernel
theorem dX4_init_81 : decode cX4_init 81 = .ok (.invokestatic 36, 3) := by decide +kernel
theorem dX4_init_84 : decode cX4_init 84 = .ok (.iconst 0, 1) := by decide +kernel
theorem dX4_init_85 : decode cX4_init 85 = .ok (.istore_n 1, 1) := by decide +kernel
theorem dX4_init_86 : decode cX4_init 86 = .ok (.iload_n 1, 1) := by decide +kernel
theorem dX4_init_87 : decode cX4_init 87 = .ok (.bipush 10, 2) := by decide +kernel
theorem dX4_init_89 : decode cX4_init 89 = .ok (.if_icmp .ge 21, 3) := by decide +kernel
theorem dX4_init_92 : decode cX4_init 92 = .ok (.aload_n 0, 1) := by decide +kernel
theorem dX4_init_93 : decode cX4_init 93 = .ok (.getfield 30, 3) := by decide +kernel
theorem dX4_init_96 : decode cX4_init 96 = .ok (.iload_n 1, 1) := by decide +kernel
theorem dX4_init_97 : decode cX4_init 97 = .ok (.bipush 10, 2) := by decide +kernel
theorem dX4_init_99 : decode cX4_init 99 = .ok (.imul, 1) := by decide +kernel
theorem dX4_init_100 : decode cX4_init 100 = .ok (.iload_n 1, 1) := by decide +kernel
theorem dX4_init_101 : decode cX4_init 101 = .ok (.iadd, 1) := by decide +kernel
theorem dX4_init_102 : decode cX4_init 102 = .ok (.iconst 0, 1) := by decide +kernel
theorem dX4_init_103 : decode cX4_init 103 = .ok (.iastore, 1) := by decide +kernel
theorem dX4_init_104 : decode cX4_init 104 = .ok (.iinc 1 1, 3) := by decide +kernel
theorem dX4_init_107 : decode cX4_init 107 = .ok (.goto (-21), 3) := by decide +kernel
theorem dX4_init_110 : decode cX4_init 110 = .ok (.return_, 1) := by decide +kernel
theorem dX4_has_0 : decode cX4_has 0 = .ok (.iload_n 1, 1) := by decide +kernel
theorem dX4_has_1 : decode cX4_has 1 = .ok (.ifCond .lt 15, 3) := by decide +kernel
theorem dX4_has_4 : decode cX4_has 4 = .ok (.iload_n 1, 1) := by decide +kernel
theorem dX4_has_5 : decode cX4_has 5 = .ok (.aload_n 0, 1) := by decide +kernel
theorem dX4_has_6 : decode cX4_has 6 = .ok (.getfield 42, 3) := by decide +kernel
theorem dX4_has_9 : decode cX4_has 9 = .ok (.if_icmp .ge 7, 3) := by decide +kernel
theorem dX4_has_12 : decode cX4_has 12 = .ok (.iconst 1, 1) := by decide +kernel
theorem dX4_has_13 : decode cX4_has 13 = .ok (.goto 4, 3) := by decide +kernel
theorem dX4_has_16 : decode cX4_has 16 = .ok (.iconst 0, 1) := by decide +kernel
theorem dX4_has_17 : decode cX4_has 17 = .ok (.ireturn, 1) := by decide +kernel
theorem dX4_add_0 : decode cX4_add 0 = .ok (.aload_n 0, 1) := by decide +kernel
theorem dX4_add_1 : decode cX4_add 1 = .ok (.getfield 9, 3) := by decide +kernel
theorem dX4_add_4 : decode cX4_add 4 = .ok (.aload_n 0, 1) := by decide +kernel
theorem dX4_add_5 : decode cX4_add 5 = .ok (.getfield 42, 3) := by decide +kernel
theorem dX4_add_8 : decode cX4_add 8 = .ok (.iload_n 1, 1) := by decide +kernel
theorem dX4_add_9 : decode cX4_add 9 = .ok (.iastore, 1) := by decide +kernel
theorem dX4_add_10 : decode cX4_add 10 = .ok (.aload_n 0, 1) := by decide +kernel
theorem dX4_add_11 : decode cX4_add 11 = .ok (.getfield 15, 3) := by decide +kernel
theorem dX4_add_14 : decode cX4_add 14 = .ok (.aload_n 0, 1) := by decide +kernel
theorem dX4_add_15 : decode cX4_add 15 = .ok (.getfield 42, 3) := by decide +kernel
theorem dX4_add_18 : decode cX4_add 18 = .ok (.iload_n 2, 1) := by decide +kernel
theorem dX4_add_19 : decode cX4_add 19 = .ok (.iastore, 1) := by decide +kernel
theorem dX4_add_20 : decode cX4_add 20 = .ok (.aload_n 0, 1) := by decide +kernel
theorem dX4_add_21 : decode cX4_add 21 = .ok (.getfield 18, 3) := by decide +kernel
theorem dX4_add_24 : decode cX4_add 24 = .ok (.aload_n 0, 1) := by decide +kernel
theorem dX4_add_25 : decode cX4_add 25 = .ok (.getfield 42, 3) := by decide +kernel
theorem dX4_add_28 : decode cX4_add 28 = .ok (.iload_n 3, 1) := by decide +kernel
theorem dX4_add_29 : decode cX4_add 29 = .ok (.iastore, 1) := by decide +kernel
theorem dX4_add_30 : decode cX4_add 30 = .ok (.aload_n 0, 1) := by decide +kernel
theorem dX4_add_31 : decode cX4_add 31 = .ok (.getfield 21, 3) := by decide +kernel
theorem dX4_add_34 : decode cX4_add 34 = .ok (.aload_n 0, 1) := by decide +kernel
theorem dX4_add_35 : decode cX4_add 35 = .ok (.getfield 42, 3) := by decide +kernel
theorem dX4_add_38 : decode cX4_add 38 = .ok (.iload 4, 2) := by decide +kernel
theorem dX4_add_40 : decode cX4_add 40 = .ok (.iastore, 1) := by decide +kernel
theorem dX4_add_41 : decode cX4_add 41 = .ok (.aload_n 0, 1) := by decide +kernel
theorem dX4_add_42 : decode cX4_add 42 = .ok (.dup, 1) := by decide +kernel
theorem dX4_add_43 : decode cX4_add 43 = .ok (.getfield 42, 3) := by decide +kernel
theorem dX4_add_46 : decode cX4_add 46 = .ok (.iconst 1, 1) := by decide +kernel
theorem dX4_add_47 : decode cX4_add 47 = .ok (.iadd, 1) := by decide +kernel
theorem dX4_add_48 : decode cX4_add 48 = .ok (.putfield 42, 3) := by decide +kernel
theorem dX4_add_51 : decode cX4_add 51 = .ok (.aload_n 0, 1) := by decide +kernel
theorem dX4_add_52 : decode cX4_add 52 = .ok (.iload_n 1, 1) := by decide +kernel
theorem dX4_add_53 : decode cX4_add 53 = .ok (.iload_n 2, 1) := by decide +kernel
theorem dX4_add_54 : decode cX4_add 54 = .ok (.iload 4, 2) := by decide +kernel
theorem dX4_add_56 : decode cX4_add 56 = .ok (.invokevirtual 46, 3) := by decide +kernel
theorem dX4_add_59 : decode cX4_add 59 = .ok (.aload_n 0, 1) := by decide +kernel
theorem dX4_add_60 : decode cX4_add 60 = .ok (.invokevirtual 50, 3) := by decide +kernel
theorem dX4_add_63 : decode cX4_add 63 = .ok (.aload_n 0, 1) := by decide +kernel
theorem dX4_add_64 : decode cX4_add 64 = .ok (.getfield 42, 3) := by decide +kernel
theorem dX4_add_67 : decode cX4_add 67 = .ok (.iconst 1, 1) := by decide +kernel
theorem dX4_add_68 : decode cX4_add 68 = .ok (.isub, 1) := by decide +kernel
theorem dX4_add_69 : decode cX4_add 69 = .ok (.ireturn, 1) := by decide +kernel
theorem dX4_leastHours_0 : decode cX4_leastHours 0 = .ok (.aload_n 0, 1) := by decide +kernel
theorem dX4_leastHours_1 : decode cX4_leastHours 1 = .ok (.getfield 30, 3) := by decide +kernel
theorem dX4_leastHours_4 : decode cX4_leastHours 4 = .ok (.iload_n 1, 1) := by decide +kernel
theorem dX4_leastHours_5 : decode cX4_leastHours 5 = .ok (.bipush 10, 2) := by decide +kernel
theorem dX4_leastHours_7 : decode cX4_leastHours 7 = .ok (.imul, 1) := by decide +kernel
theorem dX4_leastHours_8 : decode cX4_leastHours 8 = .ok (.iload_n 2, 1) := by decide +kernel
theorem dX4_leastHours_9 : decode cX4_leastHours 9 = .ok (.iadd, 1) := by decide +kernel
theorem dX4_leastHours_10 : decode cX4_leastHours 10 = .ok (.iaload, 1) := by decide +kernel
theorem dX4_leastHours_11 : decode cX4_leastHours 11 = .ok (.ireturn, 1) := by decide +kernel
theorem dX4_nextRoad_0 : decode cX4_nextRoad 0 = .ok (.aload_n 0, 1) := by decide +kernel
theorem dX4_nextRoad_1 : decode cX4_nextRoad 1 = .ok (.getfield 33, 3) := by decide +kernel
theorem dX4_nextRoad_4 : decode cX4_nextRoad 4 = .ok (.iload_n 1, 1) := by decide +kernel
theorem dX4_nextRoad_5 : decode cX4_nextRoad 5 = .ok (.bipush 10, 2) := by decide +kernel
theorem dX4_nextRoad_7 : decode cX4_nextRoad 7 = .ok (.imul, 1) := by decide +kernel
theorem dX4_nextRoad_8 : decode cX4_nextRoad 8 = .ok (.iload_n 2, 1) := by decide +kernel
theorem dX4_nextRoad_9 : decode cX4_nextRoad 9 = .ok (.iadd, 1) := by decide +kernel
theorem dX4_nextRoad_10 : decode cX4_nextRoad 10 = .ok (.iaload, 1) := by decide +kernel
theorem dX4_nextRoad_11 : decode cX4_nextRoad 11 = .ok (.ireturn, 1) := by decide +kernel
theorem dX4_isShut_0 : decode cX4_isShut 0 = .ok (.iload_n 2, 1) := by decide +kernel
theorem dX4_isShut_1 : decode cX4_isShut 1 = .ok (.aload_n 0, 1) := by decide +kernel
theorem dX4_isShut_2 : decode cX4_isShut 2 = .ok (.getfield 24, 3) := by decide +kernel
theorem dX4_isShut_5 : decode cX4_isShut 5 = .ok (.iload_n 1, 1) := by decide +kernel
theorem dX4_isShut_6 : decode cX4_isShut 6 = .ok (.iaload, 1) := by decide +kernel
theorem dX4_isShut_7 : decode cX4_isShut 7 = .ok (.if_icmp .lt 17, 3) := by decide +kernel
theorem dX4_isShut_10 : decode cX4_isShut 10 = .ok (.iload_n 2, 1) := by decide +kernel
theorem dX4_isShut_11 : decode cX4_isShut 11 = .ok (.aload_n 0, 1) := by decide +kernel
theorem dX4_isShut_12 : decode cX4_isShut 12 = .ok (.getfield 27, 3) := by decide +kernel
theorem dX4_isShut_15 : decode cX4_isShut 15 = .ok (.iload_n 1, 1) := by decide +kernel
theorem dX4_isShut_16 : decode cX4_isShut 16 = .ok (.iaload, 1) := by decide +kernel
theorem dX4_isShut_17 : decode cX4_isShut 17 = .ok (.if_icmp .ge 7, 3) := by decide +kernel
theorem dX4_isShut_20 : decode cX4_isShut 20 = .ok (.iconst 1, 1) := by decide +kernel
theorem dX4_isShut_21 : decode cX4_isShut 21 = .ok (.goto 4, 3) := by decide +kernel
theorem dX4_isShut_24 : decode cX4_isShut 24 = .ok (.iconst 0, 1) := by decide +kernel
theorem dX4_isShut_25 : decode cX4_isShut 25 = .ok (.ireturn, 1) := by decide +kernel
theorem dX4_lets_0 : decode cX4_lets 0 = .ok (.aload_n 0, 1) := by decide +kernel
theorem dX4_lets_1 : decode cX4_lets 1 = .ok (.iload_n 1, 1) := by decide +kernel
theorem dX4_lets_2 : decode cX4_lets 2 = .ok (.iload_n 2, 1) := by decide +kernel
theorem dX4_lets_3 : decode cX4_lets 3 = .ok (.invokevirtual 53, 3) := by decide +kernel
theorem dX4_lets_6 : decode cX4_lets 6 = .ok (.ifCond .eq 7, 3) := by decide +kernel
theorem dX4_lets_9 : decode cX4_lets 9 = .ok (.iconst 0, 1) := by decide +kernel
theorem dX4_lets_10 : decode cX4_lets 10 = .ok (.goto 9, 3) := by decide +kernel
theorem dX4_lets_13 : decode cX4_lets 13 = .ok (.aload_n 0, 1) := by decide +kernel
theorem dX4_lets_14 : decode cX4_lets 14 = .ok (.getfield 18, 3) := by decide +kernel
theorem dX4_lets_17 : decode cX4_lets 17 = .ok (.iload_n 1, 1) := by decide +kernel
theorem dX4_lets_18 : decode cX4_lets 18 = .ok (.iaload, 1) := by decide +kernel
theorem dX4_lets_19 : decode cX4_lets 19 = .ok (.ireturn, 1) := by decide +kernel
theorem dX4_shorten_0 : decode cX4_shorten 0 = .ok (.iconst 0, 1) := by decide +kernel
theorem dX4_shorten_1 : decode cX4_shorten 1 = .ok (.istore 4, 2) := by decide +kernel
theorem dX4_shorten_3 : decode cX4_shorten 3 = .ok (.iload 4, 2) := by decide +kernel
theorem dX4_shorten_5 : decode cX4_shorten 5 = .ok (.bipush 10, 2) := by decide +kernel
theorem dX4_shorten_7 : decode cX4_shorten 7 = .ok (.if_icmp .ge 103, 3) := by decide +kernel
theorem dX4_shorten_10 : decode cX4_shorten 10 = .ok (.aload_n 0, 1) := by decide +kernel
theorem dX4_shorten_11 : decode cX4_shorten 11 = .ok (.iload 4, 2) := by decide +kernel
theorem dX4_shorten_13 : decode cX4_shorten 13 = .ok (.iload_n 1, 1) := by decide +kernel
theorem dX4_shorten_14 : decode cX4_shorten 14 = .ok (.invokevirtual 57, 3) := by decide +kernel
theorem dX4_shorten_17 : decode cX4_shorten 17 = .ok (.istore 5, 2) := by decide +kernel
theorem dX4_shorten_19 : decode cX4_shorten 19 = .ok (.iconst 0, 1) := by decide +kernel
theorem dX4_shorten_20 : decode cX4_shorten 20 = .ok (.istore 6, 2) := by decide +kernel
theorem dX4_shorten_22 : decode cX4_shorten 22 = .ok (.iload 6, 2) := by decide +kernel
theorem dX4_shorten_24 : decode cX4_shorten 24 = .ok (.bipush 10, 2) := by decide +kernel
theorem dX4_shorten_26 : decode cX4_shorten 26 = .ok (.if_icmp .ge 78, 3) := by decide +kernel
theorem dX4_shorten_29 : decode cX4_shorten 29 = .ok (.iload 5, 2) := by decide +kernel
theorem dX4_shorten_31 : decode cX4_shorten 31 = .ok (.iconst (-1), 1) := by decide +kernel
theorem dX4_shorten_32 : decode cX4_shorten 32 = .ok (.if_icmp .eq 72, 3) := by decide +kernel
theorem dX4_shorten_35 : decode cX4_shorten 35 = .ok (.aload_n 0, 1) := by decide +kernel
theorem dX4_shorten_36 : decode cX4_shorten 36 = .ok (.iload_n 2, 1) := by decide +kernel
theorem dX4_shorten_37 : decode cX4_shorten 37 = .ok (.iload 6, 2) := by decide +kernel
theorem dX4_shorten_39 : decode cX4_shorten 39 = .ok (.invokevirtual 57, 3) := by decide +kernel
theorem dX4_shorten_42 : decode cX4_shorten 42 = .ok (.istore 7, 2) := by decide +kernel
theorem dX4_shorten_44 : decode cX4_shorten 44 = .ok (.aload_n 0, 1) := by decide +kernel
theorem dX4_shorten_45 : decode cX4_shorten 45 = .ok (.iload 4, 2) := by decide +kernel
theorem dX4_shorten_47 : decode cX4_shorten 47 = .ok (.iload 6, 2) := by decide +kernel
theorem dX4_shorten_49 : decode cX4_shorten 49 = .ok (.invokevirtual 57, 3) := by decide +kernel
theorem dX4_shorten_52 : decode cX4_shorten 52 = .ok (.istore 8, 2) := by decide +kernel
theorem dX4_shorten_54 : decode cX4_shorten 54 = .ok (.iload 7, 2) := by decide +kernel
theorem dX4_shorten_56 : decode cX4_shorten 56 = .ok (.iconst (-1), 1) := by decide +kernel
theorem dX4_shorten_57 : decode cX4_shorten 57 = .ok (.if_icmp .eq 41, 3) := by decide +kernel
theorem dX4_shorten_60 : decode cX4_shorten 60 = .ok (.iload 8, 2) := by decide +kernel
theorem dX4_shorten_62 : decode cX4_shorten 62 = .ok (.iconst (-1), 1) := by decide +kernel
theorem dX4_shorten_63 : decode cX4_shorten 63 = .ok (.if_icmp .eq 15, 3) := by decide +kernel
theorem dX4_shorten_66 : decode cX4_shorten 66 = .ok (.iload 5, 2) := by decide +kernel
theorem dX4_shorten_68 : decode cX4_shorten 68 = .ok (.iload_n 3, 1) := by decide +kernel
theorem dX4_shorten_69 : decode cX4_shorten 69 = .ok (.iadd, 1) := by decide +kernel
theorem dX4_shorten_70 : decode cX4_shorten 70 = .ok (.iload 7, 2) := by decide +kernel
theorem dX4_shorten_72 : decode cX4_shorten 72 = .ok (.iadd, 1) := by decide +kernel
theorem dX4_shorten_73 : decode cX4_shorten 73 = .ok (.iload 8, 2) := by decide +kernel
theorem dX4_shorten_75 : decode cX4_shorten 75 = .ok (.if_icmp .ge 23, 3) := by decide +kernel
theorem dX4_shorten_78 : decode cX4_shorten 78 = .ok (.aload_n 0, 1) := by decide +kernel
theorem dX4_shorten_79 : decode cX4_shorten 79 = .ok (.getfield 30, 3) := by decide +kernel
theorem dX4_shorten_82 : decode cX4_shorten 82 = .ok (.iload 4, 2) := by decide +kernel
theorem dX4_shorten_84 : decode cX4_shorten 84 = .ok (.bipush 10, 2) := by decide +kernel
theorem dX4_shorten_86 : decode cX4_shorten 86 = .ok (.imul, 1) := by decide +kernel
theorem dX4_shorten_87 : decode cX4_shorten 87 = .ok (.iload 6, 2) := by decide +kernel
theorem dX4_shorten_89 : decode cX4_shorten 89 = .ok (.iadd, 1) := by decide +kernel
theorem dX4_shorten_90 : decode cX4_shorten 90 = .ok (.iload 5, 2) := by decide +kernel
theorem dX4_shorten_92 : decode cX4_shorten 92 = .ok (.iload_n 3, 1) := by decide +kernel
theorem dX4_shorten_93 : decode cX4_shorten 93 = .ok (.iadd, 1) := by decide +kernel
theorem dX4_shorten_94 : decode cX4_shorten 94 = .ok (.iload 7, 2) := by decide +kernel
theorem dX4_shorten_96 : decode cX4_shorten 96 = .ok (.iadd, 1) := by decide +kernel
theorem dX4_shorten_97 : decode cX4_shorten 97 = .ok (.iastore, 1) := by decide +kernel
theorem dX4_shorten_98 : decode cX4_shorten 98 = .ok (.iinc 6 1, 3) := by decide +kernel
theorem dX4_shorten_101 : decode cX4_shorten 101 = .ok (.goto (-79), 3) := by decide +kernel
theorem dX4_shorten_104 : decode cX4_shorten 104 = .ok (.iinc 4 1, 3) := by decide +kernel
theorem dX4_shorten_107 : decode cX4_shorten 107 = .ok (.goto (-104), 3) := by decide +kernel
theorem dX4_shorten_110 : decode cX4_shorten 110 = .ok (.return_, 1) := by decide +kernel
theorem dX4_findWays_0 : decode cX4_findWays 0 = .ok (.aload_n 0, 1) := by decide +kernel
theorem dX4_findWays_1 : decode cX4_findWays 1 = .ok (.getfield 42, 3) := by decide +kernel
theorem dX4_findWays_4 : decode cX4_findWays 4 = .ok (.iconst 1, 1) := by decide +kernel
theorem dX4_findWays_5 : decode cX4_findWays 5 = .ok (.isub, 1) := by decide +kernel
theorem dX4_findWays_6 : decode cX4_findWays 6 = .ok (.istore_n 1, 1) := by decide +kernel
theorem dX4_findWays_7 : decode cX4_findWays 7 = .ok (.iload_n 1, 1) := by decide +kernel
theorem dX4_findWays_8 : decode cX4_findWays 8 = .ok (.ifCond .lt 79, 3) := by decide +kernel
theorem dX4_findWays_11 : decode cX4_findWays 11 = .ok (.iconst 0, 1) := by decide +kernel
theorem dX4_findWays_12 : decode cX4_findWays 12 = .ok (.istore_n 2, 1) := by decide +kernel
theorem dX4_findWays_13 : decode cX4_findWays 13 = .ok (.iload_n 2, 1) := by decide +kernel
theorem dX4_findWays_14 : decode cX4_findWays 14 = .ok (.bipush 10, 2) := by decide +kernel
theorem dX4_findWays_16 : decode cX4_findWays 16 = .ok (.if_icmp .ge 65, 3) := by decide +kernel
theorem dX4_findWays_19 : decode cX4_findWays 19 = .ok (.aload_n 0, 1) := by decide +kernel
theorem dX4_findWays_20 : decode cX4_findWays 20 = .ok (.aload_n 0, 1) := by decide +kernel
theorem dX4_findWays_21 : decode cX4_findWays 21 = .ok (.getfield 15, 3) := by decide +kernel
theorem dX4_findWays_24 : decode cX4_findWays 24 = .ok (.iload_n 1, 1) := by decide +kernel
theorem dX4_findWays_25 : decode cX4_findWays 25 = .ok (.iaload, 1) := by decide +kernel
theorem dX4_findWays_26 : decode cX4_findWays 26 = .ok (.iload_n 2, 1) := by decide +kernel
theorem dX4_findWays_27 : decode cX4_findWays 27 = .ok (.invokevirtual 57, 3) := by decide +kernel
theorem dX4_findWays_30 : decode cX4_findWays 30 = .ok (.istore_n 3, 1) := by decide +kernel
theorem dX4_findWays_31 : decode cX4_findWays 31 = .ok (.iload_n 3, 1) := by decide +kernel
theorem dX4_findWays_32 : decode cX4_findWays 32 = .ok (.iconst (-1), 1) := by decide +kernel
theorem dX4_findWays_33 : decode cX4_findWays 33 = .ok (.if_icmp .eq 42, 3) := by decide +kernel
theorem dX4_findWays_36 : decode cX4_findWays 36 = .ok (.aload_n 0, 1) := by decide +kernel
theorem dX4_findWays_37 : decode cX4_findWays 37 = .ok (.getfield 21, 3) := by decide +kernel
theorem dX4_findWays_40 : decode cX4_findWays 40 = .ok (.iload_n 1, 1) := by decide +kernel
theorem dX4_findWays_41 : decode cX4_findWays 41 = .ok (.iaload, 1) := by decide +kernel
theorem dX4_findWays_42 : decode cX4_findWays 42 = .ok (.iload_n 3, 1) := by decide +kernel
theorem dX4_findWays_43 : decode cX4_findWays 43 = .ok (.iadd, 1) := by decide +kernel
theorem dX4_findWays_44 : decode cX4_findWays 44 = .ok (.aload_n 0, 1) := by decide +kernel
theorem dX4_findWays_45 : decode cX4_findWays 45 = .ok (.aload_n 0, 1) := by decide +kernel
theorem dX4_findWays_46 : decode cX4_findWays 46 = .ok (.getfield 9, 3) := by decide +kernel
theorem dX4_findWays_49 : decode cX4_findWays 49 = .ok (.iload_n 1, 1) := by decide +kernel
theorem dX4_findWays_50 : decode cX4_findWays 50 = .ok (.iaload, 1) := by decide +kernel
theorem dX4_findWays_51 : decode cX4_findWays 51 = .ok (.iload_n 2, 1) := by decide +kernel
theorem dX4_findWays_52 : decode cX4_findWays 52 = .ok (.invokevirtual 57, 3) := by decide +kernel
theorem dX4_findWays_55 : decode cX4_findWays 55 = .ok (.if_icmp .ne 20, 3) := by decide +kernel
theorem dX4_findWays_58 : decode cX4_findWays 58 = .ok (.aload_n 0, 1) := by decide +kernel
theorem dX4_findWays_59 : decode cX4_findWays 59 = .ok (.getfield 33, 3) := by decide +kernel
theorem dX4_findWays_62 : decode cX4_findWays 62 = .ok (.aload_n 0, 1) := by decide +kernel
theorem dX4_findWays_63 : decode cX4_findWays 63 = .ok (.getfield 9, 3) := by decide +kernel
theorem dX4_findWays_66 : decode cX4_findWays 66 = .ok (.iload_n 1, 1) := by decide +kernel
theorem dX4_findWays_67 : decode cX4_findWays 67 = .ok (.iaload, 1) := by decide +kernel
theorem dX4_findWays_68 : decode cX4_findWays 68 = .ok (.bipush 10, 2) := by decide +kernel
theorem dX4_findWays_70 : decode cX4_findWays 70 = .ok (.imul, 1) := by decide +kernel
theorem dX4_findWays_71 : decode cX4_findWays 71 = .ok (.iload_n 2, 1) := by decide +kernel
theorem dX4_findWays_72 : decode cX4_findWays 72 = .ok (.iadd, 1) := by decide +kernel
theorem dX4_findWays_73 : decode cX4_findWays 73 = .ok (.iload_n 1, 1) := by decide +kernel
theorem dX4_findWays_74 : decode cX4_findWays 74 = .ok (.iastore, 1) := by decide +kernel
theorem dX4_findWays_75 : decode cX4_findWays 75 = .ok (.iinc 2 1, 3) := by decide +kernel
theorem dX4_findWays_78 : decode cX4_findWays 78 = .ok (.goto (-65), 3) := by decide +kernel
theorem dX4_findWays_81 : decode cX4_findWays 81 = .ok (.iinc 1 (-1), 3) := by decide +kernel
theorem dX4_findWays_84 : decode cX4_findWays 84 = .ok (.goto (-77), 3) := by decide +kernel
theorem dX4_findWays_87 : decode cX4_findWays 87 = .ok (.return_, 1) := by decide +kernel
theorem dX5_init_0 : decode cX5_init 0 = .ok (.aload_n 0, 1) := by decide +kernel
theorem dX5_init_1 : decode cX5_init 1 = .ok (.invokespecial 3, 3) := by decide +kernel
theorem dX5_init_4 : decode cX5_init 4 = .ok (.aload_n 0, 1) := by decide +kernel
theorem dX5_init_5 : decode cX5_init 5 = .ok (.bipush 10, 2) := by decide +kernel
theorem dX5_init_7 : decode cX5_init 7 = .ok (.newarray .int, 2) := by decide +kernel
theorem dX5_init_9 : decode cX5_init 9 = .ok (.putfield 9, 3) := by decide +kernel
theorem dX5_init_12 : decode cX5_init 12 = .ok (.aload_n 0, 1) := by decide +kernel
theorem dX5_init_13 : decode cX5_init 13 = .ok (.bipush 10, 2) := by decide +kernel
theorem dX5_init_15 : decode cX5_init 15 = .ok (.newarray .int, 2) := by decide +kernel
theorem dX5_init_17 : decode cX5_init 17 = .ok (.putfield 15, 3) := by decide +kernel
theorem dX5_init_20 : decode cX5_init 20 = .ok (.aload_n 0, 1) := by decide +kernel
theorem dX5_init_21 : decode cX5_init 21 = .ok (.bipush 50, 2) := by decide +kernel
theorem dX5_init_23 : decode cX5_init 23 = .ok (.putfield 18, 3) := by decide +kernel
theorem dX5_init_26 : decode cX5_init 26 = .ok (.return_, 1) := by decide +kernel
theorem dX5_has_0 : decode cX5_has 0 = .ok (.iload_n 1, 1) := by decide +kernel
theorem dX5_has_1 : decode cX5_has 1 = .ok (.ifCond .lt 15, 3) := by decide +kernel
theorem dX5_has_4 : decode cX5_has 4 = .ok (.iload_n 1, 1) := by decide +kernel
theorem dX5_has_5 : decode cX5_has 5 = .ok (.aload_n 0, 1) := by decide +kernel
theorem dX5_has_6 : decode cX5_has 6 = .ok (.getfield 22, 3) := by decide +kernel
theorem dX5_has_9 : decode cX5_has 9 = .ok (.if_icmp .ge 7, 3) := by decide +kernel
theorem dX5_has_12 : decode cX5_has 12 = .ok (.iconst 1, 1) := by decide +kernel
theorem dX5_has_13 : decode cX5_has 13 = .ok (.goto 4, 3) := by decide +kernel
theorem dX5_has_16 : decode cX5_has 16 = .ok (.iconst 0, 1) := by decide +kernel
theorem dX5_has_17 : decode cX5_has 17 = .ok (.ireturn, 1) := by decide +kernel
theorem dX5_add_0 : decode cX5_add 0 = .ok (.aload_n 0, 1) := by decide +kernel
theorem dX5_add_1 : decode cX5_add 1 = .ok (.getfield 9, 3) := by decide +kernel
theorem dX5_add_4 : decode cX5_add 4 = .ok (.aload_n 0, 1) := by decide +kernel
theorem dX5_add_5 : decode cX5_add 5 = .ok (.getfield 22, 3) := by decide +kernel
theorem dX5_add_8 : decode cX5_add 8 = .ok (.iload_n 1, 1) := by decide +kernel
theorem dX5_add_9 : decode cX5_add 9 = .ok (.iastore, 1) := by decide +kernel
theorem dX5_add_10 : decode cX5_add 10 = .ok (.aload_n 0, 1) := by decide +kernel
theorem dX5_add_11 : decode cX5_add 11 = .ok (.dup, 1) := by decide +kernel
theorem dX5_add_12 : decode cX5_add 12 = .ok (.getfield 22, 3) := by decide +kernel
theorem dX5_add_15 : decode cX5_add 15 = .ok (.dup_x1, 1) := by decide +kernel
theorem dX5_add_16 : decode cX5_add 16 = .ok (.iconst 1, 1) := by decide +kernel
theorem dX5_add_17 : decode cX5_add 17 = .ok (.iadd, 1) := by decide +kernel
theorem dX5_add_18 : decode cX5_add 18 = .ok (.putfield 22, 3) := by decide +kernel
theorem dX5_add_21 : decode cX5_add 21 = .ok (.ireturn, 1) := by decide +kernel
theorem dX5_darkness_0 : decode cX5_darkness 0 = .ok (.aload_n 0, 1) := by decide +kernel
theorem dX5_darkness_1 : decode cX5_darkness 1 = .ok (.getfield 18, 3) := by decide +kernel
theorem dX5_darkness_4 : decode cX5_darkness 4 = .ok (.aload_n 0, 1) := by decide +kernel
theorem dX5_darkness_5 : decode cX5_darkness 5 = .ok (.getfield 18, 3) := by decide +kernel
theorem dX5_darkness_8 : decode cX5_darkness 8 = .ok (.imul, 1) := by decide +kernel
theorem dX5_darkness_9 : decode cX5_darkness 9 = .ok (.aload_n 0, 1) := by decide +kernel
theorem dX5_darkness_10 : decode cX5_darkness 10 = .ok (.getfield 9, 3) := by decide +kernel
theorem dX5_darkness_13 : decode cX5_darkness 13 = .ok (.iload_n 1, 1) := by decide +kernel
theorem dX5_darkness_14 : decode cX5_darkness 14 = .ok (.iaload, 1) := by decide +kernel
theorem dX5_darkness_15 : decode cX5_darkness 15 = .ok (.aload_n 0, 1) := by decide +kernel
theorem dX5_darkness_16 : decode cX5_darkness 16 = .ok (.getfield 9, 3) := by decide +kernel
theorem dX5_darkness_19 : decode cX5_darkness 19 = .ok (.iload_n 1, 1) := by decide +kernel
theorem dX5_darkness_20 : decode cX5_darkness 20 = .ok (.iaload, 1) := by decide +kernel
theorem dX5_darkness_21 : decode cX5_darkness 21 = .ok (.imul, 1) := by decide +kernel
theorem dX5_darkness_22 : decode cX5_darkness 22 = .ok (.isub, 1) := by decide +kernel
theorem dX5_darkness_23 : decode cX5_darkness 23 = .ok (.istore_n 2, 1) := by decide +kernel
theorem dX5_darkness_24 : decode cX5_darkness 24 = .ok (.aload_n 0, 1) := by decide +kernel
theorem dX5_darkness_25 : decode cX5_darkness 25 = .ok (.getfield 18, 3) := by decide +kernel
theorem dX5_darkness_28 : decode cX5_darkness 28 = .ok (.istore_n 3, 1) := by decide +kernel
theorem dX5_darkness_29 : decode cX5_darkness 29 = .ok (.iload_n 3, 1) := by decide +kernel
theorem dX5_darkness_30 : decode cX5_darkness 30 = .ok (.ifCond .le 20, 3) := by decide +kernel
theorem dX5_darkness_33 : decode cX5_darkness 33 = .ok (.iload_n 3, 1) := by decide +kernel
theorem dX5_darkness_34 : decode cX5_darkness 34 = .ok (.iload_n 3, 1) := by decide +kernel
theorem dX5_darkness_35 : decode cX5_darkness 35 = .ok (.imul, 1) := by decide +kernel
theorem dX5_darkness_36 : decode cX5_darkness 36 = .ok (.iload_n 2, 1) := by decide +kernel
theorem dX5_darkness_37 : decode cX5_darkness 37 = .ok (.if_icmp .gt 7, 3) := by decide +kernel
theorem dX5_darkness_40 : decode cX5_darkness 40 = .ok (.iload_n 3, 1) := by decide +kernel
theorem dX5_darkness_41 : decode cX5_darkness 41 = .ok (.iconst 3, 1) := by decide +kernel
theorem dX5_darkness_42 : decode cX5_darkness 42 = .ok (.imul, 1) := by decide +kernel
theorem dX5_darkness_43 : decode cX5_darkness 43 = .ok (.ireturn, 1) := by decide +kernel
theorem dX5_darkness_44 : decode cX5_darkness 44 = .ok (.iinc 3 (-1), 3) := by decide +kernel
theorem dX5_darkness_47 : decode cX5_darkness 47 = .ok (.goto (-18), 3) := by decide +kernel
theorem dX5_darkness_50 : decode cX5_darkness 50 = .ok (.iconst 0, 1) := by decide +kernel
theorem dX5_darkness_51 : decode cX5_darkness 51 = .ok (.ireturn, 1) := by decide +kernel
theorem dX5_sight_0 : decode cX5_sight 0 = .ok (.aload_n 0, 1) := by decide +kernel
theorem dX5_sight_1 : decode cX5_sight 1 = .ok (.iload_n 1, 1) := by decide +kernel
theorem dX5_sight_2 : decode cX5_sight 2 = .ok (.invokevirtual 25, 3) := by decide +kernel
theorem dX5_sight_5 : decode cX5_sight 5 = .ok (.bipush 100, 2) := by decide +kernel
theorem dX5_sight_7 : decode cX5_sight 7 = .ok (.aload_n 0, 1) := by decide +kernel
theorem dX5_sight_8 : decode cX5_sight 8 = .ok (.getfield 15, 3) := by decide +kernel
theorem dX5_sight_11 : decode cX5_sight 11 = .ok (.iload_n 1, 1) := by decide +kernel
theorem dX5_sight_12 : decode cX5_sight 12 = .ok (.iaload, 1) := by decide +kernel
theorem dX5_sight_13 : decode cX5_sight 13 = .ok (.isub, 1) := by decide +kernel
theorem dX5_sight_14 : decode cX5_sight 14 = .ok (.imul, 1) := by decide +kernel
theorem dX5_sight_15 : decode cX5_sight 15 = .ok (.ireturn, 1) := by decide +kernel
theorem dX6_init_0 : decode cX6_init 0 = .ok (.aload_n 0, 1) := by decide +kernel
theorem dX6_init_1 : decode cX6_init 1 = .ok (.invokespecial 3, 3) := by decide +kernel
theorem dX6_init_4 : decode cX6_init 4 = .ok (.aload_n 0, 1) := by decide +kernel
theorem dX6_init_5 : decode cX6_init 5 = .ok (.new 9, 3) := by decide +kernel
theorem dX6_init_8 : decode cX6_init 8 = .ok (.dup, 1) := by decide +kernel
theorem dX6_init_9 : decode cX6_init 9 = .ok (.invokespecial 11, 3) := by decide +kernel
theorem dX6_init_12 : decode cX6_init 12 = .ok (.putfield 12, 3) := by decide +kernel
theorem dX6_init_15 : decode cX6_init 15 = .ok (.aload_n 0, 1) := by decide +kernel
theorem dX6_init_16 : decode cX6_init 16 = .ok (.bipush 8, 2) := by decide +kernel
theorem dX6_init_18 : decode cX6_init 18 = .ok (.newarray .int, 2) := by decide +kernel
theorem dX6_init_20 : decode cX6_init 20 = .ok (.putfield 18, 3) := by decide +kernel
theorem dX6_init_23 : decode cX6_init 23 = .ok (.aload_n 0, 1) := by decide +kernel
theorem dX6_init_24 : decode cX6_init 24 = .ok (.bipush 8, 2) := by decide +kernel
theorem dX6_init_26 : decode cX6_init 26 = .ok (.newarray .int, 2) := by decide +kernel
theorem dX6_init_28 : decode cX6_init 28 = .ok (.putfield 22, 3) := by decide +kernel
theorem dX6_init_31 : decode cX6_init 31 = .ok (.aload_n 0, 1) := by decide +kernel
theorem dX6_init_32 : decode cX6_init 32 = .ok (.bipush 8, 2) := by decide +kernel
theorem dX6_init_34 : decode cX6_init 34 = .ok (.newarray .int, 2) := by decide +kernel
theorem dX6_init_36 : decode cX6_init 36 = .ok (.putfield 25, 3) := by decide +kernel
theorem dX6_init_39 : decode cX6_init 39 = .ok (.aload_n 0, 1) := by decide +kernel
theorem dX6_init_40 : decode cX6_init 40 = .ok (.bipush 10, 2) := by decide +kernel
theorem dX6_init_42 : decode cX6_init 42 = .ok (.newarray .int, 2) := by decide +kernel
theorem dX6_init_44 : decode cX6_init 44 = .ok (.putfield 28, 3) := by decide +kernel
theorem dX6_init_47 : decode cX6_init 47 = .ok (.aload_n 0, 1) := by decide +kernel
theorem dX6_init_48 : decode cX6_init 48 = .ok (.bipush 10, 2) := by decide +kernel
theorem dX6_init_50 : decode cX6_init 50 = .ok (.newarray .int, 2) := by decide +kernel
theorem dX6_init_52 : decode cX6_init 52 = .ok (.putfield 31, 3) := by decide +kernel
theorem dX6_init_55 : decode cX6_init 55 = .ok (.aload_n 0, 1) := by decide +kernel
theorem dX6_init_56 : decode cX6_init 56 = .ok (.bipush 10, 2) := by decide +kernel
theorem dX6_init_58 : decode cX6_init 58 = .ok (.newarray .int, 2) := by decide +kernel
theorem dX6_init_60 : decode cX6_init 60 = .ok (.putfield 34, 3) := by decide +kernel
theorem dX6_init_63 : decode cX6_init 63 = .ok (.aload_n 0, 1) := by decide +kernel
theorem dX6_init_64 : decode cX6_init 64 = .ok (.bipush 16, 2) := by decide +kernel
theorem dX6_init_66 : decode cX6_init 66 = .ok (.newarray .int, 2) := by decide +kernel
theorem dX6_init_68 : decode cX6_init 68 = .ok (.putfield 37, 3) := by decide +kernel
theorem dX6_init_71 : decode cX6_init 71 = .ok (.aload_n 0, 1) := by decide +kernel
theorem dX6_init_72 : decode cX6_init 72 = .ok (.iconst (-1), 1) := by decide +kernel
theorem dX6_init_73 : decode cX6_init 73 = .ok (.putfield 40, 3) := by decide +kernel
theorem dX6_init_76 : decode cX6_init 76 = .ok (.aload_n 0, 1) := by decide +kernel
theorem dX6_init_77 : decode cX6_init 77 = .ok (.aload_n 1, 1) := by decide +kernel
theorem dX6_init_78 : decode cX6_init 78 = .ok (.putfield 44, 3) := by decide +kernel
theorem dX6_init_81 : decode cX6_init 81 = .ok (.aload_n 0, 1) := by decide +kernel
theorem dX6_init_82 : decode cX6_init 82 = .ok (.aload_n 2, 1) := by decide +kernel
theorem dX6_init_83 : decode cX6_init 83 = .ok (.putfield 48, 3) := by decide +kernel
theorem dX6_init_86 : decode cX6_init 86 = .ok (.aload_n 0, 1) := by decide +kernel
theorem dX6_init_87 : decode cX6_init 87 = .ok (.aload_n 3, 1) := by decide +kernel
theorem dX6_init_88 : decode cX6_init 88 = .ok (.putfield 52, 3) := by decide +kernel
theorem dX6_init_91 : decode cX6_init 91 = .ok (.return_, 1) := by decide +kernel
theorem dX6_isLetGo_0 : decode cX6_isLetGo 0 = .ok (.aload_n 0, 1) := by decide +kernel
theorem dX6_isLetGo_1 : decode cX6_isLetGo 1 = .ok (.getfield 18, 3) := by decide +kernel
theorem dX6_isLetGo_4 : decode cX6_isLetGo 4 = .ok (.iload_n 1, 1) := by decide +kernel
theorem dX6_isLetGo_5 : decode cX6_isLetGo 5 = .ok (.iaload, 1) := by decide +kernel
theorem dX6_isLetGo_6 : decode cX6_isLetGo 6 = .ok (.aload_n 0, 1) := by decide +kernel
theorem dX6_isLetGo_7 : decode cX6_isLetGo 7 = .ok (.getfield 56, 3) := by decide +kernel
theorem dX6_isLetGo_10 : decode cX6_isLetGo 10 = .ok (.if_icmp .ge 7, 3) := by decide +kernel
theorem dX6_isLetGo_13 : decode cX6_isLetGo 13 = .ok (.iconst 1, 1) := by decide +kernel
theorem dX6_isLetGo_14 : decode cX6_isLetGo 14 = .ok (.goto 4, 3) := by decide +kernel
theorem dX6_isLetGo_17 : decode cX6_isLetGo 17 = .ok (.iconst 0, 1) := by decide +kernel
theorem dX6_isLetGo_18 : decode cX6_isLetGo 18 = .ok (.ireturn, 1) := by decide +kernel
theorem dX6_areAllHome_0 : decode cX6_areAllHome 0 = .ok (.aload_n 0, 1) := by decide +kernel
theorem dX6_areAllHome_1 : decode cX6_areAllHome 1 = .ok (.getfield 59, 3) := by decide +kernel
theorem dX6_areAllHome_4 : decode cX6_areAllHome 4 = .ok (.aload_n 0, 1) := by decide +kernel
theorem dX6_areAllHome_5 : decode cX6_areAllHome 5 = .ok (.getfield 52, 3) := by decide +kernel
theorem dX6_areAllHome_8 : decode cX6_areAllHome 8 = .ok (.getfield 62, 3) := by decide +kernel
theorem dX6_areAllHome_11 : decode cX6_areAllHome 11 = .ok (.if_icmp .ne 7, 3) := by decide +kernel
theorem dX6_areAllHome_14 : decode cX6_areAllHome 14 = .ok (.iconst 1, 1) := by decide +kernel
theorem dX6_areAllHome_15 : decode cX6_areAllHome 15 = .ok (.goto 4, 3) := by decide +kernel
theorem dX6_areAllHome_18 : decode cX6_areAllHome 18 = .ok (.iconst 0, 1) := by decide +kernel
theorem dX6_areAllHome_19 : decode cX6_areAllHome 19 = .ok (.ireturn, 1) := by decide +kernel
theorem dX6_lastHourOf_0 : decode cX6_lastHourOf 0 = .ok (.aload_n 0, 1) := by decide +kernel
theorem dX6_lastHourOf_1 : decode cX6_lastHourOf 1 = .ok (.getfield 22, 3) := by decide +kernel
theorem dX6_lastHourOf_4 : decode cX6_lastHourOf 4 = .ok (.iload_n 1, 1) := by decide +kernel
theorem dX6_lastHourOf_5 : decode cX6_lastHourOf 5 = .ok (.iaload, 1) := by decide +kernel
theorem dX6_lastHourOf_6 : decode cX6_lastHourOf 6 = .ok (.aload_n 0, 1) := by decide +kernel
theorem dX6_lastHourOf_7 : decode cX6_lastHourOf 7 = .ok (.getfield 52, 3) := by decide +kernel
theorem dX6_lastHourOf_10 : decode cX6_lastHourOf 10 = .ok (.getfield 67, 3) := by decide +kernel
theorem dX6_lastHourOf_13 : decode cX6_lastHourOf 13 = .ok (.iload_n 1, 1) := by decide +kernel
theorem dX6_lastHourOf_14 : decode cX6_lastHourOf 14 = .ok (.iaload, 1) := by decide +kernel
theorem dX6_lastHourOf_15 : decode cX6_lastHourOf 15 = .ok (.if_icmp .ne 12, 3) := by decide +kernel
theorem dX6_lastHourOf_18 : decode cX6_lastHourOf 18 = .ok (.aload_n 0, 1) := by decide +kernel
theorem dX6_lastHourOf_19 : decode cX6_lastHourOf 19 = .ok (.getfield 25, 3) := by decide +kernel
theorem dX6_lastHourOf_22 : decode cX6_lastHourOf 22 = .ok (.iload_n 1, 1) := by decide +kernel
theorem dX6_lastHourOf_23 : decode cX6_lastHourOf 23 = .ok (.iaload, 1) := by decide +kernel
theorem dX6_lastHourOf_24 : decode cX6_lastHourOf 24 = .ok (.goto 4, 3) := by decide +kernel
theorem dX6_lastHourOf_27 : decode cX6_lastHourOf 27 = .ok (.iconst (-1), 1) := by decide +kernel
theorem dX6_lastHourOf_28 : decode cX6_lastHourOf 28 = .ok (.ireturn, 1) := by decide +kernel
theorem dX6_lastHourOfAll_0 : decode cX6_lastHourOfAll 0 = .ok (.aload_n 0, 1) := by decide +kernel
theorem dX6_lastHourOfAll_1 : decode cX6_lastHourOfAll 1 = .ok (.invokevirtual 70, 3) := by decide +kernel
theorem dX6_lastHourOfAll_4 : decode cX6_lastHourOfAll 4 = .ok (.ifCond .eq 10, 3) := by decide +kernel
theorem dX6_lastHourOfAll_7 : decode cX6_lastHourOfAll 7 = .ok (.aload_n 0, 1) := by decide +kernel
theorem dX6_lastHourOfAll_8 : decode cX6_lastHourOfAll 8 = .ok (.getfield 40, 3) := by decide +kernel
theorem dX6_lastHourOfAll_11 : decode cX6_lastHourOfAll 11 = .ok (.goto 4, 3) := by decide +kernel
theorem dX6_lastHourOfAll_14 : decode cX6_lastHourOfAll 14 = .ok (.iconst (-1), 1) := by decide +kernel
theorem dX6_lastHourOfAll_15 : decode cX6_lastHourOfAll 15 = .ok (.ireturn, 1) := by decide +kernel
theorem dX6_queued_0 : decode cX6_queued 0 = .ok (.aload_n 0, 1) := by decide +kernel
theorem dX6_queued_1 : decode cX6_queued 1 = .ok (.getfield 12, 3) := by decide +kernel
theorem dX6_queued_4 : decode cX6_queued 4 = .ok (.getfield 74, 3) := by decide +kernel
theorem dX6_queued_7 : decode cX6_queued 7 = .ok (.iload_n 1, 1) := by decide +kernel
theorem dX6_queued_8 : decode cX6_queued 8 = .ok (.invokestatic 77, 3) := by decide +kernel
