theorem dX2_init_0 : decode cX2_init 0 = .ok (.aload_n 0, 1) := by decide +kernel
theorem dX2_init_1 : decode cX2_init 1 = .ok (.invokespecial 1, 3) := by decide +kernel
theorem dX2_init_4 : decode cX2_init 4 = .ok (.aload_n 0, 1) := by decide +kernel
theorem dX2_init_5 : decode cX2_init 5 = .ok (.new 7, 3) := by decide +kernel
theorem dX2_init_8 : decode cX2_init 8 = .ok (.dup, 1) := by decide +kernel
theorem dX2_init_9 : decode cX2_init 9 = .ok (.invokespecial 9, 3) := by decide +kernel
theorem dX2_init_12 : decode cX2_init 12 = .ok (.putfield 10, 3) := by decide +kernel
theorem dX2_init_15 : decode cX2_init 15 = .ok (.aload_n 0, 1) := by decide +kernel
theorem dX2_init_16 : decode cX2_init 16 = .ok (.new 16, 3) := by decide +kernel
theorem dX2_init_19 : decode cX2_init 19 = .ok (.dup, 1) := by decide +kernel
theorem dX2_init_20 : decode cX2_init 20 = .ok (.invokespecial 18, 3) := by decide +kernel
theorem dX2_init_23 : decode cX2_init 23 = .ok (.putfield 19, 3) := by decide +kernel
theorem dX2_init_26 : decode cX2_init 26 = .ok (.aload_n 0, 1) := by decide +kernel
theorem dX2_init_27 : decode cX2_init 27 = .ok (.new 16, 3) := by decide +kernel
theorem dX2_init_30 : decode cX2_init 30 = .ok (.dup, 1) := by decide +kernel
theorem dX2_init_31 : decode cX2_init 31 = .ok (.invokespecial 18, 3) := by decide +kernel
theorem dX2_init_34 : decode cX2_init 34 = .ok (.putfield 23, 3) := by decide +kernel
theorem dX2_init_37 : decode cX2_init 37 = .ok (.return_, 1) := by decide +kernel
theorem dX2_addGun_0 : decode cX2_addGun 0 = .ok (.iload_n 1, 1) := by decide +kernel
theorem dX2_addGun_1 : decode cX2_addGun 1 = .ok (.iconst 5, 1) := by decide +kernel
theorem dX2_addGun_2 : decode cX2_addGun 2 = .ok (.if_icmp .lt 9, 3) := by decide +kernel
theorem dX2_addGun_5 : decode cX2_addGun 5 = .ok (.iload_n 1, 1) := by decide +kernel
theorem dX2_addGun_6 : decode cX2_addGun 6 = .ok (.bipush 60, 2) := by decide +kernel
theorem dX2_addGun_8 : decode cX2_addGun 8 = .ok (.if_icmp .le 13, 3) := by decide +kernel
theorem dX2_addGun_11 : decode cX2_addGun 11 = .ok (.new 26, 3) := by decide +kernel
theorem dX2_addGun_14 : decode cX2_addGun 14 = .ok (.dup, 1) := by decide +kernel
theorem dX2_addGun_15 : decode cX2_addGun 15 = .ok (.ldc 28, 2) := by decide +kernel
theorem dX2_addGun_17 : decode cX2_addGun 17 = .ok (.invokespecial 30, 3) := by decide +kernel
theorem dX2_addGun_20 : decode cX2_addGun 20 = .ok (.athrow, 1) := by decide +kernel
theorem dX2_addGun_21 : decode cX2_addGun 21 = .ok (.iload_n 2, 1) := by decide +kernel
theorem dX2_addGun_22 : decode cX2_addGun 22 = .ok (.iconst 1, 1) := by decide +kernel
theorem dX2_addGun_23 : decode cX2_addGun 23 = .ok (.if_icmp .lt 9, 3) := by decide +kernel
theorem dX2_addGun_26 : decode cX2_addGun 26 = .ok (.iload_n 2, 1) := by decide +kernel
theorem dX2_addGun_27 : decode cX2_addGun 27 = .ok (.bipush 9, 2) := by decide +kernel
theorem dX2_addGun_29 : decode cX2_addGun 29 = .ok (.if_icmp .le 13, 3) := by decide +kernel
theorem dX2_addGun_32 : decode cX2_addGun 32 = .ok (.new 26, 3) := by decide +kernel
theorem dX2_addGun_35 : decode cX2_addGun 35 = .ok (.dup, 1) := by decide +kernel
theorem dX2_addGun_36 : decode cX2_addGun 36 = .ok (.ldc 33, 2) := by decide +kernel
theorem dX2_addGun_38 : decode cX2_addGun 38 = .ok (.invokespecial 30, 3) := by decide +kernel
theorem dX2_addGun_41 : decode cX2_addGun 41 = .ok (.athrow, 1) := by decide +kernel
theorem dX2_addGun_42 : decode cX2_addGun 42 = .ok (.aload_n 0, 1) := by decide +kernel
theorem dX2_addGun_43 : decode cX2_addGun 43 = .ok (.getfield 19, 3) := by decide +kernel
theorem dX2_addGun_46 : decode cX2_addGun 46 = .ok (.getfield 35, 3) := by decide +kernel
theorem dX2_addGun_49 : decode cX2_addGun 49 = .ok (.bipush 6, 2) := by decide +kernel
theorem dX2_addGun_51 : decode cX2_addGun 51 = .ok (.if_icmp .lt 13, 3) := by decide +kernel
theorem dX2_addGun_54 : decode cX2_addGun 54 = .ok (.new 39, 3) := by decide +kernel
theorem dX2_addGun_57 : decode cX2_addGun 57 = .ok (.dup, 1) := by decide +kernel
theorem dX2_addGun_58 : decode cX2_addGun 58 = .ok (.ldc 41, 2) := by decide +kernel
theorem dX2_addGun_60 : decode cX2_addGun 60 = .ok (.invokespecial 43, 3) := by decide +kernel
theorem dX2_addGun_63 : decode cX2_addGun 63 = .ok (.athrow, 1) := by decide +kernel
theorem dX2_addGun_64 : decode cX2_addGun 64 = .ok (.aload_n 0, 1) := by decide +kernel
theorem dX2_addGun_65 : decode cX2_addGun 65 = .ok (.getfield 19, 3) := by decide +kernel
theorem dX2_addGun_68 : decode cX2_addGun 68 = .ok (.iload_n 1, 1) := by decide +kernel
theorem dX2_addGun_69 : decode cX2_addGun 69 = .ok (.iload_n 2, 1) := by decide +kernel
theorem dX2_addGun_70 : decode cX2_addGun 70 = .ok (.invokevirtual 44, 3) := by decide +kernel
theorem dX2_addGun_73 : decode cX2_addGun 73 = .ok (.ireturn, 1) := by decide +kernel
theorem dX2_setTrap_0 : decode cX2_setTrap 0 = .ok (.iload_n 1, 1) := by decide +kernel
theorem dX2_setTrap_1 : decode cX2_setTrap 1 = .ok (.invokestatic 48, 3) := by decide +kernel
theorem dX2_setTrap_4 : decode cX2_setTrap 4 = .ok (.iload_n 2, 1) := by decide +kernel
theorem dX2_setTrap_5 : decode cX2_setTrap 5 = .ok (.bipush (-45), 2) := by decide +kernel
theorem dX2_setTrap_7 : decode cX2_setTrap 7 = .ok (.if_icmp .lt 9, 3) := by decide +kernel
theorem dX2_setTrap_10 : decode cX2_setTrap 10 = .ok (.iload_n 2, 1) := by decide +kernel
theorem dX2_setTrap_11 : decode cX2_setTrap 11 = .ok (.bipush 45, 2) := by decide +kernel
theorem dX2_setTrap_13 : decode cX2_setTrap 13 = .ok (.if_icmp .le 13, 3) := by decide +kernel
theorem dX2_setTrap_16 : decode cX2_setTrap 16 = .ok (.new 26, 3) := by decide +kernel
theorem dX2_setTrap_19 : decode cX2_setTrap 19 = .ok (.dup, 1) := by decide +kernel
theorem dX2_setTrap_20 : decode cX2_setTrap 20 = .ok (.ldc 52, 2) := by decide +kernel
theorem dX2_setTrap_22 : decode cX2_setTrap 22 = .ok (.invokespecial 30, 3) := by decide +kernel
theorem dX2_setTrap_25 : decode cX2_setTrap 25 = .ok (.athrow, 1) := by decide +kernel
theorem dX2_setTrap_26 : decode cX2_setTrap 26 = .ok (.iload_n 3, 1) := by decide +kernel
theorem dX2_setTrap_27 : decode cX2_setTrap 27 = .ok (.ifCond .lt 9, 3) := by decide +kernel
theorem dX2_setTrap_30 : decode cX2_setTrap 30 = .ok (.iload_n 3, 1) := by decide +kernel
theorem dX2_setTrap_31 : decode cX2_setTrap 31 = .ok (.bipush 45, 2) := by decide +kernel
theorem dX2_setTrap_33 : decode cX2_setTrap 33 = .ok (.if_icmp .le 13, 3) := by decide +kernel
theorem dX2_setTrap_36 : decode cX2_setTrap 36 = .ok (.new 26, 3) := by decide +kernel
theorem dX2_setTrap_39 : decode cX2_setTrap 39 = .ok (.dup, 1) := by decide +kernel
theorem dX2_setTrap_40 : decode cX2_setTrap 40 = .ok (.ldc 54, 2) := by decide +kernel
theorem dX2_setTrap_42 : decode cX2_setTrap 42 = .ok (.invokespecial 30, 3) := by decide +kernel
theorem dX2_setTrap_45 : decode cX2_setTrap 45 = .ok (.athrow, 1) := by decide +kernel
theorem dX2_setTrap_46 : decode cX2_setTrap 46 = .ok (.aload_n 0, 1) := by decide +kernel
theorem dX2_setTrap_47 : decode cX2_setTrap 47 = .ok (.getfield 10, 3) := by decide +kernel
theorem dX2_setTrap_50 : decode cX2_setTrap 50 = .ok (.getfield 56, 3) := by decide +kernel
theorem dX2_setTrap_53 : decode cX2_setTrap 53 = .ok (.iload_n 1, 1) := by decide +kernel
theorem dX2_setTrap_54 : decode cX2_setTrap 54 = .ok (.iaload, 1) := by decide +kernel
theorem dX2_setTrap_55 : decode cX2_setTrap 55 = .ok (.istore 4, 2) := by decide +kernel
theorem dX2_setTrap_57 : decode cX2_setTrap 57 = .ok (.aload_n 0, 1) := by decide +kernel
theorem dX2_setTrap_58 : decode cX2_setTrap 58 = .ok (.getfield 10, 3) := by decide +kernel
theorem dX2_setTrap_61 : decode cX2_setTrap 61 = .ok (.getfield 56, 3) := by decide +kernel
theorem dX2_setTrap_64 : decode cX2_setTrap 64 = .ok (.iload_n 1, 1) := by decide +kernel
theorem dX2_setTrap_65 : decode cX2_setTrap 65 = .ok (.iload_n 2, 1) := by decide +kernel
theorem dX2_setTrap_66 : decode cX2_setTrap 66 = .ok (.iastore, 1) := by decide +kernel
theorem dX2_setTrap_67 : decode cX2_setTrap 67 = .ok (.aload_n 0, 1) := by decide +kernel
theorem dX2_setTrap_68 : decode cX2_setTrap 68 = .ok (.getfield 10, 3) := by decide +kernel
theorem dX2_setTrap_71 : decode cX2_setTrap 71 = .ok (.getfield 60, 3) := by decide +kernel
theorem dX2_setTrap_74 : decode cX2_setTrap 74 = .ok (.iload_n 1, 1) := by decide +kernel
theorem dX2_setTrap_75 : decode cX2_setTrap 75 = .ok (.iload_n 3, 1) := by decide +kernel
theorem dX2_setTrap_76 : decode cX2_setTrap 76 = .ok (.iastore, 1) := by decide +kernel
theorem dX2_setTrap_77 : decode cX2_setTrap 77 = .ok (.iload 4, 2) := by decide +kernel
theorem dX2_setTrap_79 : decode cX2_setTrap 79 = .ok (.ireturn, 1) := by decide +kernel
theorem dX2_rest_0 : decode cX2_rest 0 = .ok (.aload_n 0, 1) := by decide +kernel
theorem dX2_rest_1 : decode cX2_rest 1 = .ok (.iload_n 1, 1) := by decide +kernel
theorem dX2_rest_2 : decode cX2_rest 2 = .ok (.invokevirtual 63, 3) := by decide +kernel
theorem dX2_rest_5 : decode cX2_rest 5 = .ok (.aload_n 0, 1) := by decide +kernel
theorem dX2_rest_6 : decode cX2_rest 6 = .ok (.getfield 19, 3) := by decide +kernel
theorem dX2_rest_9 : decode cX2_rest 9 = .ok (.getfield 66, 3) := by decide +kernel
theorem dX2_rest_12 : decode cX2_rest 12 = .ok (.iload_n 1, 1) := by decide +kernel
theorem dX2_rest_13 : decode cX2_rest 13 = .ok (.iaload, 1) := by decide +kernel
theorem dX2_rest_14 : decode cX2_rest 14 = .ok (.istore_n 2, 1) := by decide +kernel
theorem dX2_rest_15 : decode cX2_rest 15 = .ok (.aload_n 0, 1) := by decide +kernel
theorem dX2_rest_16 : decode cX2_rest 16 = .ok (.getfield 19, 3) := by decide +kernel
theorem dX2_rest_19 : decode cX2_rest 19 = .ok (.getfield 66, 3) := by decide +kernel
theorem dX2_rest_22 : decode cX2_rest 22 = .ok (.iload_n 1, 1) := by decide +kernel
theorem dX2_rest_23 : decode cX2_rest 23 = .ok (.iconst 0, 1) := by decide +kernel
theorem dX2_rest_24 : decode cX2_rest 24 = .ok (.iastore, 1) := by decide +kernel
theorem dX2_rest_25 : decode cX2_rest 25 = .ok (.iload_n 2, 1) := by decide +kernel
theorem dX2_rest_26 : decode cX2_rest 26 = .ok (.ireturn, 1) := by decide +kernel
theorem dX2_pass_0 : decode cX2_pass 0 = .ok (.iload_n 1, 1) := by decide +kernel
theorem dX2_pass_1 : decode cX2_pass 1 = .ok (.invokestatic 69, 3) := by decide +kernel
theorem dX2_pass_4 : decode cX2_pass 4 = .ok (.aload_n 0, 1) := by decide +kernel
theorem dX2_pass_5 : decode cX2_pass 5 = .ok (.getfield 19, 3) := by decide +kernel
theorem dX2_pass_8 : decode cX2_pass 8 = .ok (.aload_n 0, 1) := by decide +kernel
theorem dX2_pass_9 : decode cX2_pass 9 = .ok (.getfield 10, 3) := by decide +kernel
theorem dX2_pass_12 : decode cX2_pass 12 = .ok (.aload_n 0, 1) := by decide +kernel
theorem dX2_pass_13 : decode cX2_pass 13 = .ok (.getfield 72, 3) := by decide +kernel
theorem dX2_pass_16 : decode cX2_pass 16 = .ok (.iload_n 1, 1) := by decide +kernel
theorem dX2_pass_17 : decode cX2_pass 17 = .ok (.invokevirtual 75, 3) := by decide +kernel
theorem dX2_pass_20 : decode cX2_pass 20 = .ok (.istore_n 2, 1) := by decide +kernel
theorem dX2_pass_21 : decode cX2_pass 21 = .ok (.aload_n 0, 1) := by decide +kernel
theorem dX2_pass_22 : decode cX2_pass 22 = .ok (.dup, 1) := by decide +kernel
theorem dX2_pass_23 : decode cX2_pass 23 = .ok (.getfield 72, 3) := by decide +kernel
theorem dX2_pass_26 : decode cX2_pass 26 = .ok (.iload_n 1, 1) := by decide +kernel
theorem dX2_pass_27 : decode cX2_pass 27 = .ok (.iadd, 1) := by decide +kernel
theorem dX2_pass_28 : decode cX2_pass 28 = .ok (.putfield 72, 3) := by decide +kernel
theorem dX2_pass_31 : decode cX2_pass 31 = .ok (.iload_n 2, 1) := by decide +kernel
theorem dX2_pass_32 : decode cX2_pass 32 = .ok (.ireturn, 1) := by decide +kernel
theorem dX2_shootOff_0 : decode cX2_shootOff 0 = .ok (.aload_n 0, 1) := by decide +kernel
theorem dX2_shootOff_1 : decode cX2_shootOff 1 = .ok (.getfield 19, 3) := by decide +kernel
theorem dX2_shootOff_4 : decode cX2_shootOff 4 = .ok (.getfield 35, 3) := by decide +kernel
theorem dX2_shootOff_7 : decode cX2_shootOff 7 = .ok (.ifCond .ne 13, 3) := by decide +kernel
theorem dX2_shootOff_10 : decode cX2_shootOff 10 = .ok (.new 39, 3) := by decide +kernel
theorem dX2_shootOff_13 : decode cX2_shootOff 13 = .ok (.dup, 1) := by decide +kernel
theorem dX2_shootOff_14 : decode cX2_shootOff 14 = .ok (.ldc 79, 2) := by decide +kernel
theorem dX2_shootOff_16 : decode cX2_shootOff 16 = .ok (.invokespecial 43, 3) := by decide +kernel
theorem dX2_shootOff_19 : decode cX2_shootOff 19 = .ok (.athrow, 1) := by decide +kernel
theorem dX2_shootOff_20 : decode cX2_shootOff 20 = .ok (.aload_n 0, 1) := by decide +kernel
theorem dX2_shootOff_21 : decode cX2_shootOff 21 = .ok (.getfield 19, 3) := by decide +kernel
theorem dX2_shootOff_24 : decode cX2_shootOff 24 = .ok (.invokevirtual 81, 3) := by decide +kernel
theorem dX2_shootOff_27 : decode cX2_shootOff 27 = .ok (.ireturn, 1) := by decide +kernel
theorem dX2_turn_0 : decode cX2_turn 0 = .ok (.aload_n 0, 1) := by decide +kernel
theorem dX2_turn_1 : decode cX2_turn 1 = .ok (.getfield 72, 3) := by decide +kernel
theorem dX2_turn_4 : decode cX2_turn 4 = .ok (.ireturn, 1) := by decide +kernel
theorem dX2_angle_0 : decode cX2_angle 0 = .ok (.iload_n 1, 1) := by decide +kernel
theorem dX2_angle_1 : decode cX2_angle 1 = .ok (.invokestatic 48, 3) := by decide +kernel
theorem dX2_angle_4 : decode cX2_angle 4 = .ok (.iload_n 2, 1) := by decide +kernel
theorem dX2_angle_5 : decode cX2_angle 5 = .ok (.ifCond .lt 8, 3) := by decide +kernel
theorem dX2_angle_8 : decode cX2_angle 8 = .ok (.iload_n 2, 1) := by decide +kernel
theorem dX2_angle_9 : decode cX2_angle 9 = .ok (.iconst 5, 1) := by decide +kernel
theorem dX2_angle_10 : decode cX2_angle 10 = .ok (.if_icmp .lt 13, 3) := by decide +kernel
theorem dX2_angle_13 : decode cX2_angle 13 = .ok (.new 85, 3) := by decide +kernel
theorem dX2_angle_16 : decode cX2_angle 16 = .ok (.dup, 1) := by decide +kernel
theorem dX2_angle_17 : decode cX2_angle 17 = .ok (.ldc 87, 2) := by decide +kernel
theorem dX2_angle_19 : decode cX2_angle 19 = .ok (.invokespecial 89, 3) := by decide +kernel
theorem dX2_angle_22 : decode cX2_angle 22 = .ok (.athrow, 1) := by decide +kernel
theorem dX2_angle_23 : decode cX2_angle 23 = .ok (.aload_n 0, 1) := by decide +kernel
theorem dX2_angle_24 : decode cX2_angle 24 = .ok (.getfield 10, 3) := by decide +kernel
theorem dX2_angle_27 : decode cX2_angle 27 = .ok (.iload_n 1, 1) := by decide +kernel
theorem dX2_angle_28 : decode cX2_angle 28 = .ok (.iload_n 2, 1) := by decide +kernel
theorem dX2_angle_29 : decode cX2_angle 29 = .ok (.invokevirtual 90, 3) := by decide +kernel
theorem dX2_angle_32 : decode cX2_angle 32 = .ok (.ireturn, 1) := by decide +kernel
theorem dX2_hardestClay_0 : decode cX2_hardestClay 0 = .ok (.iload_n 1, 1) := by decide +kernel
theorem dX2_hardestClay_1 : decode cX2_hardestClay 1 = .ok (.invokestatic 48, 3) := by decide +kernel
theorem dX2_hardestClay_4 : decode cX2_hardestClay 4 = .ok (.aload_n 0, 1) := by decide +kernel
theorem dX2_hardestClay_5 : decode cX2_hardestClay 5 = .ok (.getfield 10, 3) := by decide +kernel
theorem dX2_hardestClay_8 : decode cX2_hardestClay 8 = .ok (.iload_n 1, 1) := by decide +kernel
theorem dX2_hardestClay_9 : decode cX2_hardestClay 9 = .ok (.invokevirtual 93, 3) := by decide +kernel
theorem dX2_hardestClay_12 : decode cX2_hardestClay 12 = .ok (.ireturn, 1) := by decide +kernel
theorem dX2_standOf_0 : decode cX2_standOf 0 = .ok (.aload_n 0, 1) := by decide +kernel
theorem dX2_standOf_1 : decode cX2_standOf 1 = .ok (.iload_n 1, 1) := by decide +kernel
theorem dX2_standOf_2 : decode cX2_standOf 2 = .ok (.invokevirtual 63, 3) := by decide +kernel
theorem dX2_standOf_5 : decode cX2_standOf 5 = .ok (.aload_n 0, 1) := by decide +kernel
theorem dX2_standOf_6 : decode cX2_standOf 6 = .ok (.getfield 72, 3) := by decide +kernel
theorem dX2_standOf_9 : decode cX2_standOf 9 = .ok (.iload_n 1, 1) := by decide +kernel
theorem dX2_standOf_10 : decode cX2_standOf 10 = .ok (.invokestatic 97, 3) := by decide +kernel
theorem dX2_standOf_13 : decode cX2_standOf 13 = .ok (.ireturn, 1) := by decide +kernel
theorem dX2_angleFor_0 : decode cX2_angleFor 0 = .ok (.aload_n 0, 1) := by decide +kernel
theorem dX2_angleFor_1 : decode cX2_angleFor 1 = .ok (.iload_n 1, 1) := by decide +kernel
theorem dX2_angleFor_2 : decode cX2_angleFor 2 = .ok (.invokevirtual 63, 3) := by decide +kernel
theorem dX2_angleFor_5 : decode cX2_angleFor 5 = .ok (.aload_n 0, 1) := by decide +kernel
theorem dX2_angleFor_6 : decode cX2_angleFor 6 = .ok (.getfield 10, 3) := by decide +kernel
theorem dX2_angleFor_9 : decode cX2_angleFor 9 = .ok (.aload_n 0, 1) := by decide +kernel
theorem dX2_angleFor_10 : decode cX2_angleFor 10 = .ok (.getfield 72, 3) := by decide +kernel
theorem dX2_angleFor_13 : decode cX2_angleFor 13 = .ok (.iload_n 1, 1) := by decide +kernel
theorem dX2_angleFor_14 : decode cX2_angleFor 14 = .ok (.invokevirtual 100, 3) := by decide +kernel
theorem dX2_angleFor_17 : decode cX2_angleFor 17 = .ok (.ireturn, 1) := by decide +kernel
theorem dX2_guns_0 : decode cX2_guns 0 = .ok (.aload_n 0, 1) := by decide +kernel
theorem dX2_guns_1 : decode cX2_guns 1 = .ok (.getfield 19, 3) := by decide +kernel
theorem dX2_guns_4 : decode cX2_guns 4 = .ok (.getfield 35, 3) := by decide +kernel
theorem dX2_guns_7 : decode cX2_guns 7 = .ok (.ireturn, 1) := by decide +kernel
theorem dX2_scoreOf_0 : decode cX2_scoreOf 0 = .ok (.aload_n 0, 1) := by decide +kernel
theorem dX2_scoreOf_1 : decode cX2_scoreOf 1 = .ok (.iload_n 1, 1) := by decide +kernel
theorem dX2_scoreOf_2 : decode cX2_scoreOf 2 = .ok (.invokevirtual 63, 3) := by decide +kernel
theorem dX2_scoreOf_5 : decode cX2_scoreOf 5 = .ok (.aload_n 0, 1) := by decide +kernel
theorem dX2_scoreOf_6 : decode cX2_scoreOf 6 = .ok (.getfield 19, 3) := by decide +kernel
theorem dX2_scoreOf_9 : decode cX2_scoreOf 9 = .ok (.getfield 103, 3) := by decide +kernel
theorem dX2_scoreOf_12 : decode cX2_scoreOf 12 = .ok (.iload_n 1, 1) := by decide +kernel
theorem dX2_scoreOf_13 : decode cX2_scoreOf 13 = .ok (.iaload, 1) := by decide +kernel
theorem dX2_scoreOf_14 : decode cX2_scoreOf 14 = .ok (.ireturn, 1) := by decide +kernel
theorem dX2_firstsOf_0 : decode cX2_firstsOf 0 = .ok (.aload_n 0, 1) := by decide +kernel
theorem dX2_firstsOf_1 : decode cX2_firstsOf 1 = .ok (.iload_n 1, 1) := by decide +kernel
theorem dX2_firstsOf_2 : decode cX2_firstsOf 2 = .ok (.invokevirtual 63, 3) := by decide +kernel
theorem dX2_firstsOf_5 : decode cX2_firstsOf 5 = .ok (.aload_n 0, 1) := by decide +kernel
theorem dX2_firstsOf_6 : decode cX2_firstsOf 6 = .ok (.getfield 19, 3) := by decide +kernel
theorem dX2_firstsOf_9 : decode cX2_firstsOf 9 = .ok (.getfield 106, 3) := by decide +kernel
theorem dX2_firstsOf_12 : decode cX2_firstsOf 12 = .ok (.iload_n 1, 1) := by decide +kernel
theorem dX2_firstsOf_13 : decode cX2_firstsOf 13 = .ok (.iaload, 1) := by decide +kernel
theorem dX2_firstsOf_14 : decode cX2_firstsOf 14 = .ok (.ireturn, 1) := by decide +kernel
theorem dX2_missesOf_0 : decode cX2_missesOf 0 = .ok (.aload_n 0, 1) := by decide +kernel
theorem dX2_missesOf_1 : decode cX2_missesOf 1 = .ok (.iload_n 1, 1) := by decide +kernel
theorem dX2_missesOf_2 : decode cX2_missesOf 2 = .ok (.invokevirtual 63, 3) := by decide +kernel
theorem dX2_missesOf_5 : decode cX2_missesOf 5 = .ok (.aload_n 0, 1) := by decide +kernel
theorem dX2_missesOf_6 : decode cX2_missesOf 6 = .ok (.getfield 19, 3) := by decide +kernel
theorem dX2_missesOf_9 : decode cX2_missesOf 9 = .ok (.getfield 109, 3) := by decide +kernel
theorem dX2_missesOf_12 : decode cX2_missesOf 12 = .ok (.iload_n 1, 1) := by decide +kernel
theorem dX2_missesOf_13 : decode cX2_missesOf 13 = .ok (.iaload, 1) := by decide +kernel
theorem dX2_missesOf_14 : decode cX2_missesOf 14 = .ok (.ireturn, 1) := by decide +kernel
theorem dX2_fatigueOf_0 : decode cX2_fatigueOf 0 = .ok (.aload_n 0, 1) := by decide +kernel
theorem dX2_fatigueOf_1 : decode cX2_fatigueOf 1 = .ok (.iload_n 1, 1) := by decide +kernel
theorem dX2_fatigueOf_2 : decode cX2_fatigueOf 2 = .ok (.invokevirtual 63, 3) := by decide +kernel
theorem dX2_fatigueOf_5 : decode cX2_fatigueOf 5 = .ok (.aload_n 0, 1) := by decide +kernel
theorem dX2_fatigueOf_6 : decode cX2_fatigueOf 6 = .ok (.getfield 19, 3) := by decide +kernel
theorem dX2_fatigueOf_9 : decode cX2_fatigueOf 9 = .ok (.getfield 66, 3) := by decide +kernel
theorem dX2_fatigueOf_12 : decode cX2_fatigueOf 12 = .ok (.iload_n 1, 1) := by decide +kernel
theorem dX2_fatigueOf_13 : decode cX2_fatigueOf 13 = .ok (.iaload, 1) := by decide +kernel
theorem dX2_fatigueOf_14 : decode cX2_fatigueOf 14 = .ok (.ireturn, 1) := by decide +kernel
theorem dX2_wouldHit_0 : decode cX2_wouldHit 0 = .ok (.aload_n 0, 1) := by decide +kernel
theorem dX2_wouldHit_1 : decode cX2_wouldHit 1 = .ok (.iload_n 1, 1) := by decide +kernel
theorem dX2_wouldHit_2 : decode cX2_wouldHit 2 = .ok (.invokevirtual 63, 3) := by decide +kernel
theorem dX2_wouldHit_5 : decode cX2_wouldHit 5 = .ok (.aload_n 0, 1) := by decide +kernel
theorem dX2_wouldHit_6 : decode cX2_wouldHit 6 = .ok (.getfield 19, 3) := by decide +kernel
theorem dX2_wouldHit_9 : decode cX2_wouldHit 9 = .ok (.iload_n 1, 1) := by decide +kernel
theorem dX2_wouldHit_10 : decode cX2_wouldHit 10 = .ok (.aload_n 0, 1) := by decide +kernel
theorem dX2_wouldHit_11 : decode cX2_wouldHit 11 = .ok (.getfield 10, 3) := by decide +kernel
theorem dX2_wouldHit_14 : decode cX2_wouldHit 14 = .ok (.aload_n 0, 1) := by decide +kernel
theorem dX2_wouldHit_15 : decode cX2_wouldHit 15 = .ok (.getfield 72, 3) := by decide +kernel
theorem dX2_wouldHit_18 : decode cX2_wouldHit 18 = .ok (.iload_n 1, 1) := by decide +kernel
theorem dX2_wouldHit_19 : decode cX2_wouldHit 19 = .ok (.invokevirtual 112, 3) := by decide +kernel
theorem dX2_wouldHit_22 : decode cX2_wouldHit 22 = .ok (.invokevirtual 115, 3) := by decide +kernel
theorem dX2_wouldHit_25 : decode cX2_wouldHit 25 = .ok (.ireturn, 1) := by decide +kernel
theorem dX2_leader_0 : decode cX2_leader 0 = .ok (.aload_n 0, 1) := by decide +kernel
theorem dX2_leader_1 : decode cX2_leader 1 = .ok (.getfield 19, 3) := by decide +kernel
theorem dX2_leader_4 : decode cX2_leader 4 = .ok (.invokevirtual 118, 3) := by decide +kernel
theorem dX2_leader_7 : decode cX2_leader 7 = .ok (.ireturn, 1) := by decide +kernel
theorem dX2_tied_0 : decode cX2_tied 0 = .ok (.aload_n 0, 1) := by decide +kernel
theorem dX2_tied_1 : decode cX2_tied 1 = .ok (.getfield 19, 3) := by decide +kernel
theorem dX2_tied_4 : decode cX2_tied 4 = .ok (.invokevirtual 121, 3) := by decide +kernel
theorem dX2_tied_7 : decode cX2_tied 7 = .ok (.ireturn, 1) := by decide +kernel
theorem dX2_rankOf_0 : decode cX2_rankOf 0 = .ok (.aload_n 0, 1) := by decide +kernel
theorem dX2_rankOf_1 : decode cX2_rankOf 1 = .ok (.iload_n 1, 1) := by decide +kernel
theorem dX2_rankOf_2 : decode cX2_rankOf 2 = .ok (.invokevirtual 63, 3) := by decide +kernel
theorem dX2_rankOf_5 : decode cX2_rankOf 5 = .ok (.iconst 1, 1) := by decide +kernel
theorem dX2_rankOf_6 : decode cX2_rankOf 6 = .ok (.aload_n 0, 1) := by decide +kernel
theorem dX2_rankOf_7 : decode cX2_rankOf 7 = .ok (.getfield 19, 3) := by decide +kernel
theorem dX2_rankOf_10 : decode cX2_rankOf 10 = .ok (.aload_n 0, 1) := by decide +kernel
theorem dX2_rankOf_11 : decode cX2_rankOf 11 = .ok (.getfield 19, 3) := by decide +kernel
theorem dX2_rankOf_14 : decode cX2_rankOf 14 = .ok (.getfield 103, 3) := by decide +kernel
theorem dX2_rankOf_17 : decode cX2_rankOf 17 = .ok (.iload_n 1, 1) := by decide +kernel
theorem dX2_rankOf_18 : decode cX2_rankOf 18 = .ok (.iaload, 1) := by decide +kernel
theorem dX2_rankOf_19 : decode cX2_rankOf 19 = .ok (.invokevirtual 124, 3) := by decide +kernel
theorem dX2_rankOf_22 : decode cX2_rankOf 22 = .ok (.iadd, 1) := by decide +kernel
theorem dX2_rankOf_23 : decode cX2_rankOf 23 = .ok (.ireturn, 1) := by decide +kernel
theorem dX2_scoreIn_0 : decode cX2_scoreIn 0 = .ok (.aload_n 0, 1) := by decide +kernel
theorem dX2_scoreIn_1 : decode cX2_scoreIn 1 = .ok (.iload_n 1, 1) := by decide +kernel
theorem dX2_scoreIn_2 : decode cX2_scoreIn 2 = .ok (.invokevirtual 63, 3) := by decide +kernel
theorem dX2_scoreIn_5 : decode cX2_scoreIn 5 = .ok (.iload_n 2, 1) := by decide +kernel
theorem dX2_scoreIn_6 : decode cX2_scoreIn 6 = .ok (.invokestatic 69, 3) := by decide +kernel
theorem dX2_scoreIn_9 : decode cX2_scoreIn 9 = .ok (.aload_n 0, 1) := by decide +kernel
theorem dX2_scoreIn_10 : decode cX2_scoreIn 10 = .ok (.getfield 23, 3) := by decide +kernel
theorem dX2_scoreIn_13 : decode cX2_scoreIn 13 = .ok (.aload_n 0, 1) := by decide +kernel
theorem dX2_scoreIn_14 : decode cX2_scoreIn 14 = .ok (.getfield 19, 3) := by decide +kernel
theorem dX2_scoreIn_17 : decode cX2_scoreIn 17 = .ok (.invokevirtual 127, 3) := by decide +kernel
theorem dX2_scoreIn_20 : decode cX2_scoreIn 20 = .ok (.aload_n 0, 1) := by decide +kernel
theorem dX2_scoreIn_21 : decode cX2_scoreIn 21 = .ok (.getfield 23, 3) := by decide +kernel
theorem dX2_scoreIn_24 : decode cX2_scoreIn 24 = .ok (.aload_n 0, 1) := by decide +kernel
theorem dX2_scoreIn_25 : decode cX2_scoreIn 25 = .ok (.getfield 10, 3) := by decide +kernel
theorem dX2_scoreIn_28 : decode cX2_scoreIn 28 = .ok (.iload_n 1, 1) := by decide +kernel
theorem dX2_scoreIn_29 : decode cX2_scoreIn 29 = .ok (.aload_n 0, 1) := by decide +kernel
theorem dX2_scoreIn_30 : decode cX2_scoreIn 30 = .ok (.getfield 72, 3) := by decide +kernel
theorem dX2_scoreIn_33 : decode cX2_scoreIn 33 = .ok (.iload_n 2, 1) := by decide +kernel
theorem dX2_scoreIn_34 : decode cX2_scoreIn 34 = .ok (.invokevirtual 131, 3) := by decide +kernel
theorem dX2_scoreIn_37 : decode cX2_scoreIn 37 = .ok (.aload_n 0, 1) := by decide +kernel
theorem dX2_scoreIn_38 : decode cX2_scoreIn 38 = .ok (.getfield 23, 3) := by decide +kernel
theorem dX2_scoreIn_41 : decode cX2_scoreIn 41 = .ok (.getfield 103, 3) := by decide +kernel
theorem dX2_scoreIn_44 : decode cX2_scoreIn 44 = .ok (.iload_n 1, 1) := by decide +kernel
theorem dX2_scoreIn_45 : decode cX2_scoreIn 45 = .ok (.iaload, 1) := by decide +kernel
theorem dX2_scoreIn_46 : decode cX2_scoreIn 46 = .ok (.ireturn, 1) := by decide +kernel
theorem dX2_turnsUntilMiss_0 : decode cX2_turnsUntilMiss 0 = .ok (.aload_n 0, 1) := by decide +kernel
theorem dX2_turnsUntilMiss_1 : decode cX2_turnsUntilMiss 1 = .ok (.iload_n 1, 1) := by decide +kernel
theorem dX2_turnsUntilMiss_2 : decode cX2_turnsUntilMiss 2 = .ok (.invokevirtual 63, 3) := by decide +kernel
theorem dX2_turnsUntilMiss_5 : decode cX2_turnsUntilMiss 5 = .ok (.iconst 0, 1) := by decide +kernel
theorem dX2_turnsUntilMiss_6 : decode cX2_turnsUntilMiss 6 = .ok (.istore_n 2, 1) := by decide +kernel
theorem dX2_turnsUntilMiss_7 : decode cX2_turnsUntilMiss 7 = .ok (.iload_n 2, 1) := by decide +kernel
theorem dX2_turnsUntilMiss_8 : decode cX2_turnsUntilMiss 8 = .ok (.bipush 100, 2) := by decide +kernel
theorem dX2_turnsUntilMiss_10 : decode cX2_turnsUntilMiss 10 = .ok (.if_icmp .ge 39, 3) := by decide +kernel
theorem dX2_turnsUntilMiss_13 : decode cX2_turnsUntilMiss 13 = .ok (.aload_n 0, 1) := by decide +kernel
theorem dX2_turnsUntilMiss_14 : decode cX2_turnsUntilMiss 14 = .ok (.getfield 10, 3) := by decide +kernel
theorem dX2_turnsUntilMiss_17 : decode cX2_turnsUntilMiss 17 = .ok (.aload_n 0, 1) := by decide +kernel
theorem dX2_turnsUntilMiss_18 : decode cX2_turnsUntilMiss 18 = .ok (.getfield 72, 3) := by decide +kernel
theorem dX2_turnsUntilMiss_21 : decode cX2_turnsUntilMiss 21 = .ok (.iload_n 2, 1) := by decide +kernel
theorem dX2_turnsUntilMiss_22 : decode cX2_turnsUntilMiss 22 = .ok (.iadd, 1) := by decide +kernel
theorem dX2_turnsUntilMiss_23 : decode cX2_turnsUntilMiss 23 = .ok (.iload_n 1, 1) := by decide +kernel
theorem dX2_turnsUntilMiss_24 : decode cX2_turnsUntilMiss 24 = .ok (.invokevirtual 112, 3) := by decide +kernel
theorem dX2_turnsUntilMiss_27 : decode cX2_turnsUntilMiss 27 = .ok (.aload_n 0, 1) := by decide +kernel
theorem dX2_turnsUntilMiss_28 : decode cX2_turnsUntilMiss 28 = .ok (.getfield 19, 3) := by decide +kernel
theorem dX2_turnsUntilMiss_31 : decode cX2_turnsUntilMiss 31 = .ok (.getfield 135, 3) := by decide +kernel
theorem dX2_turnsUntilMiss_34 : decode cX2_turnsUntilMiss 34 = .ok (.iload_n 1, 1) := by decide +kernel
theorem dX2_turnsUntilMiss_35 : decode cX2_turnsUntilMiss 35 = .ok (.iaload, 1) := by decide +kernel
theorem dX2_turnsUntilMiss_36 : decode cX2_turnsUntilMiss 36 = .ok (.if_icmp .le 7, 3) := by decide +kernel
theorem dX2_turnsUntilMiss_39 : decode cX2_turnsUntilMiss 39 = .ok (.iload_n 2, 1) := by decide +kernel
theorem dX2_turnsUntilMiss_40 : decode cX2_turnsUntilMiss 40 = .ok (.iconst 1, 1) := by decide +kernel
theorem dX2_turnsUntilMiss_41 : decode cX2_turnsUntilMiss 41 = .ok (.iadd, 1) := by decide +kernel
theorem dX2_turnsUntilMiss_42 : decode cX2_turnsUntilMiss 42 = .ok (.ireturn, 1) := by decide +kernel
theorem dX2_turnsUntilMiss_43 : decode cX2_turnsUntilMiss 43 = .ok (.iinc 2 1, 3) := by decide +kernel
theorem dX2_turnsUntilMiss_46 : decode cX2_turnsUntilMiss 46 = .ok (.goto (-39), 3) := by decide +kernel
theorem dX2_turnsUntilMiss_49 : decode cX2_turnsUntilMiss 49 = .ok (.iconst (-1), 1) := by decide +kernel
theorem dX2_turnsUntilMiss_50 : decode cX2_turnsUntilMiss 50 = .ok (.ireturn, 1) := by decide +kernel
theorem dX2_leaderIn_0 : decode cX2_leaderIn 0 = .ok (.iload_n 1, 1) := by decide +kernel
theorem dX2_leaderIn_1 : decode cX2_leaderIn 1 = .ok (.invokestatic 69, 3) := by decide +kernel
theorem dX2_leaderIn_4 : decode cX2_leaderIn 4 = .ok (.aload_n 0, 1) := by decide +kernel
theorem dX2_leaderIn_5 : decode cX2_leaderIn 5 = .ok (.getfield 23, 3) := by decide +kernel
theorem dX2_leaderIn_8 : decode cX2_leaderIn 8 = .ok (.aload_n 0, 1) := by decide +kernel
theorem dX2_leaderIn_9 : decode cX2_leaderIn 9 = .ok (.getfield 19, 3) := by decide +kernel
theorem dX2_leaderIn_12 : decode cX2_leaderIn 12 = .ok (.invokevirtual 127, 3) := by decide +kernel
theorem dX2_leaderIn_15 : decode cX2_leaderIn 15 = .ok (.aload_n 0, 1) := by decide +kernel
theorem dX2_leaderIn_16 : decode cX2_leaderIn 16 = .ok (.getfield 23, 3) := by decide +kernel
theorem dX2_leaderIn_19 : decode cX2_leaderIn 19 = .ok (.aload_n 0, 1) := by decide +kernel
theorem dX2_leaderIn_20 : decode cX2_leaderIn 20 = .ok (.getfield 10, 3) := by decide +kernel
theorem dX2_leaderIn_23 : decode cX2_leaderIn 23 = .ok (.aload_n 0, 1) := by decide +kernel
theorem dX2_leaderIn_24 : decode cX2_leaderIn 24 = .ok (.getfield 72, 3) := by decide +kernel
theorem dX2_leaderIn_27 : decode cX2_leaderIn 27 = .ok (.iload_n 1, 1) := by decide +kernel
theorem dX2_leaderIn_28 : decode cX2_leaderIn 28 = .ok (.invokevirtual 75, 3) := by decide +kernel
theorem dX2_leaderIn_31 : decode cX2_leaderIn 31 = .ok (.pop, 1) := by decide +kernel
theorem dX2_leaderIn_32 : decode cX2_leaderIn 32 = .ok (.aload_n 0, 1) := by decide +kernel
theorem dX2_leaderIn_33 : decode cX2_leaderIn 33 = .ok (.getfield 23, 3) := by decide +kernel
theorem dX2_leaderIn_36 : decode cX2_leaderIn 36 = .ok (.invokevirtual 118, 3) := by decide +kernel
theorem dX2_leaderIn_39 : decode cX2_leaderIn 39 = .ok (.ireturn, 1) := by decide +kernel
theorem dX2_wouldWin_0 : decode cX2_wouldWin 0 = .ok (.aload_n 0, 1) := by decide +kernel
theorem dX2_wouldWin_1 : decode cX2_wouldWin 1 = .ok (.getfield 23, 3) := by decide +kernel
theorem dX2_wouldWin_4 : decode cX2_wouldWin 4 = .ok (.aload_n 0, 1) := by decide +kernel
theorem dX2_wouldWin_5 : decode cX2_wouldWin 5 = .ok (.getfield 19, 3) := by decide +kernel
theorem dX2_wouldWin_8 : decode cX2_wouldWin 8 = .ok (.invokevirtual 127, 3) := by decide +kernel
theorem dX2_wouldWin_11 : decode cX2_wouldWin 11 = .ok (.aload_n 0, 1) := by decide +kernel
theorem dX2_wouldWin_12 : decode cX2_wouldWin 12 = .ok (.getfield 23, 3) := by decide +kernel
theorem dX2_wouldWin_15 : decode cX2_wouldWin 15 = .ok (.invokevirtual 81, 3) := by decide +kernel
theorem dX2_wouldWin_18 : decode cX2_wouldWin 18 = .ok (.ireturn, 1) := by decide +kernel
theorem dX2_bestRest_0 : decode cX2_bestRest 0 = .ok (.aload_n 0, 1) := by decide +kernel
theorem dX2_bestRest_1 : decode cX2_bestRest 1 = .ok (.iload_n 1, 1) := by decide +kernel
theorem dX2_bestRest_2 : decode cX2_bestRest 2 = .ok (.invokevirtual 63, 3) := by decide +kernel
theorem dX2_bestRest_5 : decode cX2_bestRest 5 = .ok (.iconst 0, 1) := by decide +kernel
theorem dX2_bestRest_6 : decode cX2_bestRest 6 = .ok (.istore_n 2, 1) := by decide +kernel
theorem dX2_bestRest_7 : decode cX2_bestRest 7 = .ok (.aload_n 0, 1) := by decide +kernel
theorem dX2_bestRest_8 : decode cX2_bestRest 8 = .ok (.iload_n 1, 1) := by decide +kernel
theorem dX2_bestRest_9 : decode cX2_bestRest 9 = .ok (.iconst 0, 1) := by decide +kernel
theorem dX2_bestRest_10 : decode cX2_bestRest 10 = .ok (.invokevirtual 138, 3) := by decide +kernel
theorem dX2_bestRest_13 : decode cX2_bestRest 13 = .ok (.istore_n 3, 1) := by decide +kernel
theorem dX2_bestRest_14 : decode cX2_bestRest 14 = .ok (.iconst 1, 1) := by decide +kernel
theorem dX2_bestRest_15 : decode cX2_bestRest 15 = .ok (.istore 4, 2) := by decide +kernel
theorem dX2_bestRest_17 : decode cX2_bestRest 17 = .ok (.iload 4, 2) := by decide +kernel
theorem dX2_bestRest_19 : decode cX2_bestRest 19 = .ok (.bipush 20, 2) := by decide +kernel
theorem dX2_bestRest_21 : decode cX2_bestRest 21 = .ok (.if_icmp .gt 30, 3) := by decide +kernel
theorem dX2_bestRest_24 : decode cX2_bestRest 24 = .ok (.aload_n 0, 1) := by decide +kernel
theorem dX2_bestRest_25 : decode cX2_bestRest 25 = .ok (.iload_n 1, 1) := by decide +kernel
theorem dX2_bestRest_26 : decode cX2_bestRest 26 = .ok (.iload 4, 2) := by decide +kernel
theorem dX2_bestRest_28 : decode cX2_bestRest 28 = .ok (.invokevirtual 138, 3) := by decide +kernel
theorem dX2_bestRest_31 : decode cX2_bestRest 31 = .ok (.istore 5, 2) := by decide +kernel
theorem dX2_bestRest_33 : decode cX2_bestRest 33 = .ok (.iload 5, 2) := by decide +kernel
theorem dX2_bestRest_35 : decode cX2_bestRest 35 = .ok (.iload_n 3, 1) := by decide +kernel
theorem dX2_bestRest_36 : decode cX2_bestRest 36 = .ok (.if_icmp .le 9, 3) := by decide +kernel
theorem dX2_bestRest_39 : decode cX2_bestRest 39 = .ok (.iload 4, 2) := by decide +kernel
theorem dX2_bestRest_41 : decode cX2_bestRest 41 = .ok (.istore_n 2, 1) := by decide +kernel
theorem dX2_bestRest_42 : decode cX2_bestRest 42 = .ok (.iload 5, 2) := by decide +kernel
theorem dX2_bestRest_44 : decode cX2_bestRest 44 = .ok (.istore_n 3, 1) := by decide +kernel
theorem dX2_bestRest_45 : decode cX2_bestRest 45 = .ok (.iinc 4 1, 3) := by decide +kernel
theorem dX2_bestRest_48 : decode cX2_bestRest 48 = .ok (.goto (-31), 3) := by decide +kernel
theorem dX2_bestRest_51 : decode cX2_bestRest 51 = .ok (.iload_n 2, 1) := by decide +kernel
theorem dX2_bestRest_52 : decode cX2_bestRest 52 = .ok (.ireturn, 1) := by decide +kernel
theorem dX2_swingWanted_0 : decode cX2_swingWanted 0 = .ok (.aload_n 0, 1) := by decide +kernel
theorem dX2_swingWanted_1 : decode cX2_swingWanted 1 = .ok (.iload_n 1, 1) := by decide +kernel
theorem dX2_swingWanted_2 : decode cX2_swingWanted 2 = .ok (.invokevirtual 63, 3) := by decide +kernel
theorem dX2_swingWanted_5 : decode cX2_swingWanted 5 = .ok (.iconst 5, 1) := by decide +kernel
theorem dX2_swingWanted_6 : decode cX2_swingWanted 6 = .ok (.aload_n 0, 1) := by decide +kernel
theorem dX2_swingWanted_7 : decode cX2_swingWanted 7 = .ok (.getfield 10, 3) := by decide +kernel
theorem dX2_swingWanted_10 : decode cX2_swingWanted 10 = .ok (.invokevirtual 141, 3) := by decide +kernel
theorem dX2_swingWanted_13 : decode cX2_swingWanted 13 = .ok (.invokestatic 144, 3) := by decide +kernel
theorem dX2_swingWanted_16 : decode cX2_swingWanted 16 = .ok (.istore_n 2, 1) := by decide +kernel
theorem dX2_swingWanted_17 : decode cX2_swingWanted 17 = .ok (.iload_n 2, 1) := by decide +kernel
theorem dX2_swingWanted_18 : decode cX2_swingWanted 18 = .ok (.bipush 60, 2) := by decide +kernel
theorem dX2_swingWanted_20 : decode cX2_swingWanted 20 = .ok (.if_icmp .le 7, 3) := by decide +kernel
theorem dX2_swingWanted_23 : decode cX2_swingWanted 23 = .ok (.iconst (-1), 1) := by decide +kernel
theorem dX2_swingWanted_24 : decode cX2_swingWanted 24 = .ok (.goto 4, 3) := by decide +kernel
theorem dX2_swingWanted_27 : decode cX2_swingWanted 27 = .ok (.iload_n 2, 1) := by decide +kernel
theorem dX2_swingWanted_28 : decode cX2_swingWanted 28 = .ok (.ireturn, 1) := by decide +kernel
theorem dX2_meanScore_0 : decode cX2_meanScore 0 = .ok (.aload_n 0, 1) := by decide +kernel
theorem dX2_meanScore_1 : decode cX2_meanScore 1 = .ok (.getfield 19, 3) := by decide +kernel
theorem dX2_meanScore_4 : decode cX2_meanScore 4 = .ok (.getfield 35, 3) := by decide +kernel
theorem dX2_meanScore_7 : decode cX2_meanScore 7 = .ok (.ifCond .ne 5, 3) := by decide +kernel
theorem dX2_meanScore_10 : decode cX2_meanScore 10 = .ok (.dconst 0, 1) := by decide +kernel
theorem dX2_meanScore_11 : decode cX2_meanScore 11 = .ok (.dreturn, 1) := by decide +kernel
theorem dX2_meanScore_12 : decode cX2_meanScore 12 = .ok (.aload_n 0, 1) := by decide +kernel
theorem dX2_meanScore_13 : decode cX2_meanScore 13 = .ok (.getfield 19, 3) := by decide +kernel
theorem dX2_meanScore_16 : decode cX2_meanScore 16 = .ok (.invokevirtual 149, 3) := by decide +kernel
theorem dX2_meanScore_19 : decode cX2_meanScore 19 = .ok (.i2d, 1) := by decide +kernel
theorem dX2_meanScore_20 : decode cX2_meanScore 20 = .ok (.aload_n 0, 1) := by decide +kernel
theorem dX2_meanScore_21 : decode cX2_meanScore 21 = .ok (.getfield 19, 3) := by decide +kernel
theorem dX2_meanScore_24 : decode cX2_meanScore 24 = .ok (.getfield 35, 3) := by decide +kernel
theorem dX2_meanScore_27 : decode cX2_meanScore 27 = .ok (.i2d, 1) := by decide +kernel
theorem dX2_meanScore_28 : decode cX2_meanScore 28 = .ok (.ddiv, 1) := by decide +kernel
theorem dX2_meanScore_29 : decode cX2_meanScore 29 = .ok (.dreturn, 1) := by decide +kernel
theorem dX2_digest_0 : decode cX2_digest 0 = .ok (.ldc2_w 152, 3) := by decide +kernel
theorem dX2_digest_3 : decode cX2_digest 3 = .ok (.lstore_n 1, 1) := by decide +kernel
theorem dX2_digest_4 : decode cX2_digest 4 = .ok (.lload_n 1, 1) := by decide +kernel
theorem dX2_digest_5 : decode cX2_digest 5 = .ok (.aload_n 0, 1) := by decide +kernel
theorem dX2_digest_6 : decode cX2_digest 6 = .ok (.invokevirtual 154, 3) := by decide +kernel
theorem dX2_digest_9 : decode cX2_digest 9 = .ok (.i2l, 1) := by decide +kernel
theorem dX2_digest_10 : decode cX2_digest 10 = .ok (.invokestatic 156, 3) := by decide +kernel
theorem dX2_digest_13 : decode cX2_digest 13 = .ok (.lstore_n 1, 1) := by decide +kernel
theorem dX2_digest_14 : decode cX2_digest 14 = .ok (.lload_n 1, 1) := by decide +kernel
theorem dX2_digest_15 : decode cX2_digest 15 = .ok (.aload_n 0, 1) := by decide +kernel
theorem dX2_digest_16 : decode cX2_digest 16 = .ok (.invokevirtual 160, 3) := by decide +kernel
theorem dX2_digest_19 : decode cX2_digest 19 = .ok (.i2l, 1) := by decide +kernel
theorem dX2_digest_20 : decode cX2_digest 20 = .ok (.invokestatic 156, 3) := by decide +kernel
theorem dX2_digest_23 : decode cX2_digest 23 = .ok (.lstore_n 1, 1) := by decide +kernel
theorem dX2_digest_24 : decode cX2_digest 24 = .ok (.lload_n 1, 1) := by decide +kernel
theorem dX2_digest_25 : decode cX2_digest 25 = .ok (.aload_n 0, 1) := by decide +kernel
theorem dX2_digest_26 : decode cX2_digest 26 = .ok (.invokevirtual 163, 3) := by decide +kernel
theorem dX2_digest_29 : decode cX2_digest 29 = .ok (.i2l, 1) := by decide +kernel
theorem dX2_digest_30 : decode cX2_digest 30 = .ok (.invokestatic 156, 3) := by decide +kernel
theorem dX2_digest_33 : decode cX2_digest 33 = .ok (.lstore_n 1, 1) := by decide +kernel
theorem dX2_digest_34 : decode cX2_digest 34 = .ok (.lload_n 1, 1) := by decide +kernel
theorem dX2_digest_35 : decode cX2_digest 35 = .ok (.aload_n 0, 1) := by decide +kernel
theorem dX2_digest_36 : decode cX2_digest 36 = .ok (.invokevirtual 166, 3) := by decide +kernel
theorem dX2_digest_39 : decode cX2_digest 39 = .ok (.i2l, 1) := by decide +kernel
theorem dX2_digest_40 : decode cX2_digest 40 = .ok (.invokestatic 156, 3) := by decide +kernel
theorem dX2_digest_43 : decode cX2_digest 43 = .ok (.lstore_n 1, 1) := by decide +kernel
theorem dX2_digest_44 : decode cX2_digest 44 = .ok (.lload_n 1, 1) := by decide +kernel
theorem dX2_digest_45 : decode cX2_digest 45 = .ok (.aload_n 0, 1) := by decide +kernel
theorem dX2_digest_46 : decode cX2_digest 46 = .ok (.invokevirtual 169, 3) := by decide +kernel
theorem dX2_digest_49 : decode cX2_digest 49 = .ok (.i2l, 1) := by decide +kernel
theorem dX2_digest_50 : decode cX2_digest 50 = .ok (.invokestatic 156, 3) := by decide +kernel
theorem dX2_digest_53 : decode cX2_digest 53 = .ok (.lstore_n 1, 1) := by decide +kernel
theorem dX2_digest_54 : decode cX2_digest 54 = .ok (.lload_n 1, 1) := by decide +kernel
theorem dX2_digest_55 : decode cX2_digest 55 = .ok (.aload_n 0, 1) := by decide +kernel
theorem dX2_digest_56 : decode cX2_digest 56 = .ok (.bipush 25, 2) := by decide +kernel
theorem dX2_digest_58 : decode cX2_digest 58 = .ok (.invokevirtual 172, 3) := by decide +kernel
theorem dX2_digest_61 : decode cX2_digest 61 = .ok (.i2l, 1) := by decide +kernel
theorem dX2_digest_62 : decode cX2_digest 62 = .ok (.invokestatic 156, 3) := by decide +kernel
theorem dX2_digest_65 : decode cX2_digest 65 = .ok (.lstore_n 1, 1) := by decide +kernel
theorem dX2_digest_66 : decode cX2_digest 66 = .ok (.iconst 0, 1) := by decide +kernel
theorem dX2_digest_67 : decode cX2_digest 67 = .ok (.istore_n 3, 1) := by decide +kernel
theorem dX2_digest_68 : decode cX2_digest 68 = .ok (.iload_n 3, 1) := by decide +kernel
theorem dX2_digest_69 : decode cX2_digest 69 = .ok (.iconst 5, 1) := by decide +kernel
theorem dX2_digest_70 : decode cX2_digest 70 = .ok (.if_icmp .ge 48, 3) := by decide +kernel
theorem dX2_digest_73 : decode cX2_digest 73 = .ok (.iconst 0, 1) := by decide +kernel
theorem dX2_digest_74 : decode cX2_digest 74 = .ok (.istore 4, 2) := by decide +kernel
theorem dX2_digest_76 : decode cX2_digest 76 = .ok (.iload 4, 2) := by decide +kernel
theorem dX2_digest_78 : decode cX2_digest 78 = .ok (.iconst 5, 1) := by decide +kernel
theorem dX2_digest_79 : decode cX2_digest 79 = .ok (.if_icmp .ge 22, 3) := by decide +kernel
theorem dX2_digest_82 : decode cX2_digest 82 = .ok (.lload_n 1, 1) := by decide +kernel
theorem dX2_digest_83 : decode cX2_digest 83 = .ok (.aload_n 0, 1) := by decide +kernel
theorem dX2_digest_84 : decode cX2_digest 84 = .ok (.iload_n 3, 1) := by decide +kernel
theorem dX2_digest_85 : decode cX2_digest 85 = .ok (.iload 4, 2) := by decide +kernel
theorem dX2_digest_87 : decode cX2_digest 87 = .ok (.invokevirtual 175, 3) := by decide +kernel
theorem dX2_digest_90 : decode cX2_digest 90 = .ok (.i2l, 1) := by decide +kernel
theorem dX2_digest_91 : decode cX2_digest 91 = .ok (.invokestatic 156, 3) := by decide +kernel
theorem dX2_digest_94 : decode cX2_digest 94 = .ok (.lstore_n 1, 1) := by decide +kernel
theorem dX2_digest_95 : decode cX2_digest 95 = .ok (.iinc 4 1, 3) := by decide +kernel
theorem dX2_digest_98 : decode cX2_digest 98 = .ok (.goto (-22), 3) := by decide +kernel
theorem dX2_digest_101 : decode cX2_digest 101 = .ok (.lload_n 1, 1) := by decide +kernel
theorem dX2_digest_102 : decode cX2_digest 102 = .ok (.aload_n 0, 1) := by decide +kernel
theorem dX2_digest_103 : decode cX2_digest 103 = .ok (.iload_n 3, 1) := by decide +kernel
theorem dX2_digest_104 : decode cX2_digest 104 = .ok (.invokevirtual 178, 3) := by decide +kernel
theorem dX2_digest_107 : decode cX2_digest 107 = .ok (.i2l, 1) := by decide +kernel
theorem dX2_digest_108 : decode cX2_digest 108 = .ok (.invokestatic 156, 3) := by decide +kernel
theorem dX2_digest_111 : decode cX2_digest 111 = .ok (.lstore_n 1, 1) := by decide +kernel
theorem dX2_digest_112 : decode cX2_digest 112 = .ok (.iinc 3 1, 3) := by decide +kernel
theorem dX2_digest_115 : decode cX2_digest 115 = .ok (.goto (-47), 3) := by decide +kernel
theorem dX2_digest_118 : decode cX2_digest 118 = .ok (.iconst 0, 1) := by decide +kernel
theorem dX2_digest_119 : decode cX2_digest 119 = .ok (.istore_n 3, 1) := by decide +kernel
theorem dX2_digest_120 : decode cX2_digest 120 = .ok (.iload_n 3, 1) := by decide +kernel
theorem dX2_digest_121 : decode cX2_digest 121 = .ok (.aload_n 0, 1) := by decide +kernel
theorem dX2_digest_122 : decode cX2_digest 122 = .ok (.getfield 19, 3) := by decide +kernel
theorem dX2_digest_125 : decode cX2_digest 125 = .ok (.getfield 35, 3) := by decide +kernel
theorem dX2_digest_128 : decode cX2_digest 128 = .ok (.if_icmp .ge 119, 3) := by decide +kernel
theorem dX2_digest_131 : decode cX2_digest 131 = .ok (.lload_n 1, 1) := by decide +kernel
theorem dX2_digest_132 : decode cX2_digest 132 = .ok (.aload_n 0, 1) := by decide +kernel
theorem dX2_digest_133 : decode cX2_digest 133 = .ok (.iload_n 3, 1) := by decide +kernel
theorem dX2_digest_134 : decode cX2_digest 134 = .ok (.invokevirtual 181, 3) := by decide +kernel
theorem dX2_digest_137 : decode cX2_digest 137 = .ok (.i2l, 1) := by decide +kernel
theorem dX2_digest_138 : decode cX2_digest 138 = .ok (.invokestatic 156, 3) := by decide +kernel
theorem dX2_digest_141 : decode cX2_digest 141 = .ok (.lstore_n 1, 1) := by decide +kernel
theorem dX2_digest_142 : decode cX2_digest 142 = .ok (.lload_n 1, 1) := by decide +kernel
theorem dX2_digest_143 : decode cX2_digest 143 = .ok (.aload_n 0, 1) := by decide +kernel
theorem dX2_digest_144 : decode cX2_digest 144 = .ok (.iload_n 3, 1) := by decide +kernel
theorem dX2_digest_145 : decode cX2_digest 145 = .ok (.invokevirtual 184, 3) := by decide +kernel
theorem dX2_digest_148 : decode cX2_digest 148 = .ok (.i2l, 1) := by decide +kernel
theorem dX2_digest_149 : decode cX2_digest 149 = .ok (.invokestatic 156, 3) := by decide +kernel
theorem dX2_digest_152 : decode cX2_digest 152 = .ok (.lstore_n 1, 1) := by decide +kernel
theorem dX2_digest_153 : decode cX2_digest 153 = .ok (.lload_n 1, 1) := by decide +kernel
theorem dX2_digest_154 : decode cX2_digest 154 = .ok (.aload_n 0, 1) := by decide +kernel
theorem dX2_digest_155 : decode cX2_digest 155 = .ok (.iload_n 3, 1) := by decide +kernel
theorem dX2_digest_156 : decode cX2_digest 156 = .ok (.invokevirtual 187, 3) := by decide +kernel
theorem dX2_digest_159 : decode cX2_digest 159 = .ok (.i2l, 1) := by decide +kernel
theorem dX2_digest_160 : decode cX2_digest 160 = .ok (.invokestatic 156, 3) := by decide +kernel
theorem dX2_digest_163 : decode cX2_digest 163 = .ok (.lstore_n 1, 1) := by decide +kernel
theorem dX2_digest_164 : decode cX2_digest 164 = .ok (.lload_n 1, 1) := by decide +kernel
theorem dX2_digest_165 : decode cX2_digest 165 = .ok (.aload_n 0, 1) := by decide +kernel
theorem dX2_digest_166 : decode cX2_digest 166 = .ok (.iload_n 3, 1) := by decide +kernel
theorem dX2_digest_167 : decode cX2_digest 167 = .ok (.invokevirtual 190, 3) := by decide +kernel
theorem dX2_digest_170 : decode cX2_digest 170 = .ok (.i2l, 1) := by decide +kernel
theorem dX2_digest_171 : decode cX2_digest 171 = .ok (.invokestatic 156, 3) := by decide +kernel
theorem dX2_digest_174 : decode cX2_digest 174 = .ok (.lstore_n 1, 1) := by decide +kernel
theorem dX2_digest_175 : decode cX2_digest 175 = .ok (.lload_n 1, 1) := by decide +kernel
theorem dX2_digest_176 : decode cX2_digest 176 = .ok (.aload_n 0, 1) := by decide +kernel
theorem dX2_digest_177 : decode cX2_digest 177 = .ok (.iload_n 3, 1) := by decide +kernel
theorem dX2_digest_178 : decode cX2_digest 178 = .ok (.invokevirtual 193, 3) := by decide +kernel
theorem dX2_digest_181 : decode cX2_digest 181 = .ok (.i2l, 1) := by decide +kernel
theorem dX2_digest_182 : decode cX2_digest 182 = .ok (.invokestatic 156, 3) := by decide +kernel
theorem dX2_digest_185 : decode cX2_digest 185 = .ok (.lstore_n 1, 1) := by decide +kernel
theorem dX2_digest_186 : decode cX2_digest 186 = .ok (.lload_n 1, 1) := by decide +kernel
theorem dX2_digest_187 : decode cX2_digest 187 = .ok (.aload_n 0, 1) := by decide +kernel
theorem dX2_digest_188 : decode cX2_digest 188 = .ok (.iload_n 3, 1) := by decide +kernel
theorem dX2_digest_189 : decode cX2_digest 189 = .ok (.invokevirtual 196, 3) := by decide +kernel
theorem dX2_digest_192 : decode cX2_digest 192 = .ok (.i2l, 1) := by decide +kernel
theorem dX2_digest_193 : decode cX2_digest 193 = .ok (.invokestatic 156, 3) := by decide +kernel
theorem dX2_digest_196 : decode cX2_digest 196 = .ok (.lstore_n 1, 1) := by decide +kernel
theorem dX2_digest_197 : decode cX2_digest 197 = .ok (.lload_n 1, 1) := by decide +kernel
theorem dX2_digest_198 : decode cX2_digest 198 = .ok (.aload_n 0, 1) := by decide +kernel
theorem dX2_digest_199 : decode cX2_digest 199 = .ok (.iload_n 3, 1) := by decide +kernel
theorem dX2_digest_200 : decode cX2_digest 200 = .ok (.invokevirtual 199, 3) := by decide +kernel
theorem dX2_digest_203 : decode cX2_digest 203 = .ok (.i2l, 1) := by decide +kernel
theorem dX2_digest_204 : decode cX2_digest 204 = .ok (.invokestatic 156, 3) := by decide +kernel
theorem dX2_digest_207 : decode cX2_digest 207 = .ok (.lstore_n 1, 1) := by decide +kernel
theorem dX2_digest_208 : decode cX2_digest 208 = .ok (.lload_n 1, 1) := by decide +kernel
theorem dX2_digest_209 : decode cX2_digest 209 = .ok (.aload_n 0, 1) := by decide +kernel
theorem dX2_digest_210 : decode cX2_digest 210 = .ok (.iload_n 3, 1) := by decide +kernel
theorem dX2_digest_211 : decode cX2_digest 211 = .ok (.invokevirtual 202, 3) := by decide +kernel
theorem dX2_digest_214 : decode cX2_digest 214 = .ok (.i2l, 1) := by decide +kernel
theorem dX2_digest_215 : decode cX2_digest 215 = .ok (.invokestatic 156, 3) := by decide +kernel
theorem dX2_digest_218 : decode cX2_digest 218 = .ok (.lstore_n 1, 1) := by decide +kernel
theorem dX2_digest_219 : decode cX2_digest 219 = .ok (.lload_n 1, 1) := by decide +kernel
theorem dX2_digest_220 : decode cX2_digest 220 = .ok (.aload_n 0, 1) := by decide +kernel
theorem dX2_digest_221 : decode cX2_digest 221 = .ok (.iload_n 3, 1) := by decide +kernel
theorem dX2_digest_222 : decode cX2_digest 222 = .ok (.invokevirtual 205, 3) := by decide +kernel
theorem dX2_digest_225 : decode cX2_digest 225 = .ok (.i2l, 1) := by decide +kernel
theorem dX2_digest_226 : decode cX2_digest 226 = .ok (.invokestatic 156, 3) := by decide +kernel
theorem dX2_digest_229 : decode cX2_digest 229 = .ok (.lstore_n 1, 1) := by decide +kernel
theorem dX2_digest_230 : decode cX2_digest 230 = .ok (.lload_n 1, 1) := by decide +kernel
theorem dX2_digest_231 : decode cX2_digest 231 = .ok (.aload_n 0, 1) := by decide +kernel
theorem dX2_digest_232 : decode cX2_digest 232 = .ok (.iload_n 3, 1) := by decide +kernel
theorem dX2_digest_233 : decode cX2_digest 233 = .ok (.invokevirtual 208, 3) := by decide +kernel
theorem dX2_digest_236 : decode cX2_digest 236 = .ok (.i2l, 1) := by decide +kernel
theorem dX2_digest_237 : decode cX2_digest 237 = .ok (.invokestatic 156, 3) := by decide +kernel
theorem dX2_digest_240 : decode cX2_digest 240 = .ok (.lstore_n 1, 1) := by decide +kernel
theorem dX2_digest_241 : decode cX2_digest 241 = .ok (.iinc 3 1, 3) := by decide +kernel
theorem dX2_digest_244 : decode cX2_digest 244 = .ok (.goto (-124), 3) := by decide +kernel
theorem dX2_digest_247 : decode cX2_digest 247 = .ok (.lload_n 1, 1) := by decide +kernel
theorem dX2_digest_248 : decode cX2_digest 248 = .ok (.lreturn, 1) := by decide +kernel
theorem dX2_checkStand_0 : decode cX2_checkStand 0 = .ok (.iload_n 0, 1) := by decide +kernel
theorem dX2_checkStand_1 : decode cX2_checkStand 1 = .ok (.ifCond .lt 8, 3) := by decide +kernel
theorem dX2_checkStand_4 : decode cX2_checkStand 4 = .ok (.iload_n 0, 1) := by decide +kernel
theorem dX2_checkStand_5 : decode cX2_checkStand 5 = .ok (.iconst 5, 1) := by decide +kernel
theorem dX2_checkStand_6 : decode cX2_checkStand 6 = .ok (.if_icmp .lt 13, 3) := by decide +kernel
theorem dX2_checkStand_9 : decode cX2_checkStand 9 = .ok (.new 85, 3) := by decide +kernel
theorem dX2_checkStand_12 : decode cX2_checkStand 12 = .ok (.dup, 1) := by decide +kernel
theorem dX2_checkStand_13 : decode cX2_checkStand 13 = .ok (.ldc 211, 2) := by decide +kernel
theorem dX2_checkStand_15 : decode cX2_checkStand 15 = .ok (.invokespecial 89, 3) := by decide +kernel
theorem dX2_checkStand_18 : decode cX2_checkStand 18 = .ok (.athrow, 1) := by decide +kernel
theorem dX2_checkStand_19 : decode cX2_checkStand 19 = .ok (.return_, 1) := by decide +kernel
theorem dX2_checkGun_0 : decode cX2_checkGun 0 = .ok (.iload_n 1, 1) := by decide +kernel
theorem dX2_checkGun_1 : decode cX2_checkGun 1 = .ok (.ifCond .lt 14, 3) := by decide +kernel
theorem dX2_checkGun_4 : decode cX2_checkGun 4 = .ok (.iload_n 1, 1) := by decide +kernel
theorem dX2_checkGun_5 : decode cX2_checkGun 5 = .ok (.aload_n 0, 1) := by decide +kernel
theorem dX2_checkGun_6 : decode cX2_checkGun 6 = .ok (.getfield 19, 3) := by decide +kernel
theorem dX2_checkGun_9 : decode cX2_checkGun 9 = .ok (.getfield 35, 3) := by decide +kernel
theorem dX2_checkGun_12 : decode cX2_checkGun 12 = .ok (.if_icmp .lt 13, 3) := by decide +kernel
theorem dX2_checkGun_15 : decode cX2_checkGun 15 = .ok (.new 85, 3) := by decide +kernel
theorem dX2_checkGun_18 : decode cX2_checkGun 18 = .ok (.dup, 1) := by decide +kernel
theorem dX2_checkGun_19 : decode cX2_checkGun 19 = .ok (.ldc 213, 2) := by decide +kernel
theorem dX2_checkGun_21 : decode cX2_checkGun 21 = .ok (.invokespecial 89, 3) := by decide +kernel
theorem dX2_checkGun_24 : decode cX2_checkGun 24 = .ok (.athrow, 1) := by decide +kernel
theorem dX2_checkGun_25 : decode cX2_checkGun 25 = .ok (.return_, 1) := by decide +kernel
theorem dX2_checkTurns_0 : decode cX2_checkTurns 0 = .ok (.iload_n 0, 1) := by decide +kernel
theorem dX2_checkTurns_1 : decode cX2_checkTurns 1 = .ok (.iconst 1, 1) := by decide +kernel
theorem dX2_checkTurns_2 : decode cX2_checkTurns 2 = .ok (.if_icmp .lt 9, 3) := by decide +kernel
theorem dX2_checkTurns_5 : decode cX2_checkTurns 5 = .ok (.iload_n 0, 1) := by decide +kernel
theorem dX2_checkTurns_6 : decode cX2_checkTurns 6 = .ok (.bipush 50, 2) := by decide +kernel
theorem dX2_checkTurns_8 : decode cX2_checkTurns 8 = .ok (.if_icmp .le 13, 3) := by decide +kernel
theorem dX2_checkTurns_11 : decode cX2_checkTurns 11 = .ok (.new 26, 3) := by decide +kernel
theorem dX2_checkTurns_14 : decode cX2_checkTurns 14 = .ok (.dup, 1) := by decide +kernel
theorem dX2_checkTurns_15 : decode cX2_checkTurns 15 = .ok (.ldc 215, 2) := by decide +kernel
theorem dX2_checkTurns_17 : decode cX2_checkTurns 17 = .ok (.invokespecial 30, 3) := by decide +kernel
theorem dX2_checkTurns_20 : decode cX2_checkTurns 20 = .ok (.athrow, 1) := by decide +kernel
theorem dX2_checkTurns_21 : decode cX2_checkTurns 21 = .ok (.return_, 1) := by decide +kernel
theorem dX2_clayIn_0 : decode cX2_clayIn 0 = .ok (.iload_n 0, 1) := by decide +kernel
theorem dX2_clayIn_1 : decode cX2_clayIn 1 = .ok (.iconst 5, 1) := by decide +kernel
theorem dX2_clayIn_2 : decode cX2_clayIn 2 = .ok (.invokestatic 217, 3) := by decide +kernel
theorem dX2_clayIn_5 : decode cX2_clayIn 5 = .ok (.ireturn, 1) := by decide +kernel
theorem dX2_standIn_0 : decode cX2_standIn 0 = .ok (.iload_n 1, 1) := by decide +kernel
theorem dX2_standIn_1 : decode cX2_standIn 1 = .ok (.iload_n 0, 1) := by decide +kernel
theorem dX2_standIn_2 : decode cX2_standIn 2 = .ok (.iconst 5, 1) := by decide +kernel
theorem dX2_standIn_3 : decode cX2_standIn 3 = .ok (.idiv, 1) := by decide +kernel
theorem dX2_standIn_4 : decode cX2_standIn 4 = .ok (.iadd, 1) := by decide +kernel
theorem dX2_standIn_5 : decode cX2_standIn 5 = .ok (.iconst 5, 1) := by decide +kernel
theorem dX2_standIn_6 : decode cX2_standIn 6 = .ok (.invokestatic 217, 3) := by decide +kernel
theorem dX2_standIn_9 : decode cX2_standIn 9 = .ok (.ireturn, 1) := by decide +kernel
theorem dX2_scoreWithRest_0 : decode cX2_scoreWithRest 0 = .ok (.aload_n 0, 1) := by decide +kernel
theorem dX2_scoreWithRest_1 : decode cX2_scoreWithRest 1 = .ok (.getfield 23, 3) := by decide +kernel
theorem dX2_scoreWithRest_4 : decode cX2_scoreWithRest 4 = .ok (.aload_n 0, 1) := by decide +kernel
theorem dX2_scoreWithRest_5 : decode cX2_scoreWithRest 5 = .ok (.getfield 19, 3) := by decide +kernel
theorem dX2_scoreWithRest_8 : decode cX2_scoreWithRest 8 = .ok (.invokevirtual 127, 3) := by decide +kernel
theorem dX2_scoreWithRest_11 : decode cX2_scoreWithRest 11 = .ok (.aload_n 0, 1) := by decide +kernel
theorem dX2_scoreWithRest_12 : decode cX2_scoreWithRest 12 = .ok (.getfield 23, 3) := by decide +kernel
theorem dX2_scoreWithRest_15 : decode cX2_scoreWithRest 15 = .ok (.aload_n 0, 1) := by decide +kernel
theorem dX2_scoreWithRest_16 : decode cX2_scoreWithRest 16 = .ok (.getfield 10, 3) := by decide +kernel
theorem dX2_scoreWithRest_19 : decode cX2_scoreWithRest 19 = .ok (.iload_n 1, 1) := by decide +kernel
theorem dX2_scoreWithRest_20 : decode cX2_scoreWithRest 20 = .ok (.aload_n 0, 1) := by decide +kernel
theorem dX2_scoreWithRest_21 : decode cX2_scoreWithRest 21 = .ok (.getfield 72, 3) := by decide +kernel
theorem dX2_scoreWithRest_24 : decode cX2_scoreWithRest 24 = .ok (.iload_n 2, 1) := by decide +kernel
theorem dX2_scoreWithRest_25 : decode cX2_scoreWithRest 25 = .ok (.invokevirtual 131, 3) := by decide +kernel
theorem dX2_scoreWithRest_28 : decode cX2_scoreWithRest 28 = .ok (.aload_n 0, 1) := by decide +kernel
theorem dX2_scoreWithRest_29 : decode cX2_scoreWithRest 29 = .ok (.getfield 23, 3) := by decide +kernel
theorem dX2_scoreWithRest_32 : decode cX2_scoreWithRest 32 = .ok (.getfield 66, 3) := by decide +kernel
theorem dX2_scoreWithRest_35 : decode cX2_scoreWithRest 35 = .ok (.iload_n 1, 1) := by decide +kernel
theorem dX2_scoreWithRest_36 : decode cX2_scoreWithRest 36 = .ok (.iconst 0, 1) := by decide +kernel
theorem dX2_scoreWithRest_37 : decode cX2_scoreWithRest 37 = .ok (.iastore, 1) := by decide +kernel
theorem dX2_scoreWithRest_38 : decode cX2_scoreWithRest 38 = .ok (.aload_n 0, 1) := by decide +kernel
theorem dX2_scoreWithRest_39 : decode cX2_scoreWithRest 39 = .ok (.getfield 23, 3) := by decide +kernel
theorem dX2_scoreWithRest_42 : decode cX2_scoreWithRest 42 = .ok (.aload_n 0, 1) := by decide +kernel
theorem dX2_scoreWithRest_43 : decode cX2_scoreWithRest 43 = .ok (.getfield 10, 3) := by decide +kernel
theorem dX2_scoreWithRest_46 : decode cX2_scoreWithRest 46 = .ok (.iload_n 1, 1) := by decide +kernel
theorem dX2_scoreWithRest_47 : decode cX2_scoreWithRest 47 = .ok (.aload_n 0, 1) := by decide +kernel
theorem dX2_scoreWithRest_48 : decode cX2_scoreWithRest 48 = .ok (.getfield 72, 3) := by decide +kernel
theorem dX2_scoreWithRest_51 : decode cX2_scoreWithRest 51 = .ok (.iload_n 2, 1) := by decide +kernel
theorem dX2_scoreWithRest_52 : decode cX2_scoreWithRest 52 = .ok (.iadd, 1) := by decide +kernel
theorem dX2_scoreWithRest_53 : decode cX2_scoreWithRest 53 = .ok (.bipush 25, 2) := by decide +kernel
theorem dX2_scoreWithRest_55 : decode cX2_scoreWithRest 55 = .ok (.iload_n 2, 1) := by decide +kernel
theorem dX2_scoreWithRest_56 : decode cX2_scoreWithRest 56 = .ok (.isub, 1) := by decide +kernel
theorem dX2_scoreWithRest_57 : decode cX2_scoreWithRest 57 = .ok (.invokevirtual 131, 3) := by decide +kernel
theorem dX2_scoreWithRest_60 : decode cX2_scoreWithRest 60 = .ok (.aload_n 0, 1) := by decide +kernel
theorem dX2_scoreWithRest_61 : decode cX2_scoreWithRest 61 = .ok (.getfield 23, 3) := by decide +kernel
theorem dX2_scoreWithRest_64 : decode cX2_scoreWithRest 64 = .ok (.getfield 103, 3) := by decide +kernel
theorem dX2_scoreWithRest_67 : decode cX2_scoreWithRest 67 = .ok (.iload_n 1, 1) := by decide +kernel
theorem dX2_scoreWithRest_68 : decode cX2_scoreWithRest 68 = .ok (.iaload, 1) := by decide +kernel
theorem dX2_scoreWithRest_69 : decode cX2_scoreWithRest 69 = .ok (.ireturn, 1) := by decide +kernel
theorem dX2_fold_0 : decode cX2_fold 0 = .ok (.lload_n 0, 1) := by decide +kernel
theorem dX2_fold_1 : decode cX2_fold 1 = .ok (.ldc2_w 220, 3) := by decide +kernel
theorem dX2_fold_4 : decode cX2_fold 4 = .ok (.lmul, 1) := by decide +kernel
theorem dX2_fold_5 : decode cX2_fold 5 = .ok (.lload_n 2, 1) := by decide +kernel
theorem dX2_fold_6 : decode cX2_fold 6 = .ok (.ladd, 1) := by decide +kernel
theorem dX2_fold_7 : decode cX2_fold 7 = .ok (.lreturn, 1) := by decide +kernel
