theorem dL_addGun_0 : decode cL_addGun 0 = .ok (.aload_n 3, 1) := by decide +kernel
theorem dL_addGun_1 : decode cL_addGun 1 = .ok (.iconst 0, 1) := by decide +kernel
theorem dL_addGun_2 : decode cL_addGun 2 = .ok (.aload_n 0, 1) := by decide +kernel
theorem dL_addGun_3 : decode cL_addGun 3 = .ok (.iload_n 1, 1) := by decide +kernel
theorem dL_addGun_4 : decode cL_addGun 4 = .ok (.iload_n 2, 1) := by decide +kernel
theorem dL_addGun_5 : decode cL_addGun 5 = .ok (.invokevirtual 7, 3) := by decide +kernel
theorem dL_addGun_8 : decode cL_addGun 8 = .ok (.i2l, 1) := by decide +kernel
theorem dL_addGun_9 : decode cL_addGun 9 = .ok (.lastore, 1) := by decide +kernel
theorem dL_addGun_10 : decode cL_addGun 10 = .ok (.goto 11, 3) := by decide +kernel
theorem dL_addGun_13 : decode cL_addGun 13 = .ok (.astore 4, 2) := by decide +kernel
theorem dL_addGun_15 : decode cL_addGun 15 = .ok (.iconst 1, 1) := by decide +kernel
theorem dL_addGun_16 : decode cL_addGun 16 = .ok (.ireturn, 1) := by decide +kernel
theorem dL_addGun_17 : decode cL_addGun 17 = .ok (.astore 4, 2) := by decide +kernel
theorem dL_addGun_19 : decode cL_addGun 19 = .ok (.iconst 2, 1) := by decide +kernel
theorem dL_addGun_20 : decode cL_addGun 20 = .ok (.ireturn, 1) := by decide +kernel
theorem dL_addGun_21 : decode cL_addGun 21 = .ok (.iconst 0, 1) := by decide +kernel
theorem dL_addGun_22 : decode cL_addGun 22 = .ok (.ireturn, 1) := by decide +kernel
theorem dL_setTrap_0 : decode cL_setTrap 0 = .ok (.aload 4, 2) := by decide +kernel
theorem dL_setTrap_2 : decode cL_setTrap 2 = .ok (.iconst 0, 1) := by decide +kernel
theorem dL_setTrap_3 : decode cL_setTrap 3 = .ok (.aload_n 0, 1) := by decide +kernel
theorem dL_setTrap_4 : decode cL_setTrap 4 = .ok (.iload_n 1, 1) := by decide +kernel
theorem dL_setTrap_5 : decode cL_setTrap 5 = .ok (.iload_n 2, 1) := by decide +kernel
theorem dL_setTrap_6 : decode cL_setTrap 6 = .ok (.iload_n 3, 1) := by decide +kernel
theorem dL_setTrap_7 : decode cL_setTrap 7 = .ok (.invokevirtual 17, 3) := by decide +kernel
theorem dL_setTrap_10 : decode cL_setTrap 10 = .ok (.i2l, 1) := by decide +kernel
theorem dL_setTrap_11 : decode cL_setTrap 11 = .ok (.lastore, 1) := by decide +kernel
theorem dL_setTrap_12 : decode cL_setTrap 12 = .ok (.goto 11, 3) := by decide +kernel
theorem dL_setTrap_15 : decode cL_setTrap 15 = .ok (.astore 5, 2) := by decide +kernel
theorem dL_setTrap_17 : decode cL_setTrap 17 = .ok (.iconst 1, 1) := by decide +kernel
theorem dL_setTrap_18 : decode cL_setTrap 18 = .ok (.ireturn, 1) := by decide +kernel
theorem dL_setTrap_19 : decode cL_setTrap 19 = .ok (.astore 5, 2) := by decide +kernel
theorem dL_setTrap_21 : decode cL_setTrap 21 = .ok (.iconst 2, 1) := by decide +kernel
theorem dL_setTrap_22 : decode cL_setTrap 22 = .ok (.ireturn, 1) := by decide +kernel
theorem dL_setTrap_23 : decode cL_setTrap 23 = .ok (.iconst 0, 1) := by decide +kernel
theorem dL_setTrap_24 : decode cL_setTrap 24 = .ok (.ireturn, 1) := by decide +kernel
theorem dL_rest_0 : decode cL_rest 0 = .ok (.aload_n 2, 1) := by decide +kernel
theorem dL_rest_1 : decode cL_rest 1 = .ok (.iconst 0, 1) := by decide +kernel
theorem dL_rest_2 : decode cL_rest 2 = .ok (.aload_n 0, 1) := by decide +kernel
theorem dL_rest_3 : decode cL_rest 3 = .ok (.iload_n 1, 1) := by decide +kernel
theorem dL_rest_4 : decode cL_rest 4 = .ok (.invokevirtual 23, 3) := by decide +kernel
theorem dL_rest_7 : decode cL_rest 7 = .ok (.i2l, 1) := by decide +kernel
theorem dL_rest_8 : decode cL_rest 8 = .ok (.lastore, 1) := by decide +kernel
theorem dL_rest_9 : decode cL_rest 9 = .ok (.goto 6, 3) := by decide +kernel
theorem dL_rest_12 : decode cL_rest 12 = .ok (.astore_n 3, 1) := by decide +kernel
theorem dL_rest_13 : decode cL_rest 13 = .ok (.iconst 1, 1) := by decide +kernel
theorem dL_rest_14 : decode cL_rest 14 = .ok (.ireturn, 1) := by decide +kernel
theorem dL_rest_15 : decode cL_rest 15 = .ok (.iconst 0, 1) := by decide +kernel
theorem dL_rest_16 : decode cL_rest 16 = .ok (.ireturn, 1) := by decide +kernel
theorem dL_pass_0 : decode cL_pass 0 = .ok (.aload_n 2, 1) := by decide +kernel
theorem dL_pass_1 : decode cL_pass 1 = .ok (.iconst 0, 1) := by decide +kernel
theorem dL_pass_2 : decode cL_pass 2 = .ok (.aload_n 0, 1) := by decide +kernel
theorem dL_pass_3 : decode cL_pass 3 = .ok (.iload_n 1, 1) := by decide +kernel
theorem dL_pass_4 : decode cL_pass 4 = .ok (.invokevirtual 27, 3) := by decide +kernel
theorem dL_pass_7 : decode cL_pass 7 = .ok (.i2l, 1) := by decide +kernel
theorem dL_pass_8 : decode cL_pass 8 = .ok (.lastore, 1) := by decide +kernel
theorem dL_pass_9 : decode cL_pass 9 = .ok (.goto 6, 3) := by decide +kernel
theorem dL_pass_12 : decode cL_pass 12 = .ok (.astore_n 3, 1) := by decide +kernel
theorem dL_pass_13 : decode cL_pass 13 = .ok (.iconst 1, 1) := by decide +kernel
theorem dL_pass_14 : decode cL_pass 14 = .ok (.ireturn, 1) := by decide +kernel
theorem dL_pass_15 : decode cL_pass 15 = .ok (.iconst 0, 1) := by decide +kernel
theorem dL_pass_16 : decode cL_pass 16 = .ok (.ireturn, 1) := by decide +kernel
theorem dL_shootOff_0 : decode cL_shootOff 0 = .ok (.aload_n 1, 1) := by decide +kernel
theorem dL_shootOff_1 : decode cL_shootOff 1 = .ok (.iconst 0, 1) := by decide +kernel
theorem dL_shootOff_2 : decode cL_shootOff 2 = .ok (.aload_n 0, 1) := by decide +kernel
theorem dL_shootOff_3 : decode cL_shootOff 3 = .ok (.invokevirtual 30, 3) := by decide +kernel
theorem dL_shootOff_6 : decode cL_shootOff 6 = .ok (.i2l, 1) := by decide +kernel
theorem dL_shootOff_7 : decode cL_shootOff 7 = .ok (.lastore, 1) := by decide +kernel
theorem dL_shootOff_8 : decode cL_shootOff 8 = .ok (.goto 6, 3) := by decide +kernel
theorem dL_shootOff_11 : decode cL_shootOff 11 = .ok (.astore_n 2, 1) := by decide +kernel
theorem dL_shootOff_12 : decode cL_shootOff 12 = .ok (.iconst 1, 1) := by decide +kernel
theorem dL_shootOff_13 : decode cL_shootOff 13 = .ok (.ireturn, 1) := by decide +kernel
theorem dL_shootOff_14 : decode cL_shootOff 14 = .ok (.iconst 0, 1) := by decide +kernel
theorem dL_shootOff_15 : decode cL_shootOff 15 = .ok (.ireturn, 1) := by decide +kernel
theorem dL_angle_0 : decode cL_angle 0 = .ok (.aload_n 3, 1) := by decide +kernel
theorem dL_angle_1 : decode cL_angle 1 = .ok (.iconst 0, 1) := by decide +kernel
theorem dL_angle_2 : decode cL_angle 2 = .ok (.aload_n 0, 1) := by decide +kernel
theorem dL_angle_3 : decode cL_angle 3 = .ok (.iload_n 1, 1) := by decide +kernel
theorem dL_angle_4 : decode cL_angle 4 = .ok (.iload_n 2, 1) := by decide +kernel
theorem dL_angle_5 : decode cL_angle 5 = .ok (.invokevirtual 34, 3) := by decide +kernel
theorem dL_angle_8 : decode cL_angle 8 = .ok (.i2l, 1) := by decide +kernel
theorem dL_angle_9 : decode cL_angle 9 = .ok (.lastore, 1) := by decide +kernel
theorem dL_angle_10 : decode cL_angle 10 = .ok (.goto 7, 3) := by decide +kernel
theorem dL_angle_13 : decode cL_angle 13 = .ok (.astore 4, 2) := by decide +kernel
theorem dL_angle_15 : decode cL_angle 15 = .ok (.iconst 1, 1) := by decide +kernel
theorem dL_angle_16 : decode cL_angle 16 = .ok (.ireturn, 1) := by decide +kernel
theorem dL_angle_17 : decode cL_angle 17 = .ok (.iconst 0, 1) := by decide +kernel
theorem dL_angle_18 : decode cL_angle 18 = .ok (.ireturn, 1) := by decide +kernel
theorem dL_hardestClay_0 : decode cL_hardestClay 0 = .ok (.aload_n 2, 1) := by decide +kernel
theorem dL_hardestClay_1 : decode cL_hardestClay 1 = .ok (.iconst 0, 1) := by decide +kernel
theorem dL_hardestClay_2 : decode cL_hardestClay 2 = .ok (.aload_n 0, 1) := by decide +kernel
theorem dL_hardestClay_3 : decode cL_hardestClay 3 = .ok (.iload_n 1, 1) := by decide +kernel
theorem dL_hardestClay_4 : decode cL_hardestClay 4 = .ok (.invokevirtual 37, 3) := by decide +kernel
theorem dL_hardestClay_7 : decode cL_hardestClay 7 = .ok (.i2l, 1) := by decide +kernel
theorem dL_hardestClay_8 : decode cL_hardestClay 8 = .ok (.lastore, 1) := by decide +kernel
theorem dL_hardestClay_9 : decode cL_hardestClay 9 = .ok (.goto 6, 3) := by decide +kernel
theorem dL_hardestClay_12 : decode cL_hardestClay 12 = .ok (.astore_n 3, 1) := by decide +kernel
theorem dL_hardestClay_13 : decode cL_hardestClay 13 = .ok (.iconst 1, 1) := by decide +kernel
theorem dL_hardestClay_14 : decode cL_hardestClay 14 = .ok (.ireturn, 1) := by decide +kernel
theorem dL_hardestClay_15 : decode cL_hardestClay 15 = .ok (.iconst 0, 1) := by decide +kernel
theorem dL_hardestClay_16 : decode cL_hardestClay 16 = .ok (.ireturn, 1) := by decide +kernel
theorem dL_standOf_0 : decode cL_standOf 0 = .ok (.aload_n 2, 1) := by decide +kernel
theorem dL_standOf_1 : decode cL_standOf 1 = .ok (.iconst 0, 1) := by decide +kernel
theorem dL_standOf_2 : decode cL_standOf 2 = .ok (.aload_n 0, 1) := by decide +kernel
theorem dL_standOf_3 : decode cL_standOf 3 = .ok (.iload_n 1, 1) := by decide +kernel
theorem dL_standOf_4 : decode cL_standOf 4 = .ok (.invokevirtual 40, 3) := by decide +kernel
theorem dL_standOf_7 : decode cL_standOf 7 = .ok (.i2l, 1) := by decide +kernel
theorem dL_standOf_8 : decode cL_standOf 8 = .ok (.lastore, 1) := by decide +kernel
theorem dL_standOf_9 : decode cL_standOf 9 = .ok (.goto 6, 3) := by decide +kernel
theorem dL_standOf_12 : decode cL_standOf 12 = .ok (.astore_n 3, 1) := by decide +kernel
theorem dL_standOf_13 : decode cL_standOf 13 = .ok (.iconst 1, 1) := by decide +kernel
theorem dL_standOf_14 : decode cL_standOf 14 = .ok (.ireturn, 1) := by decide +kernel
theorem dL_standOf_15 : decode cL_standOf 15 = .ok (.iconst 0, 1) := by decide +kernel
theorem dL_standOf_16 : decode cL_standOf 16 = .ok (.ireturn, 1) := by decide +kernel
theorem dL_angleFor_0 : decode cL_angleFor 0 = .ok (.aload_n 2, 1) := by decide +kernel
theorem dL_angleFor_1 : decode cL_angleFor 1 = .ok (.iconst 0, 1) := by decide +kernel
theorem dL_angleFor_2 : decode cL_angleFor 2 = .ok (.aload_n 0, 1) := by decide +kernel
theorem dL_angleFor_3 : decode cL_angleFor 3 = .ok (.iload_n 1, 1) := by decide +kernel
theorem dL_angleFor_4 : decode cL_angleFor 4 = .ok (.invokevirtual 43, 3) := by decide +kernel
theorem dL_angleFor_7 : decode cL_angleFor 7 = .ok (.i2l, 1) := by decide +kernel
theorem dL_angleFor_8 : decode cL_angleFor 8 = .ok (.lastore, 1) := by decide +kernel
theorem dL_angleFor_9 : decode cL_angleFor 9 = .ok (.goto 6, 3) := by decide +kernel
theorem dL_angleFor_12 : decode cL_angleFor 12 = .ok (.astore_n 3, 1) := by decide +kernel
theorem dL_angleFor_13 : decode cL_angleFor 13 = .ok (.iconst 1, 1) := by decide +kernel
theorem dL_angleFor_14 : decode cL_angleFor 14 = .ok (.ireturn, 1) := by decide +kernel
theorem dL_angleFor_15 : decode cL_angleFor 15 = .ok (.iconst 0, 1) := by decide +kernel
theorem dL_angleFor_16 : decode cL_angleFor 16 = .ok (.ireturn, 1) := by decide +kernel
theorem dL_scoreOf_0 : decode cL_scoreOf 0 = .ok (.aload_n 2, 1) := by decide +kernel
theorem dL_scoreOf_1 : decode cL_scoreOf 1 = .ok (.iconst 0, 1) := by decide +kernel
theorem dL_scoreOf_2 : decode cL_scoreOf 2 = .ok (.aload_n 0, 1) := by decide +kernel
theorem dL_scoreOf_3 : decode cL_scoreOf 3 = .ok (.iload_n 1, 1) := by decide +kernel
theorem dL_scoreOf_4 : decode cL_scoreOf 4 = .ok (.invokevirtual 46, 3) := by decide +kernel
theorem dL_scoreOf_7 : decode cL_scoreOf 7 = .ok (.i2l, 1) := by decide +kernel
theorem dL_scoreOf_8 : decode cL_scoreOf 8 = .ok (.lastore, 1) := by decide +kernel
theorem dL_scoreOf_9 : decode cL_scoreOf 9 = .ok (.goto 6, 3) := by decide +kernel
theorem dL_scoreOf_12 : decode cL_scoreOf 12 = .ok (.astore_n 3, 1) := by decide +kernel
theorem dL_scoreOf_13 : decode cL_scoreOf 13 = .ok (.iconst 1, 1) := by decide +kernel
theorem dL_scoreOf_14 : decode cL_scoreOf 14 = .ok (.ireturn, 1) := by decide +kernel
theorem dL_scoreOf_15 : decode cL_scoreOf 15 = .ok (.iconst 0, 1) := by decide +kernel
theorem dL_scoreOf_16 : decode cL_scoreOf 16 = .ok (.ireturn, 1) := by decide +kernel
theorem dL_firstsOf_0 : decode cL_firstsOf 0 = .ok (.aload_n 2, 1) := by decide +kernel
theorem dL_firstsOf_1 : decode cL_firstsOf 1 = .ok (.iconst 0, 1) := by decide +kernel
theorem dL_firstsOf_2 : decode cL_firstsOf 2 = .ok (.aload_n 0, 1) := by decide +kernel
theorem dL_firstsOf_3 : decode cL_firstsOf 3 = .ok (.iload_n 1, 1) := by decide +kernel
theorem dL_firstsOf_4 : decode cL_firstsOf 4 = .ok (.invokevirtual 49, 3) := by decide +kernel
theorem dL_firstsOf_7 : decode cL_firstsOf 7 = .ok (.i2l, 1) := by decide +kernel
theorem dL_firstsOf_8 : decode cL_firstsOf 8 = .ok (.lastore, 1) := by decide +kernel
theorem dL_firstsOf_9 : decode cL_firstsOf 9 = .ok (.goto 6, 3) := by decide +kernel
theorem dL_firstsOf_12 : decode cL_firstsOf 12 = .ok (.astore_n 3, 1) := by decide +kernel
theorem dL_firstsOf_13 : decode cL_firstsOf 13 = .ok (.iconst 1, 1) := by decide +kernel
theorem dL_firstsOf_14 : decode cL_firstsOf 14 = .ok (.ireturn, 1) := by decide +kernel
theorem dL_firstsOf_15 : decode cL_firstsOf 15 = .ok (.iconst 0, 1) := by decide +kernel
theorem dL_firstsOf_16 : decode cL_firstsOf 16 = .ok (.ireturn, 1) := by decide +kernel
theorem dL_missesOf_0 : decode cL_missesOf 0 = .ok (.aload_n 2, 1) := by decide +kernel
theorem dL_missesOf_1 : decode cL_missesOf 1 = .ok (.iconst 0, 1) := by decide +kernel
theorem dL_missesOf_2 : decode cL_missesOf 2 = .ok (.aload_n 0, 1) := by decide +kernel
theorem dL_missesOf_3 : decode cL_missesOf 3 = .ok (.iload_n 1, 1) := by decide +kernel
theorem dL_missesOf_4 : decode cL_missesOf 4 = .ok (.invokevirtual 52, 3) := by decide +kernel
theorem dL_missesOf_7 : decode cL_missesOf 7 = .ok (.i2l, 1) := by decide +kernel
theorem dL_missesOf_8 : decode cL_missesOf 8 = .ok (.lastore, 1) := by decide +kernel
theorem dL_missesOf_9 : decode cL_missesOf 9 = .ok (.goto 6, 3) := by decide +kernel
theorem dL_missesOf_12 : decode cL_missesOf 12 = .ok (.astore_n 3, 1) := by decide +kernel
theorem dL_missesOf_13 : decode cL_missesOf 13 = .ok (.iconst 1, 1) := by decide +kernel
theorem dL_missesOf_14 : decode cL_missesOf 14 = .ok (.ireturn, 1) := by decide +kernel
theorem dL_missesOf_15 : decode cL_missesOf 15 = .ok (.iconst 0, 1) := by decide +kernel
theorem dL_missesOf_16 : decode cL_missesOf 16 = .ok (.ireturn, 1) := by decide +kernel
theorem dL_fatigueOf_0 : decode cL_fatigueOf 0 = .ok (.aload_n 2, 1) := by decide +kernel
theorem dL_fatigueOf_1 : decode cL_fatigueOf 1 = .ok (.iconst 0, 1) := by decide +kernel
theorem dL_fatigueOf_2 : decode cL_fatigueOf 2 = .ok (.aload_n 0, 1) := by decide +kernel
theorem dL_fatigueOf_3 : decode cL_fatigueOf 3 = .ok (.iload_n 1, 1) := by decide +kernel
theorem dL_fatigueOf_4 : decode cL_fatigueOf 4 = .ok (.invokevirtual 55, 3) := by decide +kernel
theorem dL_fatigueOf_7 : decode cL_fatigueOf 7 = .ok (.i2l, 1) := by decide +kernel
theorem dL_fatigueOf_8 : decode cL_fatigueOf 8 = .ok (.lastore, 1) := by decide +kernel
theorem dL_fatigueOf_9 : decode cL_fatigueOf 9 = .ok (.goto 6, 3) := by decide +kernel
theorem dL_fatigueOf_12 : decode cL_fatigueOf 12 = .ok (.astore_n 3, 1) := by decide +kernel
theorem dL_fatigueOf_13 : decode cL_fatigueOf 13 = .ok (.iconst 1, 1) := by decide +kernel
theorem dL_fatigueOf_14 : decode cL_fatigueOf 14 = .ok (.ireturn, 1) := by decide +kernel
theorem dL_fatigueOf_15 : decode cL_fatigueOf 15 = .ok (.iconst 0, 1) := by decide +kernel
theorem dL_fatigueOf_16 : decode cL_fatigueOf 16 = .ok (.ireturn, 1) := by decide +kernel
theorem dL_wouldHit_0 : decode cL_wouldHit 0 = .ok (.aload_n 2, 1) := by decide +kernel
theorem dL_wouldHit_1 : decode cL_wouldHit 1 = .ok (.iconst 0, 1) := by decide +kernel
theorem dL_wouldHit_2 : decode cL_wouldHit 2 = .ok (.aload_n 0, 1) := by decide +kernel
theorem dL_wouldHit_3 : decode cL_wouldHit 3 = .ok (.iload_n 1, 1) := by decide +kernel
theorem dL_wouldHit_4 : decode cL_wouldHit 4 = .ok (.invokevirtual 58, 3) := by decide +kernel
theorem dL_wouldHit_7 : decode cL_wouldHit 7 = .ok (.i2l, 1) := by decide +kernel
theorem dL_wouldHit_8 : decode cL_wouldHit 8 = .ok (.lastore, 1) := by decide +kernel
theorem dL_wouldHit_9 : decode cL_wouldHit 9 = .ok (.goto 6, 3) := by decide +kernel
theorem dL_wouldHit_12 : decode cL_wouldHit 12 = .ok (.astore_n 3, 1) := by decide +kernel
theorem dL_wouldHit_13 : decode cL_wouldHit 13 = .ok (.iconst 1, 1) := by decide +kernel
theorem dL_wouldHit_14 : decode cL_wouldHit 14 = .ok (.ireturn, 1) := by decide +kernel
theorem dL_wouldHit_15 : decode cL_wouldHit 15 = .ok (.iconst 0, 1) := by decide +kernel
theorem dL_wouldHit_16 : decode cL_wouldHit 16 = .ok (.ireturn, 1) := by decide +kernel
theorem dL_rankOf_0 : decode cL_rankOf 0 = .ok (.aload_n 2, 1) := by decide +kernel
theorem dL_rankOf_1 : decode cL_rankOf 1 = .ok (.iconst 0, 1) := by decide +kernel
theorem dL_rankOf_2 : decode cL_rankOf 2 = .ok (.aload_n 0, 1) := by decide +kernel
theorem dL_rankOf_3 : decode cL_rankOf 3 = .ok (.iload_n 1, 1) := by decide +kernel
theorem dL_rankOf_4 : decode cL_rankOf 4 = .ok (.invokevirtual 61, 3) := by decide +kernel
theorem dL_rankOf_7 : decode cL_rankOf 7 = .ok (.i2l, 1) := by decide +kernel
theorem dL_rankOf_8 : decode cL_rankOf 8 = .ok (.lastore, 1) := by decide +kernel
theorem dL_rankOf_9 : decode cL_rankOf 9 = .ok (.goto 6, 3) := by decide +kernel
theorem dL_rankOf_12 : decode cL_rankOf 12 = .ok (.astore_n 3, 1) := by decide +kernel
theorem dL_rankOf_13 : decode cL_rankOf 13 = .ok (.iconst 1, 1) := by decide +kernel
theorem dL_rankOf_14 : decode cL_rankOf 14 = .ok (.ireturn, 1) := by decide +kernel
theorem dL_rankOf_15 : decode cL_rankOf 15 = .ok (.iconst 0, 1) := by decide +kernel
theorem dL_rankOf_16 : decode cL_rankOf 16 = .ok (.ireturn, 1) := by decide +kernel
theorem dL_scoreIn_0 : decode cL_scoreIn 0 = .ok (.aload_n 3, 1) := by decide +kernel
theorem dL_scoreIn_1 : decode cL_scoreIn 1 = .ok (.iconst 0, 1) := by decide +kernel
theorem dL_scoreIn_2 : decode cL_scoreIn 2 = .ok (.aload_n 0, 1) := by decide +kernel
theorem dL_scoreIn_3 : decode cL_scoreIn 3 = .ok (.iload_n 1, 1) := by decide +kernel
theorem dL_scoreIn_4 : decode cL_scoreIn 4 = .ok (.iload_n 2, 1) := by decide +kernel
theorem dL_scoreIn_5 : decode cL_scoreIn 5 = .ok (.invokevirtual 64, 3) := by decide +kernel
theorem dL_scoreIn_8 : decode cL_scoreIn 8 = .ok (.i2l, 1) := by decide +kernel
theorem dL_scoreIn_9 : decode cL_scoreIn 9 = .ok (.lastore, 1) := by decide +kernel
theorem dL_scoreIn_10 : decode cL_scoreIn 10 = .ok (.goto 11, 3) := by decide +kernel
theorem dL_scoreIn_13 : decode cL_scoreIn 13 = .ok (.astore 4, 2) := by decide +kernel
theorem dL_scoreIn_15 : decode cL_scoreIn 15 = .ok (.iconst 1, 1) := by decide +kernel
theorem dL_scoreIn_16 : decode cL_scoreIn 16 = .ok (.ireturn, 1) := by decide +kernel
theorem dL_scoreIn_17 : decode cL_scoreIn 17 = .ok (.astore 4, 2) := by decide +kernel
theorem dL_scoreIn_19 : decode cL_scoreIn 19 = .ok (.iconst 2, 1) := by decide +kernel
theorem dL_scoreIn_20 : decode cL_scoreIn 20 = .ok (.ireturn, 1) := by decide +kernel
theorem dL_scoreIn_21 : decode cL_scoreIn 21 = .ok (.iconst 0, 1) := by decide +kernel
theorem dL_scoreIn_22 : decode cL_scoreIn 22 = .ok (.ireturn, 1) := by decide +kernel
theorem dL_turnsUntilMiss_0 : decode cL_turnsUntilMiss 0 = .ok (.aload_n 2, 1) := by decide +kernel
theorem dL_turnsUntilMiss_1 : decode cL_turnsUntilMiss 1 = .ok (.iconst 0, 1) := by decide +kernel
theorem dL_turnsUntilMiss_2 : decode cL_turnsUntilMiss 2 = .ok (.aload_n 0, 1) := by decide +kernel
theorem dL_turnsUntilMiss_3 : decode cL_turnsUntilMiss 3 = .ok (.iload_n 1, 1) := by decide +kernel
theorem dL_turnsUntilMiss_4 : decode cL_turnsUntilMiss 4 = .ok (.invokevirtual 67, 3) := by decide +kernel
theorem dL_turnsUntilMiss_7 : decode cL_turnsUntilMiss 7 = .ok (.i2l, 1) := by decide +kernel
theorem dL_turnsUntilMiss_8 : decode cL_turnsUntilMiss 8 = .ok (.lastore, 1) := by decide +kernel
theorem dL_turnsUntilMiss_9 : decode cL_turnsUntilMiss 9 = .ok (.goto 6, 3) := by decide +kernel
theorem dL_turnsUntilMiss_12 : decode cL_turnsUntilMiss 12 = .ok (.astore_n 3, 1) := by decide +kernel
theorem dL_turnsUntilMiss_13 : decode cL_turnsUntilMiss 13 = .ok (.iconst 1, 1) := by decide +kernel
theorem dL_turnsUntilMiss_14 : decode cL_turnsUntilMiss 14 = .ok (.ireturn, 1) := by decide +kernel
theorem dL_turnsUntilMiss_15 : decode cL_turnsUntilMiss 15 = .ok (.iconst 0, 1) := by decide +kernel
theorem dL_turnsUntilMiss_16 : decode cL_turnsUntilMiss 16 = .ok (.ireturn, 1) := by decide +kernel
theorem dL_leaderIn_0 : decode cL_leaderIn 0 = .ok (.aload_n 2, 1) := by decide +kernel
theorem dL_leaderIn_1 : decode cL_leaderIn 1 = .ok (.iconst 0, 1) := by decide +kernel
theorem dL_leaderIn_2 : decode cL_leaderIn 2 = .ok (.aload_n 0, 1) := by decide +kernel
theorem dL_leaderIn_3 : decode cL_leaderIn 3 = .ok (.iload_n 1, 1) := by decide +kernel
theorem dL_leaderIn_4 : decode cL_leaderIn 4 = .ok (.invokevirtual 70, 3) := by decide +kernel
theorem dL_leaderIn_7 : decode cL_leaderIn 7 = .ok (.i2l, 1) := by decide +kernel
theorem dL_leaderIn_8 : decode cL_leaderIn 8 = .ok (.lastore, 1) := by decide +kernel
theorem dL_leaderIn_9 : decode cL_leaderIn 9 = .ok (.goto 6, 3) := by decide +kernel
theorem dL_leaderIn_12 : decode cL_leaderIn 12 = .ok (.astore_n 3, 1) := by decide +kernel
theorem dL_leaderIn_13 : decode cL_leaderIn 13 = .ok (.iconst 1, 1) := by decide +kernel
theorem dL_leaderIn_14 : decode cL_leaderIn 14 = .ok (.ireturn, 1) := by decide +kernel
theorem dL_leaderIn_15 : decode cL_leaderIn 15 = .ok (.iconst 0, 1) := by decide +kernel
theorem dL_leaderIn_16 : decode cL_leaderIn 16 = .ok (.ireturn, 1) := by decide +kernel
theorem dL_bestRest_0 : decode cL_bestRest 0 = .ok (.aload_n 2, 1) := by decide +kernel
theorem dL_bestRest_1 : decode cL_bestRest 1 = .ok (.iconst 0, 1) := by decide +kernel
theorem dL_bestRest_2 : decode cL_bestRest 2 = .ok (.aload_n 0, 1) := by decide +kernel
theorem dL_bestRest_3 : decode cL_bestRest 3 = .ok (.iload_n 1, 1) := by decide +kernel
theorem dL_bestRest_4 : decode cL_bestRest 4 = .ok (.invokevirtual 73, 3) := by decide +kernel
theorem dL_bestRest_7 : decode cL_bestRest 7 = .ok (.i2l, 1) := by decide +kernel
theorem dL_bestRest_8 : decode cL_bestRest 8 = .ok (.lastore, 1) := by decide +kernel
theorem dL_bestRest_9 : decode cL_bestRest 9 = .ok (.goto 6, 3) := by decide +kernel
theorem dL_bestRest_12 : decode cL_bestRest 12 = .ok (.astore_n 3, 1) := by decide +kernel
theorem dL_bestRest_13 : decode cL_bestRest 13 = .ok (.iconst 1, 1) := by decide +kernel
theorem dL_bestRest_14 : decode cL_bestRest 14 = .ok (.ireturn, 1) := by decide +kernel
theorem dL_bestRest_15 : decode cL_bestRest 15 = .ok (.iconst 0, 1) := by decide +kernel
theorem dL_bestRest_16 : decode cL_bestRest 16 = .ok (.ireturn, 1) := by decide +kernel
theorem dL_swingWanted_0 : decode cL_swingWanted 0 = .ok (.aload_n 2, 1) := by decide +kernel
theorem dL_swingWanted_1 : decode cL_swingWanted 1 = .ok (.iconst 0, 1) := by decide +kernel
theorem dL_swingWanted_2 : decode cL_swingWanted 2 = .ok (.aload_n 0, 1) := by decide +kernel
theorem dL_swingWanted_3 : decode cL_swingWanted 3 = .ok (.iload_n 1, 1) := by decide +kernel
theorem dL_swingWanted_4 : decode cL_swingWanted 4 = .ok (.invokevirtual 76, 3) := by decide +kernel
theorem dL_swingWanted_7 : decode cL_swingWanted 7 = .ok (.i2l, 1) := by decide +kernel
theorem dL_swingWanted_8 : decode cL_swingWanted 8 = .ok (.lastore, 1) := by decide +kernel
theorem dL_swingWanted_9 : decode cL_swingWanted 9 = .ok (.goto 6, 3) := by decide +kernel
theorem dL_swingWanted_12 : decode cL_swingWanted 12 = .ok (.astore_n 3, 1) := by decide +kernel
theorem dL_swingWanted_13 : decode cL_swingWanted 13 = .ok (.iconst 1, 1) := by decide +kernel
theorem dL_swingWanted_14 : decode cL_swingWanted 14 = .ok (.ireturn, 1) := by decide +kernel
theorem dL_swingWanted_15 : decode cL_swingWanted 15 = .ok (.iconst 0, 1) := by decide +kernel
theorem dL_swingWanted_16 : decode cL_swingWanted 16 = .ok (.ireturn, 1) := by decide +kernel
