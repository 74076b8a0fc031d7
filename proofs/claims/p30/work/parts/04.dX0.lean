theorem dX0_init_0 : decode cX0_init 0 = .ok (.aload_n 0, 1) := by decide +kernel
theorem dX0_init_1 : decode cX0_init 1 = .ok (.invokespecial 3, 3) := by decide +kernel
theorem dX0_init_4 : decode cX0_init 4 = .ok (.aload_n 0, 1) := by decide +kernel
theorem dX0_init_5 : decode cX0_init 5 = .ok (.bipush 6, 2) := by decide +kernel
theorem dX0_init_7 : decode cX0_init 7 = .ok (.newarray .int, 2) := by decide +kernel
theorem dX0_init_9 : decode cX0_init 9 = .ok (.putfield 9, 3) := by decide +kernel
theorem dX0_init_12 : decode cX0_init 12 = .ok (.aload_n 0, 1) := by decide +kernel
theorem dX0_init_13 : decode cX0_init 13 = .ok (.bipush 6, 2) := by decide +kernel
theorem dX0_init_15 : decode cX0_init 15 = .ok (.newarray .int, 2) := by decide +kernel
theorem dX0_init_17 : decode cX0_init 17 = .ok (.putfield 15, 3) := by decide +kernel
theorem dX0_init_20 : decode cX0_init 20 = .ok (.aload_n 0, 1) := by decide +kernel
theorem dX0_init_21 : decode cX0_init 21 = .ok (.bipush 6, 2) := by decide +kernel
theorem dX0_init_23 : decode cX0_init 23 = .ok (.newarray .int, 2) := by decide +kernel
theorem dX0_init_25 : decode cX0_init 25 = .ok (.putfield 18, 3) := by decide +kernel
theorem dX0_init_28 : decode cX0_init 28 = .ok (.aload_n 0, 1) := by decide +kernel
theorem dX0_init_29 : decode cX0_init 29 = .ok (.bipush 6, 2) := by decide +kernel
theorem dX0_init_31 : decode cX0_init 31 = .ok (.newarray .int, 2) := by decide +kernel
theorem dX0_init_33 : decode cX0_init 33 = .ok (.putfield 21, 3) := by decide +kernel
theorem dX0_init_36 : decode cX0_init 36 = .ok (.aload_n 0, 1) := by decide +kernel
theorem dX0_init_37 : decode cX0_init 37 = .ok (.bipush 6, 2) := by decide +kernel
theorem dX0_init_39 : decode cX0_init 39 = .ok (.newarray .int, 2) := by decide +kernel
theorem dX0_init_41 : decode cX0_init 41 = .ok (.putfield 24, 3) := by decide +kernel
theorem dX0_init_44 : decode cX0_init 44 = .ok (.aload_n 0, 1) := by decide +kernel
theorem dX0_init_45 : decode cX0_init 45 = .ok (.bipush 6, 2) := by decide +kernel
theorem dX0_init_47 : decode cX0_init 47 = .ok (.newarray .int, 2) := by decide +kernel
theorem dX0_init_49 : decode cX0_init 49 = .ok (.putfield 27, 3) := by decide +kernel
theorem dX0_init_52 : decode cX0_init 52 = .ok (.aload_n 0, 1) := by decide +kernel
theorem dX0_init_53 : decode cX0_init 53 = .ok (.bipush 6, 2) := by decide +kernel
theorem dX0_init_55 : decode cX0_init 55 = .ok (.newarray .boolean, 2) := by decide +kernel
theorem dX0_init_57 : decode cX0_init 57 = .ok (.putfield 30, 3) := by decide +kernel
theorem dX0_init_60 : decode cX0_init 60 = .ok (.aload_n 0, 1) := by decide +kernel
theorem dX0_init_61 : decode cX0_init 61 = .ok (.bipush 6, 2) := by decide +kernel
theorem dX0_init_63 : decode cX0_init 63 = .ok (.newarray .boolean, 2) := by decide +kernel
theorem dX0_init_65 : decode cX0_init 65 = .ok (.putfield 34, 3) := by decide +kernel
theorem dX0_init_68 : decode cX0_init 68 = .ok (.return_, 1) := by decide +kernel
theorem dX0_enter_0 : decode cX0_enter 0 = .ok (.aload_n 0, 1) := by decide +kernel
theorem dX0_enter_1 : decode cX0_enter 1 = .ok (.getfield 37, 3) := by decide +kernel
theorem dX0_enter_4 : decode cX0_enter 4 = .ok (.istore_n 3, 1) := by decide +kernel
theorem dX0_enter_5 : decode cX0_enter 5 = .ok (.aload_n 0, 1) := by decide +kernel
theorem dX0_enter_6 : decode cX0_enter 6 = .ok (.getfield 9, 3) := by decide +kernel
theorem dX0_enter_9 : decode cX0_enter 9 = .ok (.iload_n 3, 1) := by decide +kernel
theorem dX0_enter_10 : decode cX0_enter 10 = .ok (.iload_n 1, 1) := by decide +kernel
theorem dX0_enter_11 : decode cX0_enter 11 = .ok (.iastore, 1) := by decide +kernel
theorem dX0_enter_12 : decode cX0_enter 12 = .ok (.aload_n 0, 1) := by decide +kernel
theorem dX0_enter_13 : decode cX0_enter 13 = .ok (.getfield 15, 3) := by decide +kernel
theorem dX0_enter_16 : decode cX0_enter 16 = .ok (.iload_n 3, 1) := by decide +kernel
theorem dX0_enter_17 : decode cX0_enter 17 = .ok (.iload_n 2, 1) := by decide +kernel
theorem dX0_enter_18 : decode cX0_enter 18 = .ok (.iastore, 1) := by decide +kernel
theorem dX0_enter_19 : decode cX0_enter 19 = .ok (.aload_n 0, 1) := by decide +kernel
theorem dX0_enter_20 : decode cX0_enter 20 = .ok (.iload_n 3, 1) := by decide +kernel
theorem dX0_enter_21 : decode cX0_enter 21 = .ok (.iconst 1, 1) := by decide +kernel
theorem dX0_enter_22 : decode cX0_enter 22 = .ok (.iadd, 1) := by decide +kernel
theorem dX0_enter_23 : decode cX0_enter 23 = .ok (.putfield 37, 3) := by decide +kernel
theorem dX0_enter_26 : decode cX0_enter 26 = .ok (.iload_n 3, 1) := by decide +kernel
theorem dX0_enter_27 : decode cX0_enter 27 = .ok (.ireturn, 1) := by decide +kernel
theorem dX0_takeOver_0 : decode cX0_takeOver 0 = .ok (.aload_n 0, 1) := by decide +kernel
theorem dX0_takeOver_1 : decode cX0_takeOver 1 = .ok (.aload_n 1, 1) := by decide +kernel
theorem dX0_takeOver_2 : decode cX0_takeOver 2 = .ok (.getfield 37, 3) := by decide +kernel
theorem dX0_takeOver_5 : decode cX0_takeOver 5 = .ok (.putfield 37, 3) := by decide +kernel
theorem dX0_takeOver_8 : decode cX0_takeOver 8 = .ok (.iconst 0, 1) := by decide +kernel
theorem dX0_takeOver_9 : decode cX0_takeOver 9 = .ok (.istore_n 2, 1) := by decide +kernel
theorem dX0_takeOver_10 : decode cX0_takeOver 10 = .ok (.iload_n 2, 1) := by decide +kernel
theorem dX0_takeOver_11 : decode cX0_takeOver 11 = .ok (.aload_n 0, 1) := by decide +kernel
theorem dX0_takeOver_12 : decode cX0_takeOver 12 = .ok (.getfield 37, 3) := by decide +kernel
theorem dX0_takeOver_15 : decode cX0_takeOver 15 = .ok (.if_icmp .ge 81, 3) := by decide +kernel
theorem dX0_takeOver_18 : decode cX0_takeOver 18 = .ok (.aload_n 0, 1) := by decide +kernel
theorem dX0_takeOver_19 : decode cX0_takeOver 19 = .ok (.getfield 9, 3) := by decide +kernel
theorem dX0_takeOver_22 : decode cX0_takeOver 22 = .ok (.iload_n 2, 1) := by decide +kernel
theorem dX0_takeOver_23 : decode cX0_takeOver 23 = .ok (.aload_n 1, 1) := by decide +kernel
theorem dX0_takeOver_24 : decode cX0_takeOver 24 = .ok (.getfield 9, 3) := by decide +kernel
theorem dX0_takeOver_27 : decode cX0_takeOver 27 = .ok (.iload_n 2, 1) := by decide +kernel
theorem dX0_takeOver_28 : decode cX0_takeOver 28 = .ok (.iaload, 1) := by decide +kernel
theorem dX0_takeOver_29 : decode cX0_takeOver 29 = .ok (.iastore, 1) := by decide +kernel
theorem dX0_takeOver_30 : decode cX0_takeOver 30 = .ok (.aload_n 0, 1) := by decide +kernel
theorem dX0_takeOver_31 : decode cX0_takeOver 31 = .ok (.getfield 15, 3) := by decide +kernel
theorem dX0_takeOver_34 : decode cX0_takeOver 34 = .ok (.iload_n 2, 1) := by decide +kernel
theorem dX0_takeOver_35 : decode cX0_takeOver 35 = .ok (.aload_n 1, 1) := by decide +kernel
theorem dX0_takeOver_36 : decode cX0_takeOver 36 = .ok (.getfield 15, 3) := by decide +kernel
theorem dX0_takeOver_39 : decode cX0_takeOver 39 = .ok (.iload_n 2, 1) := by decide +kernel
theorem dX0_takeOver_40 : decode cX0_takeOver 40 = .ok (.iaload, 1) := by decide +kernel
theorem dX0_takeOver_41 : decode cX0_takeOver 41 = .ok (.iastore, 1) := by decide +kernel
theorem dX0_takeOver_42 : decode cX0_takeOver 42 = .ok (.aload_n 0, 1) := by decide +kernel
theorem dX0_takeOver_43 : decode cX0_takeOver 43 = .ok (.getfield 18, 3) := by decide +kernel
theorem dX0_takeOver_46 : decode cX0_takeOver 46 = .ok (.iload_n 2, 1) := by decide +kernel
theorem dX0_takeOver_47 : decode cX0_takeOver 47 = .ok (.aload_n 1, 1) := by decide +kernel
theorem dX0_takeOver_48 : decode cX0_takeOver 48 = .ok (.getfield 18, 3) := by decide +kernel
theorem dX0_takeOver_51 : decode cX0_takeOver 51 = .ok (.iload_n 2, 1) := by decide +kernel
theorem dX0_takeOver_52 : decode cX0_takeOver 52 = .ok (.iaload, 1) := by decide +kernel
theorem dX0_takeOver_53 : decode cX0_takeOver 53 = .ok (.iastore, 1) := by decide +kernel
theorem dX0_takeOver_54 : decode cX0_takeOver 54 = .ok (.aload_n 0, 1) := by decide +kernel
theorem dX0_takeOver_55 : decode cX0_takeOver 55 = .ok (.getfield 21, 3) := by decide +kernel
theorem dX0_takeOver_58 : decode cX0_takeOver 58 = .ok (.iload_n 2, 1) := by decide +kernel
theorem dX0_takeOver_59 : decode cX0_takeOver 59 = .ok (.aload_n 1, 1) := by decide +kernel
theorem dX0_takeOver_60 : decode cX0_takeOver 60 = .ok (.getfield 21, 3) := by decide +kernel
theorem dX0_takeOver_63 : decode cX0_takeOver 63 = .ok (.iload_n 2, 1) := by decide +kernel
theorem dX0_takeOver_64 : decode cX0_takeOver 64 = .ok (.iaload, 1) := by decide +kernel
theorem dX0_takeOver_65 : decode cX0_takeOver 65 = .ok (.iastore, 1) := by decide +kernel
theorem dX0_takeOver_66 : decode cX0_takeOver 66 = .ok (.aload_n 0, 1) := by decide +kernel
theorem dX0_takeOver_67 : decode cX0_takeOver 67 = .ok (.getfield 24, 3) := by decide +kernel
theorem dX0_takeOver_70 : decode cX0_takeOver 70 = .ok (.iload_n 2, 1) := by decide +kernel
theorem dX0_takeOver_71 : decode cX0_takeOver 71 = .ok (.aload_n 1, 1) := by decide +kernel
theorem dX0_takeOver_72 : decode cX0_takeOver 72 = .ok (.getfield 24, 3) := by decide +kernel
theorem dX0_takeOver_75 : decode cX0_takeOver 75 = .ok (.iload_n 2, 1) := by decide +kernel
theorem dX0_takeOver_76 : decode cX0_takeOver 76 = .ok (.iaload, 1) := by decide +kernel
theorem dX0_takeOver_77 : decode cX0_takeOver 77 = .ok (.iastore, 1) := by decide +kernel
theorem dX0_takeOver_78 : decode cX0_takeOver 78 = .ok (.aload_n 0, 1) := by decide +kernel
theorem dX0_takeOver_79 : decode cX0_takeOver 79 = .ok (.getfield 27, 3) := by decide +kernel
theorem dX0_takeOver_82 : decode cX0_takeOver 82 = .ok (.iload_n 2, 1) := by decide +kernel
theorem dX0_takeOver_83 : decode cX0_takeOver 83 = .ok (.aload_n 1, 1) := by decide +kernel
theorem dX0_takeOver_84 : decode cX0_takeOver 84 = .ok (.getfield 27, 3) := by decide +kernel
theorem dX0_takeOver_87 : decode cX0_takeOver 87 = .ok (.iload_n 2, 1) := by decide +kernel
theorem dX0_takeOver_88 : decode cX0_takeOver 88 = .ok (.iaload, 1) := by decide +kernel
theorem dX0_takeOver_89 : decode cX0_takeOver 89 = .ok (.iastore, 1) := by decide +kernel
theorem dX0_takeOver_90 : decode cX0_takeOver 90 = .ok (.iinc 2 1, 3) := by decide +kernel
theorem dX0_takeOver_93 : decode cX0_takeOver 93 = .ok (.goto (-83), 3) := by decide +kernel
theorem dX0_takeOver_96 : decode cX0_takeOver 96 = .ok (.return_, 1) := by decide +kernel
theorem dX0_trouble_0 : decode cX0_trouble 0 = .ok (.aload_n 0, 1) := by decide +kernel
theorem dX0_trouble_1 : decode cX0_trouble 1 = .ok (.getfield 15, 3) := by decide +kernel
theorem dX0_trouble_4 : decode cX0_trouble 4 = .ok (.iload_n 1, 1) := by decide +kernel
theorem dX0_trouble_5 : decode cX0_trouble 5 = .ok (.iaload, 1) := by decide +kernel
theorem dX0_trouble_6 : decode cX0_trouble 6 = .ok (.istore_n 3, 1) := by decide +kernel
theorem dX0_trouble_7 : decode cX0_trouble 7 = .ok (.iload_n 3, 1) := by decide +kernel
theorem dX0_trouble_8 : decode cX0_trouble 8 = .ok (.iconst 1, 1) := by decide +kernel
theorem dX0_trouble_9 : decode cX0_trouble 9 = .ok (.if_icmp .ge 7, 3) := by decide +kernel
theorem dX0_trouble_12 : decode cX0_trouble 12 = .ok (.iload_n 2, 1) := by decide +kernel
theorem dX0_trouble_13 : decode cX0_trouble 13 = .ok (.goto 13, 3) := by decide +kernel
theorem dX0_trouble_16 : decode cX0_trouble 16 = .ok (.iload_n 2, 1) := by decide +kernel
theorem dX0_trouble_17 : decode cX0_trouble 17 = .ok (.aload_n 0, 1) := by decide +kernel
theorem dX0_trouble_18 : decode cX0_trouble 18 = .ok (.getfield 18, 3) := by decide +kernel
theorem dX0_trouble_21 : decode cX0_trouble 21 = .ok (.iload_n 1, 1) := by decide +kernel
theorem dX0_trouble_22 : decode cX0_trouble 22 = .ok (.iaload, 1) := by decide +kernel
theorem dX0_trouble_23 : decode cX0_trouble 23 = .ok (.iload_n 3, 1) := by decide +kernel
theorem dX0_trouble_24 : decode cX0_trouble 24 = .ok (.idiv, 1) := by decide +kernel
theorem dX0_trouble_25 : decode cX0_trouble 25 = .ok (.iadd, 1) := by decide +kernel
theorem dX0_trouble_26 : decode cX0_trouble 26 = .ok (.ireturn, 1) := by decide +kernel
theorem dX0_outcome_0 : decode cX0_outcome 0 = .ok (.aload_n 0, 1) := by decide +kernel
theorem dX0_outcome_1 : decode cX0_outcome 1 = .ok (.iload_n 1, 1) := by decide +kernel
theorem dX0_outcome_2 : decode cX0_outcome 2 = .ok (.iload_n 2, 1) := by decide +kernel
theorem dX0_outcome_3 : decode cX0_outcome 3 = .ok (.invokevirtual 41, 3) := by decide +kernel
theorem dX0_outcome_6 : decode cX0_outcome 6 = .ok (.aload_n 0, 1) := by decide +kernel
theorem dX0_outcome_7 : decode cX0_outcome 7 = .ok (.getfield 9, 3) := by decide +kernel
theorem dX0_outcome_10 : decode cX0_outcome 10 = .ok (.iload_n 1, 1) := by decide +kernel
theorem dX0_outcome_11 : decode cX0_outcome 11 = .ok (.iaload, 1) := by decide +kernel
theorem dX0_outcome_12 : decode cX0_outcome 12 = .ok (.if_icmp .gt 5, 3) := by decide +kernel
theorem dX0_outcome_15 : decode cX0_outcome 15 = .ok (.iconst 2, 1) := by decide +kernel
theorem dX0_outcome_16 : decode cX0_outcome 16 = .ok (.ireturn, 1) := by decide +kernel
theorem dX0_outcome_17 : decode cX0_outcome 17 = .ok (.iload_n 2, 1) := by decide +kernel
theorem dX0_outcome_18 : decode cX0_outcome 18 = .ok (.aload_n 0, 1) := by decide +kernel
theorem dX0_outcome_19 : decode cX0_outcome 19 = .ok (.getfield 9, 3) := by decide +kernel
theorem dX0_outcome_22 : decode cX0_outcome 22 = .ok (.iload_n 1, 1) := by decide +kernel
theorem dX0_outcome_23 : decode cX0_outcome 23 = .ok (.iaload, 1) := by decide +kernel
theorem dX0_outcome_24 : decode cX0_outcome 24 = .ok (.if_icmp .gt 7, 3) := by decide +kernel
theorem dX0_outcome_27 : decode cX0_outcome 27 = .ok (.iconst 1, 1) := by decide +kernel
theorem dX0_outcome_28 : decode cX0_outcome 28 = .ok (.goto 4, 3) := by decide +kernel
theorem dX0_outcome_31 : decode cX0_outcome 31 = .ok (.iconst 0, 1) := by decide +kernel
theorem dX0_outcome_32 : decode cX0_outcome 32 = .ok (.ireturn, 1) := by decide +kernel
theorem dX0_shoot_0 : decode cX0_shoot 0 = .ok (.aload_n 0, 1) := by decide +kernel
theorem dX0_shoot_1 : decode cX0_shoot 1 = .ok (.iload_n 1, 1) := by decide +kernel
theorem dX0_shoot_2 : decode cX0_shoot 2 = .ok (.iload_n 2, 1) := by decide +kernel
theorem dX0_shoot_3 : decode cX0_shoot 3 = .ok (.invokevirtual 45, 3) := by decide +kernel
theorem dX0_shoot_6 : decode cX0_shoot 6 = .ok (.istore_n 3, 1) := by decide +kernel
theorem dX0_shoot_7 : decode cX0_shoot 7 = .ok (.aload_n 0, 1) := by decide +kernel
theorem dX0_shoot_8 : decode cX0_shoot 8 = .ok (.getfield 21, 3) := by decide +kernel
theorem dX0_shoot_11 : decode cX0_shoot 11 = .ok (.iload_n 1, 1) := by decide +kernel
theorem dX0_shoot_12 : decode cX0_shoot 12 = .ok (.dup2, 1) := by decide +kernel
theorem dX0_shoot_13 : decode cX0_shoot 13 = .ok (.iaload, 1) := by decide +kernel
theorem dX0_shoot_14 : decode cX0_shoot 14 = .ok (.iload_n 3, 1) := by decide +kernel
theorem dX0_shoot_15 : decode cX0_shoot 15 = .ok (.iadd, 1) := by decide +kernel
theorem dX0_shoot_16 : decode cX0_shoot 16 = .ok (.iastore, 1) := by decide +kernel
theorem dX0_shoot_17 : decode cX0_shoot 17 = .ok (.aload_n 0, 1) := by decide +kernel
theorem dX0_shoot_18 : decode cX0_shoot 18 = .ok (.getfield 18, 3) := by decide +kernel
theorem dX0_shoot_21 : decode cX0_shoot 21 = .ok (.iload_n 1, 1) := by decide +kernel
theorem dX0_shoot_22 : decode cX0_shoot 22 = .ok (.dup2, 1) := by decide +kernel
theorem dX0_shoot_23 : decode cX0_shoot 23 = .ok (.iaload, 1) := by decide +kernel
theorem dX0_shoot_24 : decode cX0_shoot 24 = .ok (.iload_n 3, 1) := by decide +kernel
theorem dX0_shoot_25 : decode cX0_shoot 25 = .ok (.iconst 2, 1) := by decide +kernel
theorem dX0_shoot_26 : decode cX0_shoot 26 = .ok (.if_icmp .ne 7, 3) := by decide +kernel
theorem dX0_shoot_29 : decode cX0_shoot 29 = .ok (.iconst 1, 1) := by decide +kernel
theorem dX0_shoot_30 : decode cX0_shoot 30 = .ok (.goto 4, 3) := by decide +kernel
theorem dX0_shoot_33 : decode cX0_shoot 33 = .ok (.iconst 2, 1) := by decide +kernel
theorem dX0_shoot_34 : decode cX0_shoot 34 = .ok (.iadd, 1) := by decide +kernel
theorem dX0_shoot_35 : decode cX0_shoot 35 = .ok (.iastore, 1) := by decide +kernel
theorem dX0_shoot_36 : decode cX0_shoot 36 = .ok (.iload_n 3, 1) := by decide +kernel
theorem dX0_shoot_37 : decode cX0_shoot 37 = .ok (.iconst 2, 1) := by decide +kernel
theorem dX0_shoot_38 : decode cX0_shoot 38 = .ok (.if_icmp .ne 13, 3) := by decide +kernel
theorem dX0_shoot_41 : decode cX0_shoot 41 = .ok (.aload_n 0, 1) := by decide +kernel
theorem dX0_shoot_42 : decode cX0_shoot 42 = .ok (.getfield 24, 3) := by decide +kernel
theorem dX0_shoot_45 : decode cX0_shoot 45 = .ok (.iload_n 1, 1) := by decide +kernel
theorem dX0_shoot_46 : decode cX0_shoot 46 = .ok (.dup2, 1) := by decide +kernel
theorem dX0_shoot_47 : decode cX0_shoot 47 = .ok (.iaload, 1) := by decide +kernel
theorem dX0_shoot_48 : decode cX0_shoot 48 = .ok (.iconst 1, 1) := by decide +kernel
theorem dX0_shoot_49 : decode cX0_shoot 49 = .ok (.iadd, 1) := by decide +kernel
theorem dX0_shoot_50 : decode cX0_shoot 50 = .ok (.iastore, 1) := by decide +kernel
theorem dX0_shoot_51 : decode cX0_shoot 51 = .ok (.iload_n 3, 1) := by decide +kernel
theorem dX0_shoot_52 : decode cX0_shoot 52 = .ok (.ifCond .ne 13, 3) := by decide +kernel
theorem dX0_shoot_55 : decode cX0_shoot 55 = .ok (.aload_n 0, 1) := by decide +kernel
theorem dX0_shoot_56 : decode cX0_shoot 56 = .ok (.getfield 27, 3) := by decide +kernel
theorem dX0_shoot_59 : decode cX0_shoot 59 = .ok (.iload_n 1, 1) := by decide +kernel
theorem dX0_shoot_60 : decode cX0_shoot 60 = .ok (.dup2, 1) := by decide +kernel
theorem dX0_shoot_61 : decode cX0_shoot 61 = .ok (.iaload, 1) := by decide +kernel
theorem dX0_shoot_62 : decode cX0_shoot 62 = .ok (.iconst 1, 1) := by decide +kernel
theorem dX0_shoot_63 : decode cX0_shoot 63 = .ok (.iadd, 1) := by decide +kernel
theorem dX0_shoot_64 : decode cX0_shoot 64 = .ok (.iastore, 1) := by decide +kernel
theorem dX0_shoot_65 : decode cX0_shoot 65 = .ok (.return_, 1) := by decide +kernel
theorem dX0_playAlone_0 : decode cX0_playAlone 0 = .ok (.iconst 0, 1) := by decide +kernel
theorem dX0_playAlone_1 : decode cX0_playAlone 1 = .ok (.istore 5, 2) := by decide +kernel
theorem dX0_playAlone_3 : decode cX0_playAlone 3 = .ok (.iload 5, 2) := by decide +kernel
theorem dX0_playAlone_5 : decode cX0_playAlone 5 = .ok (.iload 4, 2) := by decide +kernel
theorem dX0_playAlone_7 : decode cX0_playAlone 7 = .ok (.if_icmp .ge 54, 3) := by decide +kernel
theorem dX0_playAlone_10 : decode cX0_playAlone 10 = .ok (.iload_n 3, 1) := by decide +kernel
theorem dX0_playAlone_11 : decode cX0_playAlone 11 = .ok (.iload 5, 2) := by decide +kernel
theorem dX0_playAlone_13 : decode cX0_playAlone 13 = .ok (.iadd, 1) := by decide +kernel
theorem dX0_playAlone_14 : decode cX0_playAlone 14 = .ok (.istore 6, 2) := by decide +kernel
theorem dX0_playAlone_16 : decode cX0_playAlone 16 = .ok (.aload_n 0, 1) := by decide +kernel
theorem dX0_playAlone_17 : decode cX0_playAlone 17 = .ok (.iload_n 2, 1) := by decide +kernel
theorem dX0_playAlone_18 : decode cX0_playAlone 18 = .ok (.aload_n 1, 1) := by decide +kernel
theorem dX0_playAlone_19 : decode cX0_playAlone 19 = .ok (.iload 6, 2) := by decide +kernel
theorem dX0_playAlone_21 : decode cX0_playAlone 21 = .ok (.iload_n 2, 1) := by decide +kernel
theorem dX0_playAlone_22 : decode cX0_playAlone 22 = .ok (.invokevirtual 48, 3) := by decide +kernel
theorem dX0_playAlone_25 : decode cX0_playAlone 25 = .ok (.invokevirtual 53, 3) := by decide +kernel
theorem dX0_playAlone_28 : decode cX0_playAlone 28 = .ok (.iload 6, 2) := by decide +kernel
theorem dX0_playAlone_30 : decode cX0_playAlone 30 = .ok (.invokestatic 57, 3) := by decide +kernel
theorem dX0_playAlone_33 : decode cX0_playAlone 33 = .ok (.iconst 4, 1) := by decide +kernel
theorem dX0_playAlone_34 : decode cX0_playAlone 34 = .ok (.if_icmp .ne 21, 3) := by decide +kernel
theorem dX0_playAlone_37 : decode cX0_playAlone 37 = .ok (.aload_n 0, 1) := by decide +kernel
theorem dX0_playAlone_38 : decode cX0_playAlone 38 = .ok (.getfield 18, 3) := by decide +kernel
theorem dX0_playAlone_41 : decode cX0_playAlone 41 = .ok (.iload_n 2, 1) := by decide +kernel
theorem dX0_playAlone_42 : decode cX0_playAlone 42 = .ok (.iconst 0, 1) := by decide +kernel
theorem dX0_playAlone_43 : decode cX0_playAlone 43 = .ok (.aload_n 0, 1) := by decide +kernel
theorem dX0_playAlone_44 : decode cX0_playAlone 44 = .ok (.getfield 18, 3) := by decide +kernel
theorem dX0_playAlone_47 : decode cX0_playAlone 47 = .ok (.iload_n 2, 1) := by decide +kernel
theorem dX0_playAlone_48 : decode cX0_playAlone 48 = .ok (.iaload, 1) := by decide +kernel
theorem dX0_playAlone_49 : decode cX0_playAlone 49 = .ok (.iconst 3, 1) := by decide +kernel
theorem dX0_playAlone_50 : decode cX0_playAlone 50 = .ok (.isub, 1) := by decide +kernel
theorem dX0_playAlone_51 : decode cX0_playAlone 51 = .ok (.invokestatic 61, 3) := by decide +kernel
theorem dX0_playAlone_54 : decode cX0_playAlone 54 = .ok (.iastore, 1) := by decide +kernel
theorem dX0_playAlone_55 : decode cX0_playAlone 55 = .ok (.iinc 5 1, 3) := by decide +kernel
theorem dX0_playAlone_58 : decode cX0_playAlone 58 = .ok (.goto (-55), 3) := by decide +kernel
theorem dX0_playAlone_61 : decode cX0_playAlone 61 = .ok (.return_, 1) := by decide +kernel
theorem dX0_play_0 : decode cX0_play 0 = .ok (.iconst 0, 1) := by decide +kernel
theorem dX0_play_1 : decode cX0_play 1 = .ok (.istore 4, 2) := by decide +kernel
theorem dX0_play_3 : decode cX0_play 3 = .ok (.iconst 0, 1) := by decide +kernel
theorem dX0_play_4 : decode cX0_play 4 = .ok (.istore 5, 2) := by decide +kernel
theorem dX0_play_6 : decode cX0_play 6 = .ok (.iload 5, 2) := by decide +kernel
theorem dX0_play_8 : decode cX0_play 8 = .ok (.aload_n 0, 1) := by decide +kernel
theorem dX0_play_9 : decode cX0_play 9 = .ok (.getfield 37, 3) := by decide +kernel
theorem dX0_play_12 : decode cX0_play 12 = .ok (.if_icmp .ge 42, 3) := by decide +kernel
theorem dX0_play_15 : decode cX0_play 15 = .ok (.aload_n 0, 1) := by decide +kernel
theorem dX0_play_16 : decode cX0_play 16 = .ok (.getfield 27, 3) := by decide +kernel
theorem dX0_play_19 : decode cX0_play 19 = .ok (.iload 5, 2) := by decide +kernel
theorem dX0_play_21 : decode cX0_play 21 = .ok (.iaload, 1) := by decide +kernel
theorem dX0_play_22 : decode cX0_play 22 = .ok (.istore 6, 2) := by decide +kernel
theorem dX0_play_24 : decode cX0_play 24 = .ok (.aload_n 0, 1) := by decide +kernel
theorem dX0_play_25 : decode cX0_play 25 = .ok (.aload_n 1, 1) := by decide +kernel
theorem dX0_play_26 : decode cX0_play 26 = .ok (.iload 5, 2) := by decide +kernel
theorem dX0_play_28 : decode cX0_play 28 = .ok (.iload_n 2, 1) := by decide +kernel
theorem dX0_play_29 : decode cX0_play 29 = .ok (.iload_n 3, 1) := by decide +kernel
theorem dX0_play_30 : decode cX0_play 30 = .ok (.invokevirtual 66, 3) := by decide +kernel
theorem dX0_play_33 : decode cX0_play 33 = .ok (.iload 4, 2) := by decide +kernel
theorem dX0_play_35 : decode cX0_play 35 = .ok (.aload_n 0, 1) := by decide +kernel
theorem dX0_play_36 : decode cX0_play 36 = .ok (.getfield 27, 3) := by decide +kernel
theorem dX0_play_39 : decode cX0_play 39 = .ok (.iload 5, 2) := by decide +kernel
theorem dX0_play_41 : decode cX0_play 41 = .ok (.iaload, 1) := by decide +kernel
theorem dX0_play_42 : decode cX0_play 42 = .ok (.iload 6, 2) := by decide +kernel
theorem dX0_play_44 : decode cX0_play 44 = .ok (.isub, 1) := by decide +kernel
theorem dX0_play_45 : decode cX0_play 45 = .ok (.iadd, 1) := by decide +kernel
theorem dX0_play_46 : decode cX0_play 46 = .ok (.istore 4, 2) := by decide +kernel
theorem dX0_play_48 : decode cX0_play 48 = .ok (.iinc 5 1, 3) := by decide +kernel
theorem dX0_play_51 : decode cX0_play 51 = .ok (.goto (-45), 3) := by decide +kernel
theorem dX0_play_54 : decode cX0_play 54 = .ok (.iload 4, 2) := by decide +kernel
theorem dX0_play_56 : decode cX0_play 56 = .ok (.ireturn, 1) := by decide +kernel
theorem dX0_leading_0 : decode cX0_leading 0 = .ok (.iconst (-1), 1) := by decide +kernel
theorem dX0_leading_1 : decode cX0_leading 1 = .ok (.istore_n 1, 1) := by decide +kernel
theorem dX0_leading_2 : decode cX0_leading 2 = .ok (.iconst 0, 1) := by decide +kernel
theorem dX0_leading_3 : decode cX0_leading 3 = .ok (.istore_n 2, 1) := by decide +kernel
theorem dX0_leading_4 : decode cX0_leading 4 = .ok (.iload_n 2, 1) := by decide +kernel
theorem dX0_leading_5 : decode cX0_leading 5 = .ok (.aload_n 0, 1) := by decide +kernel
theorem dX0_leading_6 : decode cX0_leading 6 = .ok (.getfield 37, 3) := by decide +kernel
theorem dX0_leading_9 : decode cX0_leading 9 = .ok (.if_icmp .ge 31, 3) := by decide +kernel
theorem dX0_leading_12 : decode cX0_leading 12 = .ok (.iload_n 1, 1) := by decide +kernel
theorem dX0_leading_13 : decode cX0_leading 13 = .ok (.iconst (-1), 1) := by decide +kernel
theorem dX0_leading_14 : decode cX0_leading 14 = .ok (.if_icmp .eq 18, 3) := by decide +kernel
theorem dX0_leading_17 : decode cX0_leading 17 = .ok (.aload_n 0, 1) := by decide +kernel
theorem dX0_leading_18 : decode cX0_leading 18 = .ok (.getfield 21, 3) := by decide +kernel
theorem dX0_leading_21 : decode cX0_leading 21 = .ok (.iload_n 2, 1) := by decide +kernel
theorem dX0_leading_22 : decode cX0_leading 22 = .ok (.iaload, 1) := by decide +kernel
theorem dX0_leading_23 : decode cX0_leading 23 = .ok (.aload_n 0, 1) := by decide +kernel
theorem dX0_leading_24 : decode cX0_leading 24 = .ok (.getfield 21, 3) := by decide +kernel
theorem dX0_leading_27 : decode cX0_leading 27 = .ok (.iload_n 1, 1) := by decide +kernel
theorem dX0_leading_28 : decode cX0_leading 28 = .ok (.iaload, 1) := by decide +kernel
theorem dX0_leading_29 : decode cX0_leading 29 = .ok (.if_icmp .le 5, 3) := by decide +kernel
theorem dX0_leading_32 : decode cX0_leading 32 = .ok (.iload_n 2, 1) := by decide +kernel
theorem dX0_leading_33 : decode cX0_leading 33 = .ok (.istore_n 1, 1) := by decide +kernel
theorem dX0_leading_34 : decode cX0_leading 34 = .ok (.iinc 2 1, 3) := by decide +kernel
theorem dX0_leading_37 : decode cX0_leading 37 = .ok (.goto (-33), 3) := by decide +kernel
theorem dX0_leading_40 : decode cX0_leading 40 = .ok (.iload_n 1, 1) := by decide +kernel
theorem dX0_leading_41 : decode cX0_leading 41 = .ok (.ireturn, 1) := by decide +kernel
theorem dX0_countTied_0 : decode cX0_countTied 0 = .ok (.aload_n 0, 1) := by decide +kernel
theorem dX0_countTied_1 : decode cX0_countTied 1 = .ok (.invokevirtual 70, 3) := by decide +kernel
theorem dX0_countTied_4 : decode cX0_countTied 4 = .ok (.istore_n 1, 1) := by decide +kernel
theorem dX0_countTied_5 : decode cX0_countTied 5 = .ok (.iconst 0, 1) := by decide +kernel
theorem dX0_countTied_6 : decode cX0_countTied 6 = .ok (.istore_n 2, 1) := by decide +kernel
theorem dX0_countTied_7 : decode cX0_countTied 7 = .ok (.iconst 0, 1) := by decide +kernel
theorem dX0_countTied_8 : decode cX0_countTied 8 = .ok (.istore_n 3, 1) := by decide +kernel
theorem dX0_countTied_9 : decode cX0_countTied 9 = .ok (.iload_n 3, 1) := by decide +kernel
theorem dX0_countTied_10 : decode cX0_countTied 10 = .ok (.aload_n 0, 1) := by decide +kernel
theorem dX0_countTied_11 : decode cX0_countTied 11 = .ok (.getfield 37, 3) := by decide +kernel
theorem dX0_countTied_14 : decode cX0_countTied 14 = .ok (.if_icmp .ge 32, 3) := by decide +kernel
theorem dX0_countTied_17 : decode cX0_countTied 17 = .ok (.iload_n 1, 1) := by decide +kernel
theorem dX0_countTied_18 : decode cX0_countTied 18 = .ok (.iconst (-1), 1) := by decide +kernel
theorem dX0_countTied_19 : decode cX0_countTied 19 = .ok (.if_icmp .eq 21, 3) := by decide +kernel
theorem dX0_countTied_22 : decode cX0_countTied 22 = .ok (.aload_n 0, 1) := by decide +kernel
theorem dX0_countTied_23 : decode cX0_countTied 23 = .ok (.getfield 21, 3) := by decide +kernel
theorem dX0_countTied_26 : decode cX0_countTied 26 = .ok (.iload_n 3, 1) := by decide +kernel
theorem dX0_countTied_27 : decode cX0_countTied 27 = .ok (.iaload, 1) := by decide +kernel
theorem dX0_countTied_28 : decode cX0_countTied 28 = .ok (.aload_n 0, 1) := by decide +kernel
theorem dX0_countTied_29 : decode cX0_countTied 29 = .ok (.getfield 21, 3) := by decide +kernel
theorem dX0_countTied_32 : decode cX0_countTied 32 = .ok (.iload_n 1, 1) := by decide +kernel
theorem dX0_countTied_33 : decode cX0_countTied 33 = .ok (.iaload, 1) := by decide +kernel
theorem dX0_countTied_34 : decode cX0_countTied 34 = .ok (.if_icmp .ne 6, 3) := by decide +kernel
theorem dX0_countTied_37 : decode cX0_countTied 37 = .ok (.iinc 2 1, 3) := by decide +kernel
theorem dX0_countTied_40 : decode cX0_countTied 40 = .ok (.iinc 3 1, 3) := by decide +kernel
theorem dX0_countTied_43 : decode cX0_countTied 43 = .ok (.goto (-34), 3) := by decide +kernel
theorem dX0_countTied_46 : decode cX0_countTied 46 = .ok (.iload_n 2, 1) := by decide +kernel
theorem dX0_countTied_47 : decode cX0_countTied 47 = .ok (.ireturn, 1) := by decide +kernel
theorem dX0_countAbove_0 : decode cX0_countAbove 0 = .ok (.iconst 0, 1) := by decide +kernel
theorem dX0_countAbove_1 : decode cX0_countAbove 1 = .ok (.istore_n 2, 1) := by decide +kernel
theorem dX0_countAbove_2 : decode cX0_countAbove 2 = .ok (.iconst 0, 1) := by decide +kernel
theorem dX0_countAbove_3 : decode cX0_countAbove 3 = .ok (.istore_n 3, 1) := by decide +kernel
theorem dX0_countAbove_4 : decode cX0_countAbove 4 = .ok (.iload_n 3, 1) := by decide +kernel
theorem dX0_countAbove_5 : decode cX0_countAbove 5 = .ok (.aload_n 0, 1) := by decide +kernel
theorem dX0_countAbove_6 : decode cX0_countAbove 6 = .ok (.getfield 37, 3) := by decide +kernel
theorem dX0_countAbove_9 : decode cX0_countAbove 9 = .ok (.if_icmp .ge 22, 3) := by decide +kernel
theorem dX0_countAbove_12 : decode cX0_countAbove 12 = .ok (.aload_n 0, 1) := by decide +kernel
theorem dX0_countAbove_13 : decode cX0_countAbove 13 = .ok (.getfield 21, 3) := by decide +kernel
theorem dX0_countAbove_16 : decode cX0_countAbove 16 = .ok (.iload_n 3, 1) := by decide +kernel
theorem dX0_countAbove_17 : decode cX0_countAbove 17 = .ok (.iaload, 1) := by decide +kernel
theorem dX0_countAbove_18 : decode cX0_countAbove 18 = .ok (.iload_n 1, 1) := by decide +kernel
theorem dX0_countAbove_19 : decode cX0_countAbove 19 = .ok (.if_icmp .le 6, 3) := by decide +kernel
theorem dX0_countAbove_22 : decode cX0_countAbove 22 = .ok (.iinc 2 1, 3) := by decide +kernel
theorem dX0_countAbove_25 : decode cX0_countAbove 25 = .ok (.iinc 3 1, 3) := by decide +kernel
theorem dX0_countAbove_28 : decode cX0_countAbove 28 = .ok (.goto (-24), 3) := by decide +kernel
theorem dX0_countAbove_31 : decode cX0_countAbove 31 = .ok (.iload_n 2, 1) := by decide +kernel
theorem dX0_countAbove_32 : decode cX0_countAbove 32 = .ok (.ireturn, 1) := by decide +kernel
theorem dX0_totalScore_0 : decode cX0_totalScore 0 = .ok (.iconst 0, 1) := by decide +kernel
theorem dX0_totalScore_1 : decode cX0_totalScore 1 = .ok (.istore_n 1, 1) := by decide +kernel
theorem dX0_totalScore_2 : decode cX0_totalScore 2 = .ok (.iconst 0, 1) := by decide +kernel
theorem dX0_totalScore_3 : decode cX0_totalScore 3 = .ok (.istore_n 2, 1) := by decide +kernel
theorem dX0_totalScore_4 : decode cX0_totalScore 4 = .ok (.iload_n 2, 1) := by decide +kernel
theorem dX0_totalScore_5 : decode cX0_totalScore 5 = .ok (.aload_n 0, 1) := by decide +kernel
theorem dX0_totalScore_6 : decode cX0_totalScore 6 = .ok (.getfield 37, 3) := by decide +kernel
theorem dX0_totalScore_9 : decode cX0_totalScore 9 = .ok (.if_icmp .ge 18, 3) := by decide +kernel
theorem dX0_totalScore_12 : decode cX0_totalScore 12 = .ok (.iload_n 1, 1) := by decide +kernel
theorem dX0_totalScore_13 : decode cX0_totalScore 13 = .ok (.aload_n 0, 1) := by decide +kernel
theorem dX0_totalScore_14 : decode cX0_totalScore 14 = .ok (.getfield 21, 3) := by decide +kernel
theorem dX0_totalScore_17 : decode cX0_totalScore 17 = .ok (.iload_n 2, 1) := by decide +kernel
theorem dX0_totalScore_18 : decode cX0_totalScore 18 = .ok (.iaload, 1) := by decide +kernel
theorem dX0_totalScore_19 : decode cX0_totalScore 19 = .ok (.iadd, 1) := by decide +kernel
theorem dX0_totalScore_20 : decode cX0_totalScore 20 = .ok (.istore_n 1, 1) := by decide +kernel
theorem dX0_totalScore_21 : decode cX0_totalScore 21 = .ok (.iinc 2 1, 3) := by decide +kernel
theorem dX0_totalScore_24 : decode cX0_totalScore 24 = .ok (.goto (-20), 3) := by decide +kernel
theorem dX0_totalScore_27 : decode cX0_totalScore 27 = .ok (.iload_n 1, 1) := by decide +kernel
theorem dX0_totalScore_28 : decode cX0_totalScore 28 = .ok (.ireturn, 1) := by decide +kernel
theorem dX0_settleTie_0 : decode cX0_settleTie 0 = .ok (.aload_n 0, 1) := by decide +kernel
theorem dX0_settleTie_1 : decode cX0_settleTie 1 = .ok (.invokevirtual 70, 3) := by decide +kernel
theorem dX0_settleTie_4 : decode cX0_settleTie 4 = .ok (.istore_n 1, 1) := by decide +kernel
theorem dX0_settleTie_5 : decode cX0_settleTie 5 = .ok (.iload_n 1, 1) := by decide +kernel
theorem dX0_settleTie_6 : decode cX0_settleTie 6 = .ok (.iconst (-1), 1) := by decide +kernel
theorem dX0_settleTie_7 : decode cX0_settleTie 7 = .ok (.if_icmp .ne 5, 3) := by decide +kernel
theorem dX0_settleTie_10 : decode cX0_settleTie 10 = .ok (.iconst (-1), 1) := by decide +kernel
theorem dX0_settleTie_11 : decode cX0_settleTie 11 = .ok (.ireturn, 1) := by decide +kernel
theorem dX0_settleTie_12 : decode cX0_settleTie 12 = .ok (.iconst 0, 1) := by decide +kernel
theorem dX0_settleTie_13 : decode cX0_settleTie 13 = .ok (.istore_n 2, 1) := by decide +kernel
theorem dX0_settleTie_14 : decode cX0_settleTie 14 = .ok (.iload_n 2, 1) := by decide +kernel
theorem dX0_settleTie_15 : decode cX0_settleTie 15 = .ok (.aload_n 0, 1) := by decide +kernel
theorem dX0_settleTie_16 : decode cX0_settleTie 16 = .ok (.getfield 37, 3) := by decide +kernel
theorem dX0_settleTie_19 : decode cX0_settleTie 19 = .ok (.if_icmp .ge 35, 3) := by decide +kernel
theorem dX0_settleTie_22 : decode cX0_settleTie 22 = .ok (.aload_n 0, 1) := by decide +kernel
theorem dX0_settleTie_23 : decode cX0_settleTie 23 = .ok (.getfield 30, 3) := by decide +kernel
theorem dX0_settleTie_26 : decode cX0_settleTie 26 = .ok (.iload_n 2, 1) := by decide +kernel
theorem dX0_settleTie_27 : decode cX0_settleTie 27 = .ok (.aload_n 0, 1) := by decide +kernel
theorem dX0_settleTie_28 : decode cX0_settleTie 28 = .ok (.getfield 21, 3) := by decide +kernel
theorem dX0_settleTie_31 : decode cX0_settleTie 31 = .ok (.iload_n 2, 1) := by decide +kernel
theorem dX0_settleTie_32 : decode cX0_settleTie 32 = .ok (.iaload, 1) := by decide +kernel
theorem dX0_settleTie_33 : decode cX0_settleTie 33 = .ok (.aload_n 0, 1) := by decide +kernel
theorem dX0_settleTie_34 : decode cX0_settleTie 34 = .ok (.getfield 21, 3) := by decide +kernel
theorem dX0_settleTie_37 : decode cX0_settleTie 37 = .ok (.iload_n 1, 1) := by decide +kernel
theorem dX0_settleTie_38 : decode cX0_settleTie 38 = .ok (.iaload, 1) := by decide +kernel
theorem dX0_settleTie_39 : decode cX0_settleTie 39 = .ok (.if_icmp .ne 7, 3) := by decide +kernel
theorem dX0_settleTie_42 : decode cX0_settleTie 42 = .ok (.iconst 1, 1) := by decide +kernel
theorem dX0_settleTie_43 : decode cX0_settleTie 43 = .ok (.goto 4, 3) := by decide +kernel
theorem dX0_settleTie_46 : decode cX0_settleTie 46 = .ok (.iconst 0, 1) := by decide +kernel
theorem dX0_settleTie_47 : decode cX0_settleTie 47 = .ok (.bastore, 1) := by decide +kernel
theorem dX0_settleTie_48 : decode cX0_settleTie 48 = .ok (.iinc 2 1, 3) := by decide +kernel
theorem dX0_settleTie_51 : decode cX0_settleTie 51 = .ok (.goto (-37), 3) := by decide +kernel
theorem dX0_settleTie_54 : decode cX0_settleTie 54 = .ok (.iconst 1, 1) := by decide +kernel
theorem dX0_settleTie_55 : decode cX0_settleTie 55 = .ok (.istore_n 2, 1) := by decide +kernel
theorem dX0_settleTie_56 : decode cX0_settleTie 56 = .ok (.iload_n 2, 1) := by decide +kernel
theorem dX0_settleTie_57 : decode cX0_settleTie 57 = .ok (.bipush 9, 2) := by decide +kernel
theorem dX0_settleTie_59 : decode cX0_settleTie 59 = .ok (.if_icmp .gt 25, 3) := by decide +kernel
theorem dX0_settleTie_62 : decode cX0_settleTie 62 = .ok (.aload_n 0, 1) := by decide +kernel
theorem dX0_settleTie_63 : decode cX0_settleTie 63 = .ok (.invokevirtual 74, 3) := by decide +kernel
theorem dX0_settleTie_66 : decode cX0_settleTie 66 = .ok (.iconst 1, 1) := by decide +kernel
theorem dX0_settleTie_67 : decode cX0_settleTie 67 = .ok (.if_icmp .le 17, 3) := by decide +kernel
theorem dX0_settleTie_70 : decode cX0_settleTie 70 = .ok (.aload_n 0, 1) := by decide +kernel
theorem dX0_settleTie_71 : decode cX0_settleTie 71 = .ok (.bipush 6, 2) := by decide +kernel
theorem dX0_settleTie_73 : decode cX0_settleTie 73 = .ok (.iload_n 2, 1) := by decide +kernel
theorem dX0_settleTie_74 : decode cX0_settleTie 74 = .ok (.imul, 1) := by decide +kernel
theorem dX0_settleTie_75 : decode cX0_settleTie 75 = .ok (.invokevirtual 77, 3) := by decide +kernel
theorem dX0_settleTie_78 : decode cX0_settleTie 78 = .ok (.iinc 2 1, 3) := by decide +kernel
theorem dX0_settleTie_81 : decode cX0_settleTie 81 = .ok (.goto (-25), 3) := by decide +kernel
theorem dX0_settleTie_84 : decode cX0_settleTie 84 = .ok (.aload_n 0, 1) := by decide +kernel
theorem dX0_settleTie_85 : decode cX0_settleTie 85 = .ok (.invokevirtual 81, 3) := by decide +kernel
theorem dX0_settleTie_88 : decode cX0_settleTie 88 = .ok (.istore_n 2, 1) := by decide +kernel
theorem dX0_settleTie_89 : decode cX0_settleTie 89 = .ok (.iload_n 2, 1) := by decide +kernel
theorem dX0_settleTie_90 : decode cX0_settleTie 90 = .ok (.iconst (-1), 1) := by decide +kernel
theorem dX0_settleTie_91 : decode cX0_settleTie 91 = .ok (.if_icmp .eq 13, 3) := by decide +kernel
theorem dX0_settleTie_94 : decode cX0_settleTie 94 = .ok (.aload_n 0, 1) := by decide +kernel
theorem dX0_settleTie_95 : decode cX0_settleTie 95 = .ok (.getfield 21, 3) := by decide +kernel
theorem dX0_settleTie_98 : decode cX0_settleTie 98 = .ok (.iload_n 2, 1) := by decide +kernel
theorem dX0_settleTie_99 : decode cX0_settleTie 99 = .ok (.dup2, 1) := by decide +kernel
theorem dX0_settleTie_100 : decode cX0_settleTie 100 = .ok (.iaload, 1) := by decide +kernel
theorem dX0_settleTie_101 : decode cX0_settleTie 101 = .ok (.iconst 1, 1) := by decide +kernel
theorem dX0_settleTie_102 : decode cX0_settleTie 102 = .ok (.iadd, 1) := by decide +kernel
theorem dX0_settleTie_103 : decode cX0_settleTie 103 = .ok (.iastore, 1) := by decide +kernel
theorem dX0_settleTie_104 : decode cX0_settleTie 104 = .ok (.iload_n 2, 1) := by decide +kernel
theorem dX0_settleTie_105 : decode cX0_settleTie 105 = .ok (.ireturn, 1) := by decide +kernel
theorem dX0_shootRound_0 : decode cX0_shootRound 0 = .ok (.iconst 0, 1) := by decide +kernel
theorem dX0_shootRound_1 : decode cX0_shootRound 1 = .ok (.istore_n 2, 1) := by decide +kernel
theorem dX0_shootRound_2 : decode cX0_shootRound 2 = .ok (.iconst 0, 1) := by decide +kernel
theorem dX0_shootRound_3 : decode cX0_shootRound 3 = .ok (.istore_n 3, 1) := by decide +kernel
theorem dX0_shootRound_4 : decode cX0_shootRound 4 = .ok (.iload_n 3, 1) := by decide +kernel
theorem dX0_shootRound_5 : decode cX0_shootRound 5 = .ok (.aload_n 0, 1) := by decide +kernel
theorem dX0_shootRound_6 : decode cX0_shootRound 6 = .ok (.getfield 37, 3) := by decide +kernel
theorem dX0_shootRound_9 : decode cX0_shootRound 9 = .ok (.if_icmp .ge 82, 3) := by decide +kernel
theorem dX0_shootRound_12 : decode cX0_shootRound 12 = .ok (.aload_n 0, 1) := by decide +kernel
theorem dX0_shootRound_13 : decode cX0_shootRound 13 = .ok (.getfield 34, 3) := by decide +kernel
theorem dX0_shootRound_16 : decode cX0_shootRound 16 = .ok (.iload_n 3, 1) := by decide +kernel
theorem dX0_shootRound_17 : decode cX0_shootRound 17 = .ok (.aload_n 0, 1) := by decide +kernel
theorem dX0_shootRound_18 : decode cX0_shootRound 18 = .ok (.getfield 30, 3) := by decide +kernel
theorem dX0_shootRound_21 : decode cX0_shootRound 21 = .ok (.iload_n 3, 1) := by decide +kernel
theorem dX0_shootRound_22 : decode cX0_shootRound 22 = .ok (.baload, 1) := by decide +kernel
theorem dX0_shootRound_23 : decode cX0_shootRound 23 = .ok (.ifCond .eq 22, 3) := by decide +kernel
theorem dX0_shootRound_26 : decode cX0_shootRound 26 = .ok (.aload_n 0, 1) := by decide +kernel
theorem dX0_shootRound_27 : decode cX0_shootRound 27 = .ok (.iload_n 3, 1) := by decide +kernel
theorem dX0_shootRound_28 : decode cX0_shootRound 28 = .ok (.iload_n 1, 1) := by decide +kernel
theorem dX0_shootRound_29 : decode cX0_shootRound 29 = .ok (.invokevirtual 41, 3) := by decide +kernel
theorem dX0_shootRound_32 : decode cX0_shootRound 32 = .ok (.aload_n 0, 1) := by decide +kernel
theorem dX0_shootRound_33 : decode cX0_shootRound 33 = .ok (.getfield 9, 3) := by decide +kernel
theorem dX0_shootRound_36 : decode cX0_shootRound 36 = .ok (.iload_n 3, 1) := by decide +kernel
theorem dX0_shootRound_37 : decode cX0_shootRound 37 = .ok (.iaload, 1) := by decide +kernel
theorem dX0_shootRound_38 : decode cX0_shootRound 38 = .ok (.if_icmp .gt 7, 3) := by decide +kernel
theorem dX0_shootRound_41 : decode cX0_shootRound 41 = .ok (.iconst 1, 1) := by decide +kernel
theorem dX0_shootRound_42 : decode cX0_shootRound 42 = .ok (.goto 4, 3) := by decide +kernel
theorem dX0_shootRound_45 : decode cX0_shootRound 45 = .ok (.iconst 0, 1) := by decide +kernel
theorem dX0_shootRound_46 : decode cX0_shootRound 46 = .ok (.bastore, 1) := by decide +kernel
theorem dX0_shootRound_47 : decode cX0_shootRound 47 = .ok (.iload_n 2, 1) := by decide +kernel
theorem dX0_shootRound_48 : decode cX0_shootRound 48 = .ok (.ifCond .ne 12, 3) := by decide +kernel
theorem dX0_shootRound_51 : decode cX0_shootRound 51 = .ok (.aload_n 0, 1) := by decide +kernel
theorem dX0_shootRound_52 : decode cX0_shootRound 52 = .ok (.getfield 34, 3) := by decide +kernel
theorem dX0_shootRound_55 : decode cX0_shootRound 55 = .ok (.iload_n 3, 1) := by decide +kernel
theorem dX0_shootRound_56 : decode cX0_shootRound 56 = .ok (.baload, 1) := by decide +kernel
theorem dX0_shootRound_57 : decode cX0_shootRound 57 = .ok (.ifCond .eq 7, 3) := by decide +kernel
theorem dX0_shootRound_60 : decode cX0_shootRound 60 = .ok (.iconst 1, 1) := by decide +kernel
theorem dX0_shootRound_61 : decode cX0_shootRound 61 = .ok (.goto 4, 3) := by decide +kernel
theorem dX0_shootRound_64 : decode cX0_shootRound 64 = .ok (.iconst 0, 1) := by decide +kernel
theorem dX0_shootRound_65 : decode cX0_shootRound 65 = .ok (.istore_n 2, 1) := by decide +kernel
theorem dX0_shootRound_66 : decode cX0_shootRound 66 = .ok (.aload_n 0, 1) := by decide +kernel
theorem dX0_shootRound_67 : decode cX0_shootRound 67 = .ok (.getfield 30, 3) := by decide +kernel
theorem dX0_shootRound_70 : decode cX0_shootRound 70 = .ok (.iload_n 3, 1) := by decide +kernel
theorem dX0_shootRound_71 : decode cX0_shootRound 71 = .ok (.baload, 1) := by decide +kernel
theorem dX0_shootRound_72 : decode cX0_shootRound 72 = .ok (.ifCond .eq 13, 3) := by decide +kernel
theorem dX0_shootRound_75 : decode cX0_shootRound 75 = .ok (.aload_n 0, 1) := by decide +kernel
theorem dX0_shootRound_76 : decode cX0_shootRound 76 = .ok (.getfield 18, 3) := by decide +kernel
theorem dX0_shootRound_79 : decode cX0_shootRound 79 = .ok (.iload_n 3, 1) := by decide +kernel
theorem dX0_shootRound_80 : decode cX0_shootRound 80 = .ok (.dup2, 1) := by decide +kernel
theorem dX0_shootRound_81 : decode cX0_shootRound 81 = .ok (.iaload, 1) := by decide +kernel
theorem dX0_shootRound_82 : decode cX0_shootRound 82 = .ok (.iconst 1, 1) := by decide +kernel
theorem dX0_shootRound_83 : decode cX0_shootRound 83 = .ok (.iadd, 1) := by decide +kernel
theorem dX0_shootRound_84 : decode cX0_shootRound 84 = .ok (.iastore, 1) := by decide +kernel
theorem dX0_shootRound_85 : decode cX0_shootRound 85 = .ok (.iinc 3 1, 3) := by decide +kernel
theorem dX0_shootRound_88 : decode cX0_shootRound 88 = .ok (.goto (-84), 3) := by decide +kernel
theorem dX0_shootRound_91 : decode cX0_shootRound 91 = .ok (.iload_n 2, 1) := by decide +kernel
theorem dX0_shootRound_92 : decode cX0_shootRound 92 = .ok (.ifCond .eq 7, 3) := by decide +kernel
theorem dX0_shootRound_95 : decode cX0_shootRound 95 = .ok (.aload_n 0, 1) := by decide +kernel
theorem dX0_shootRound_96 : decode cX0_shootRound 96 = .ok (.invokevirtual 84, 3) := by decide +kernel
theorem dX0_shootRound_99 : decode cX0_shootRound 99 = .ok (.return_, 1) := by decide +kernel
theorem dX0_keepThoseWhoHit_0 : decode cX0_keepThoseWhoHit 0 = .ok (.iconst 0, 1) := by decide +kernel
theorem dX0_keepThoseWhoHit_1 : decode cX0_keepThoseWhoHit 1 = .ok (.istore_n 1, 1) := by decide +kernel
theorem dX0_keepThoseWhoHit_2 : decode cX0_keepThoseWhoHit 2 = .ok (.iload_n 1, 1) := by decide +kernel
theorem dX0_keepThoseWhoHit_3 : decode cX0_keepThoseWhoHit 3 = .ok (.aload_n 0, 1) := by decide +kernel
theorem dX0_keepThoseWhoHit_4 : decode cX0_keepThoseWhoHit 4 = .ok (.getfield 37, 3) := by decide +kernel
theorem dX0_keepThoseWhoHit_7 : decode cX0_keepThoseWhoHit 7 = .ok (.if_icmp .ge 21, 3) := by decide +kernel
theorem dX0_keepThoseWhoHit_10 : decode cX0_keepThoseWhoHit 10 = .ok (.aload_n 0, 1) := by decide +kernel
theorem dX0_keepThoseWhoHit_11 : decode cX0_keepThoseWhoHit 11 = .ok (.getfield 30, 3) := by decide +kernel
theorem dX0_keepThoseWhoHit_14 : decode cX0_keepThoseWhoHit 14 = .ok (.iload_n 1, 1) := by decide +kernel
theorem dX0_keepThoseWhoHit_15 : decode cX0_keepThoseWhoHit 15 = .ok (.aload_n 0, 1) := by decide +kernel
theorem dX0_keepThoseWhoHit_16 : decode cX0_keepThoseWhoHit 16 = .ok (.getfield 34, 3) := by decide +kernel
theorem dX0_keepThoseWhoHit_19 : decode cX0_keepThoseWhoHit 19 = .ok (.iload_n 1, 1) := by decide +kernel
theorem dX0_keepThoseWhoHit_20 : decode cX0_keepThoseWhoHit 20 = .ok (.baload, 1) := by decide +kernel
theorem dX0_keepThoseWhoHit_21 : decode cX0_keepThoseWhoHit 21 = .ok (.bastore, 1) := by decide +kernel
theorem dX0_keepThoseWhoHit_22 : decode cX0_keepThoseWhoHit 22 = .ok (.iinc 1 1, 3) := by decide +kernel
theorem dX0_keepThoseWhoHit_25 : decode cX0_keepThoseWhoHit 25 = .ok (.goto (-23), 3) := by decide +kernel
theorem dX0_keepThoseWhoHit_28 : decode cX0_keepThoseWhoHit 28 = .ok (.return_, 1) := by decide +kernel
theorem dX0_countLeft_0 : decode cX0_countLeft 0 = .ok (.iconst 0, 1) := by decide +kernel
theorem dX0_countLeft_1 : decode cX0_countLeft 1 = .ok (.istore_n 1, 1) := by decide +kernel
theorem dX0_countLeft_2 : decode cX0_countLeft 2 = .ok (.iconst 0, 1) := by decide +kernel
theorem dX0_countLeft_3 : decode cX0_countLeft 3 = .ok (.istore_n 2, 1) := by decide +kernel
theorem dX0_countLeft_4 : decode cX0_countLeft 4 = .ok (.iload_n 2, 1) := by decide +kernel
theorem dX0_countLeft_5 : decode cX0_countLeft 5 = .ok (.aload_n 0, 1) := by decide +kernel
theorem dX0_countLeft_6 : decode cX0_countLeft 6 = .ok (.getfield 37, 3) := by decide +kernel
theorem dX0_countLeft_9 : decode cX0_countLeft 9 = .ok (.if_icmp .ge 21, 3) := by decide +kernel
theorem dX0_countLeft_12 : decode cX0_countLeft 12 = .ok (.aload_n 0, 1) := by decide +kernel
theorem dX0_countLeft_13 : decode cX0_countLeft 13 = .ok (.getfield 30, 3) := by decide +kernel
theorem dX0_countLeft_16 : decode cX0_countLeft 16 = .ok (.iload_n 2, 1) := by decide +kernel
theorem dX0_countLeft_17 : decode cX0_countLeft 17 = .ok (.baload, 1) := by decide +kernel
theorem dX0_countLeft_18 : decode cX0_countLeft 18 = .ok (.ifCond .eq 6, 3) := by decide +kernel
theorem dX0_countLeft_21 : decode cX0_countLeft 21 = .ok (.iinc 1 1, 3) := by decide +kernel
theorem dX0_countLeft_24 : decode cX0_countLeft 24 = .ok (.iinc 2 1, 3) := by decide +kernel
theorem dX0_countLeft_27 : decode cX0_countLeft 27 = .ok (.goto (-23), 3) := by decide +kernel
theorem dX0_countLeft_30 : decode cX0_countLeft 30 = .ok (.iload_n 1, 1) := by decide +kernel
theorem dX0_countLeft_31 : decode cX0_countLeft 31 = .ok (.ireturn, 1) := by decide +kernel
theorem dX0_firstLeft_0 : decode cX0_firstLeft 0 = .ok (.iconst 0, 1) := by decide +kernel
theorem dX0_firstLeft_1 : decode cX0_firstLeft 1 = .ok (.istore_n 1, 1) := by decide +kernel
theorem dX0_firstLeft_2 : decode cX0_firstLeft 2 = .ok (.iload_n 1, 1) := by decide +kernel
theorem dX0_firstLeft_3 : decode cX0_firstLeft 3 = .ok (.aload_n 0, 1) := by decide +kernel
theorem dX0_firstLeft_4 : decode cX0_firstLeft 4 = .ok (.getfield 37, 3) := by decide +kernel
theorem dX0_firstLeft_7 : decode cX0_firstLeft 7 = .ok (.if_icmp .ge 20, 3) := by decide +kernel
theorem dX0_firstLeft_10 : decode cX0_firstLeft 10 = .ok (.aload_n 0, 1) := by decide +kernel
theorem dX0_firstLeft_11 : decode cX0_firstLeft 11 = .ok (.getfield 30, 3) := by decide +kernel
theorem dX0_firstLeft_14 : decode cX0_firstLeft 14 = .ok (.iload_n 1, 1) := by decide +kernel
theorem dX0_firstLeft_15 : decode cX0_firstLeft 15 = .ok (.baload, 1) := by decide +kernel
theorem dX0_firstLeft_16 : decode cX0_firstLeft 16 = .ok (.ifCond .eq 5, 3) := by decide +kernel
theorem dX0_firstLeft_19 : decode cX0_firstLeft 19 = .ok (.iload_n 1, 1) := by decide +kernel
theorem dX0_firstLeft_20 : decode cX0_firstLeft 20 = .ok (.ireturn, 1) := by decide +kernel
theorem dX0_firstLeft_21 : decode cX0_firstLeft 21 = .ok (.iinc 1 1, 3) := by decide +kernel
theorem dX0_firstLeft_24 : decode cX0_firstLeft 24 = .ok (.goto (-22), 3) := by decide +kernel
theorem dX0_firstLeft_27 : decode cX0_firstLeft 27 = .ok (.iconst (-1), 1) := by decide +kernel
theorem dX0_firstLeft_28 : decode cX0_firstLeft 28 = .ok (.ireturn, 1) := by decide +kernel
theorem dX1_init_0 : decode cX1_init 0 = .ok (.aload_n 0, 1) := by decide +kernel
theorem dX1_init_1 : decode cX1_init 1 = .ok (.invokespecial 3, 3) := by decide +kernel
theorem dX1_init_4 : decode cX1_init 4 = .ok (.aload_n 0, 1) := by decide +kernel
theorem dX1_init_5 : decode cX1_init 5 = .ok (.iconst 5, 1) := by decide +kernel
theorem dX1_init_6 : decode cX1_init 6 = .ok (.newarray .int, 2) := by decide +kernel
theorem dX1_init_8 : decode cX1_init 8 = .ok (.putfield 9, 3) := by decide +kernel
theorem dX1_init_11 : decode cX1_init 11 = .ok (.aload_n 0, 1) := by decide +kernel
theorem dX1_init_12 : decode cX1_init 12 = .ok (.iconst 5, 1) := by decide +kernel
theorem dX1_init_13 : decode cX1_init 13 = .ok (.newarray .int, 2) := by decide +kernel
theorem dX1_init_15 : decode cX1_init 15 = .ok (.putfield 15, 3) := by decide +kernel
theorem dX1_init_18 : decode cX1_init 18 = .ok (.iconst 0, 1) := by decide +kernel
theorem dX1_init_19 : decode cX1_init 19 = .ok (.istore_n 1, 1) := by decide +kernel
theorem dX1_init_20 : decode cX1_init 20 = .ok (.iload_n 1, 1) := by decide +kernel
theorem dX1_init_21 : decode cX1_init 21 = .ok (.iconst 5, 1) := by decide +kernel
theorem dX1_init_22 : decode cX1_init 22 = .ok (.if_icmp .ge 17, 3) := by decide +kernel
theorem dX1_init_25 : decode cX1_init 25 = .ok (.aload_n 0, 1) := by decide +kernel
theorem dX1_init_26 : decode cX1_init 26 = .ok (.getfield 15, 3) := by decide +kernel
theorem dX1_init_29 : decode cX1_init 29 = .ok (.iload_n 1, 1) := by decide +kernel
theorem dX1_init_30 : decode cX1_init 30 = .ok (.bipush 20, 2) := by decide +kernel
theorem dX1_init_32 : decode cX1_init 32 = .ok (.iastore, 1) := by decide +kernel
theorem dX1_init_33 : decode cX1_init 33 = .ok (.iinc 1 1, 3) := by decide +kernel
theorem dX1_init_36 : decode cX1_init 36 = .ok (.goto (-16), 3) := by decide +kernel
theorem dX1_init_39 : decode cX1_init 39 = .ok (.return_, 1) := by decide +kernel
theorem dX1_angleAt_0 : decode cX1_angleAt 0 = .ok (.aload_n 0, 1) := by decide +kernel
theorem dX1_angleAt_1 : decode cX1_angleAt 1 = .ok (.getfield 9, 3) := by decide +kernel
theorem dX1_angleAt_4 : decode cX1_angleAt 4 = .ok (.iload_n 1, 1) := by decide +kernel
theorem dX1_angleAt_5 : decode cX1_angleAt 5 = .ok (.iaload, 1) := by decide +kernel
theorem dX1_angleAt_6 : decode cX1_angleAt 6 = .ok (.aload_n 0, 1) := by decide +kernel
theorem dX1_angleAt_7 : decode cX1_angleAt 7 = .ok (.getfield 15, 3) := by decide +kernel
theorem dX1_angleAt_10 : decode cX1_angleAt 10 = .ok (.iload_n 1, 1) := by decide +kernel
theorem dX1_angleAt_11 : decode cX1_angleAt 11 = .ok (.iaload, 1) := by decide +kernel
theorem dX1_angleAt_12 : decode cX1_angleAt 12 = .ok (.iload_n 2, 1) := by decide +kernel
theorem dX1_angleAt_13 : decode cX1_angleAt 13 = .ok (.iconst 2, 1) := by decide +kernel
theorem dX1_angleAt_14 : decode cX1_angleAt 14 = .ok (.isub, 1) := by decide +kernel
theorem dX1_angleAt_15 : decode cX1_angleAt 15 = .ok (.imul, 1) := by decide +kernel
theorem dX1_angleAt_16 : decode cX1_angleAt 16 = .ok (.iconst 2, 1) := by decide +kernel
theorem dX1_angleAt_17 : decode cX1_angleAt 17 = .ok (.idiv, 1) := by decide +kernel
theorem dX1_angleAt_18 : decode cX1_angleAt 18 = .ok (.iadd, 1) := by decide +kernel
theorem dX1_angleAt_19 : decode cX1_angleAt 19 = .ok (.ireturn, 1) := by decide +kernel
theorem dX1_angleIn_0 : decode cX1_angleIn 0 = .ok (.aload_n 0, 1) := by decide +kernel
theorem dX1_angleIn_1 : decode cX1_angleIn 1 = .ok (.iload_n 1, 1) := by decide +kernel
theorem dX1_angleIn_2 : decode cX1_angleIn 2 = .ok (.iload_n 2, 1) := by decide +kernel
theorem dX1_angleIn_3 : decode cX1_angleIn 3 = .ok (.invokestatic 18, 3) := by decide +kernel
theorem dX1_angleIn_6 : decode cX1_angleIn 6 = .ok (.iload_n 1, 1) := by decide +kernel
theorem dX1_angleIn_7 : decode cX1_angleIn 7 = .ok (.invokestatic 22, 3) := by decide +kernel
theorem dX1_angleIn_10 : decode cX1_angleIn 10 = .ok (.invokevirtual 26, 3) := by decide +kernel
theorem dX1_angleIn_13 : decode cX1_angleIn 13 = .ok (.ireturn, 1) := by decide +kernel
theorem dX1_amountAt_0 : decode cX1_amountAt 0 = .ok (.aload_n 0, 1) := by decide +kernel
theorem dX1_amountAt_1 : decode cX1_amountAt 1 = .ok (.iload_n 1, 1) := by decide +kernel
theorem dX1_amountAt_2 : decode cX1_amountAt 2 = .ok (.iload_n 2, 1) := by decide +kernel
theorem dX1_amountAt_3 : decode cX1_amountAt 3 = .ok (.invokevirtual 26, 3) := by decide +kernel
theorem dX1_amountAt_6 : decode cX1_amountAt 6 = .ok (.invokestatic 29, 3) := by decide +kernel
theorem dX1_amountAt_9 : decode cX1_amountAt 9 = .ok (.ireturn, 1) := by decide +kernel
theorem dX1_amountIn_0 : decode cX1_amountIn 0 = .ok (.aload_n 0, 1) := by decide +kernel
theorem dX1_amountIn_1 : decode cX1_amountIn 1 = .ok (.iload_n 1, 1) := by decide +kernel
theorem dX1_amountIn_2 : decode cX1_amountIn 2 = .ok (.iload_n 2, 1) := by decide +kernel
theorem dX1_amountIn_3 : decode cX1_amountIn 3 = .ok (.invokevirtual 34, 3) := by decide +kernel
theorem dX1_amountIn_6 : decode cX1_amountIn 6 = .ok (.invokestatic 29, 3) := by decide +kernel
theorem dX1_amountIn_9 : decode cX1_amountIn 9 = .ok (.ireturn, 1) := by decide +kernel
theorem dX1_hardestAt_0 : decode cX1_hardestAt 0 = .ok (.iconst 0, 1) := by decide +kernel
theorem dX1_hardestAt_1 : decode cX1_hardestAt 1 = .ok (.istore_n 2, 1) := by decide +kernel
theorem dX1_hardestAt_2 : decode cX1_hardestAt 2 = .ok (.iconst 1, 1) := by decide +kernel
theorem dX1_hardestAt_3 : decode cX1_hardestAt 3 = .ok (.istore_n 3, 1) := by decide +kernel
theorem dX1_hardestAt_4 : decode cX1_hardestAt 4 = .ok (.iload_n 3, 1) := by decide +kernel
theorem dX1_hardestAt_5 : decode cX1_hardestAt 5 = .ok (.iconst 5, 1) := by decide +kernel
theorem dX1_hardestAt_6 : decode cX1_hardestAt 6 = .ok (.if_icmp .ge 26, 3) := by decide +kernel
theorem dX1_hardestAt_9 : decode cX1_hardestAt 9 = .ok (.aload_n 0, 1) := by decide +kernel
theorem dX1_hardestAt_10 : decode cX1_hardestAt 10 = .ok (.iload_n 1, 1) := by decide +kernel
theorem dX1_hardestAt_11 : decode cX1_hardestAt 11 = .ok (.iload_n 3, 1) := by decide +kernel
theorem dX1_hardestAt_12 : decode cX1_hardestAt 12 = .ok (.invokevirtual 37, 3) := by decide +kernel
theorem dX1_hardestAt_15 : decode cX1_hardestAt 15 = .ok (.aload_n 0, 1) := by decide +kernel
theorem dX1_hardestAt_16 : decode cX1_hardestAt 16 = .ok (.iload_n 1, 1) := by decide +kernel
theorem dX1_hardestAt_17 : decode cX1_hardestAt 17 = .ok (.iload_n 2, 1) := by decide +kernel
theorem dX1_hardestAt_18 : decode cX1_hardestAt 18 = .ok (.invokevirtual 37, 3) := by decide +kernel
theorem dX1_hardestAt_21 : decode cX1_hardestAt 21 = .ok (.if_icmp .le 5, 3) := by decide +kernel
theorem dX1_hardestAt_24 : decode cX1_hardestAt 24 = .ok (.iload_n 3, 1) := by decide +kernel
theorem dX1_hardestAt_25 : decode cX1_hardestAt 25 = .ok (.istore_n 2, 1) := by decide +kernel
theorem dX1_hardestAt_26 : decode cX1_hardestAt 26 = .ok (.iinc 3 1, 3) := by decide +kernel
theorem dX1_hardestAt_29 : decode cX1_hardestAt 29 = .ok (.goto (-25), 3) := by decide +kernel
theorem dX1_hardestAt_32 : decode cX1_hardestAt 32 = .ok (.iload_n 2, 1) := by decide +kernel
theorem dX1_hardestAt_33 : decode cX1_hardestAt 33 = .ok (.ireturn, 1) := by decide +kernel
theorem dX1_greatestAmount_0 : decode cX1_greatestAmount 0 = .ok (.iconst 0, 1) := by decide +kernel
theorem dX1_greatestAmount_1 : decode cX1_greatestAmount 1 = .ok (.istore_n 1, 1) := by decide +kernel
theorem dX1_greatestAmount_2 : decode cX1_greatestAmount 2 = .ok (.iconst 0, 1) := by decide +kernel
theorem dX1_greatestAmount_3 : decode cX1_greatestAmount 3 = .ok (.istore_n 2, 1) := by decide +kernel
theorem dX1_greatestAmount_4 : decode cX1_greatestAmount 4 = .ok (.iload_n 2, 1) := by decide +kernel
theorem dX1_greatestAmount_5 : decode cX1_greatestAmount 5 = .ok (.iconst 5, 1) := by decide +kernel
theorem dX1_greatestAmount_6 : decode cX1_greatestAmount 6 = .ok (.if_icmp .ge 24, 3) := by decide +kernel
theorem dX1_greatestAmount_9 : decode cX1_greatestAmount 9 = .ok (.iload_n 1, 1) := by decide +kernel
theorem dX1_greatestAmount_10 : decode cX1_greatestAmount 10 = .ok (.aload_n 0, 1) := by decide +kernel
theorem dX1_greatestAmount_11 : decode cX1_greatestAmount 11 = .ok (.iload_n 2, 1) := by decide +kernel
theorem dX1_greatestAmount_12 : decode cX1_greatestAmount 12 = .ok (.aload_n 0, 1) := by decide +kernel
theorem dX1_greatestAmount_13 : decode cX1_greatestAmount 13 = .ok (.iload_n 2, 1) := by decide +kernel
theorem dX1_greatestAmount_14 : decode cX1_greatestAmount 14 = .ok (.invokevirtual 40, 3) := by decide +kernel
theorem dX1_greatestAmount_17 : decode cX1_greatestAmount 17 = .ok (.invokevirtual 37, 3) := by decide +kernel
theorem dX1_greatestAmount_20 : decode cX1_greatestAmount 20 = .ok (.invokestatic 43, 3) := by decide +kernel
theorem dX1_greatestAmount_23 : decode cX1_greatestAmount 23 = .ok (.istore_n 1, 1) := by decide +kernel
theorem dX1_greatestAmount_24 : decode cX1_greatestAmount 24 = .ok (.iinc 2 1, 3) := by decide +kernel
theorem dX1_greatestAmount_27 : decode cX1_greatestAmount 27 = .ok (.goto (-23), 3) := by decide +kernel
theorem dX1_greatestAmount_30 : decode cX1_greatestAmount 30 = .ok (.iload_n 1, 1) := by decide +kernel
theorem dX1_greatestAmount_31 : decode cX1_greatestAmount 31 = .ok (.ireturn, 1) := by decide +kernel
