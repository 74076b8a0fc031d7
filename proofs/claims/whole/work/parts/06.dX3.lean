theorem dX3_init_0 : decode cX3_init 0 = .ok (.aload_n 0, 1) := by decide +kernel
theorem dX3_init_1 : decode cX3_init 1 = .ok (.invokespecial 3, 3) := by decide +kernel
theorem dX3_init_4 : decode cX3_init 4 = .ok (.aload_n 0, 1) := by decide +kernel
theorem dX3_init_5 : decode cX3_init 5 = .ok (.bipush 6, 2) := by decide +kernel
theorem dX3_init_7 : decode cX3_init 7 = .ok (.newarray .int, 2) := by decide +kernel
theorem dX3_init_9 : decode cX3_init 9 = .ok (.putfield 9, 3) := by decide +kernel
theorem dX3_init_12 : decode cX3_init 12 = .ok (.aload_n 0, 1) := by decide +kernel
theorem dX3_init_13 : decode cX3_init 13 = .ok (.bipush 6, 2) := by decide +kernel
theorem dX3_init_15 : decode cX3_init 15 = .ok (.newarray .int, 2) := by decide +kernel
theorem dX3_init_17 : decode cX3_init 17 = .ok (.putfield 13, 3) := by decide +kernel
theorem dX3_init_20 : decode cX3_init 20 = .ok (.aload_n 0, 1) := by decide +kernel
theorem dX3_init_21 : decode cX3_init 21 = .ok (.iconst 5, 1) := by decide +kernel
theorem dX3_init_22 : decode cX3_init 22 = .ok (.newarray .int, 2) := by decide +kernel
theorem dX3_init_24 : decode cX3_init 24 = .ok (.putfield 16, 3) := by decide +kernel
theorem dX3_init_27 : decode cX3_init 27 = .ok (.aload_n 0, 1) := by decide +kernel
theorem dX3_init_28 : decode cX3_init 28 = .ok (.iconst 5, 1) := by decide +kernel
theorem dX3_init_29 : decode cX3_init 29 = .ok (.newarray .int, 2) := by decide +kernel
theorem dX3_init_31 : decode cX3_init 31 = .ok (.dup, 1) := by decide +kernel
theorem dX3_init_32 : decode cX3_init 32 = .ok (.iconst 0, 1) := by decide +kernel
theorem dX3_init_33 : decode cX3_init 33 = .ok (.bipush 20, 2) := by decide +kernel
theorem dX3_init_35 : decode cX3_init 35 = .ok (.iastore, 1) := by decide +kernel
theorem dX3_init_36 : decode cX3_init 36 = .ok (.dup, 1) := by decide +kernel
theorem dX3_init_37 : decode cX3_init 37 = .ok (.iconst 1, 1) := by decide +kernel
theorem dX3_init_38 : decode cX3_init 38 = .ok (.bipush 20, 2) := by decide +kernel
theorem dX3_init_40 : decode cX3_init 40 = .ok (.iastore, 1) := by decide +kernel
theorem dX3_init_41 : decode cX3_init 41 = .ok (.dup, 1) := by decide +kernel
theorem dX3_init_42 : decode cX3_init 42 = .ok (.iconst 2, 1) := by decide +kernel
theorem dX3_init_43 : decode cX3_init 43 = .ok (.bipush 20, 2) := by decide +kernel
theorem dX3_init_45 : decode cX3_init 45 = .ok (.iastore, 1) := by decide +kernel
theorem dX3_init_46 : decode cX3_init 46 = .ok (.dup, 1) := by decide +kernel
theorem dX3_init_47 : decode cX3_init 47 = .ok (.iconst 3, 1) := by decide +kernel
theorem dX3_init_48 : decode cX3_init 48 = .ok (.bipush 20, 2) := by decide +kernel
theorem dX3_init_50 : decode cX3_init 50 = .ok (.iastore, 1) := by decide +kernel
theorem dX3_init_51 : decode cX3_init 51 = .ok (.dup, 1) := by decide +kernel
theorem dX3_init_52 : decode cX3_init 52 = .ok (.iconst 4, 1) := by decide +kernel
theorem dX3_init_53 : decode cX3_init 53 = .ok (.bipush 20, 2) := by decide +kernel
theorem dX3_init_55 : decode cX3_init 55 = .ok (.iastore, 1) := by decide +kernel
theorem dX3_init_56 : decode cX3_init 56 = .ok (.putfield 19, 3) := by decide +kernel
theorem dX3_init_59 : decode cX3_init 59 = .ok (.aload_n 0, 1) := by decide +kernel
theorem dX3_init_60 : decode cX3_init 60 = .ok (.bipush 25, 2) := by decide +kernel
theorem dX3_init_62 : decode cX3_init 62 = .ok (.newarray .int, 2) := by decide +kernel
theorem dX3_init_64 : decode cX3_init 64 = .ok (.putfield 22, 3) := by decide +kernel
theorem dX3_init_67 : decode cX3_init 67 = .ok (.aload_n 0, 1) := by decide +kernel
theorem dX3_init_68 : decode cX3_init 68 = .ok (.bipush 25, 2) := by decide +kernel
theorem dX3_init_70 : decode cX3_init 70 = .ok (.newarray .int, 2) := by decide +kernel
theorem dX3_init_72 : decode cX3_init 72 = .ok (.putfield 25, 3) := by decide +kernel
theorem dX3_init_75 : decode cX3_init 75 = .ok (.return_, 1) := by decide +kernel
theorem dX3_thrown_0 : decode cX3_thrown 0 = .ok (.aload_n 0, 1) := by decide +kernel
theorem dX3_thrown_1 : decode cX3_thrown 1 = .ok (.getfield 28, 3) := by decide +kernel
theorem dX3_thrown_4 : decode cX3_thrown 4 = .ok (.ireturn, 1) := by decide +kernel
theorem dX3_no_0 : decode cX3_no 0 = .ok (.aload_n 0, 1) := by decide +kernel
theorem dX3_no_1 : decode cX3_no 1 = .ok (.iload_n 1, 1) := by decide +kernel
theorem dX3_no_2 : decode cX3_no 2 = .ok (.putfield 28, 3) := by decide +kernel
theorem dX3_no_5 : decode cX3_no 5 = .ok (.iconst 0, 1) := by decide +kernel
theorem dX3_no_6 : decode cX3_no 6 = .ok (.ireturn, 1) := by decide +kernel
theorem dX3_ok_0 : decode cX3_ok 0 = .ok (.aload_n 0, 1) := by decide +kernel
theorem dX3_ok_1 : decode cX3_ok 1 = .ok (.iconst 0, 1) := by decide +kernel
theorem dX3_ok_2 : decode cX3_ok 2 = .ok (.putfield 28, 3) := by decide +kernel
theorem dX3_ok_5 : decode cX3_ok 5 = .ok (.iload_n 1, 1) := by decide +kernel
theorem dX3_ok_6 : decode cX3_ok 6 = .ok (.ireturn, 1) := by decide +kernel
theorem dX3_isFrom_0 : decode cX3_isFrom 0 = .ok (.iload_n 0, 1) := by decide +kernel
theorem dX3_isFrom_1 : decode cX3_isFrom 1 = .ok (.iload_n 1, 1) := by decide +kernel
theorem dX3_isFrom_2 : decode cX3_isFrom 2 = .ok (.if_icmp .lt 12, 3) := by decide +kernel
theorem dX3_isFrom_5 : decode cX3_isFrom 5 = .ok (.iload_n 0, 1) := by decide +kernel
theorem dX3_isFrom_6 : decode cX3_isFrom 6 = .ok (.iload_n 2, 1) := by decide +kernel
theorem dX3_isFrom_7 : decode cX3_isFrom 7 = .ok (.if_icmp .gt 7, 3) := by decide +kernel
theorem dX3_isFrom_10 : decode cX3_isFrom 10 = .ok (.iconst 1, 1) := by decide +kernel
theorem dX3_isFrom_11 : decode cX3_isFrom 11 = .ok (.goto 4, 3) := by decide +kernel
theorem dX3_isFrom_14 : decode cX3_isFrom 14 = .ok (.iconst 0, 1) := by decide +kernel
theorem dX3_isFrom_15 : decode cX3_isFrom 15 = .ok (.ireturn, 1) := by decide +kernel
theorem dX3_isGun_0 : decode cX3_isGun 0 = .ok (.iload_n 1, 1) := by decide +kernel
theorem dX3_isGun_1 : decode cX3_isGun 1 = .ok (.iconst 0, 1) := by decide +kernel
theorem dX3_isGun_2 : decode cX3_isGun 2 = .ok (.aload_n 0, 1) := by decide +kernel
theorem dX3_isGun_3 : decode cX3_isGun 3 = .ok (.getfield 32, 3) := by decide +kernel
theorem dX3_isGun_6 : decode cX3_isGun 6 = .ok (.iconst 1, 1) := by decide +kernel
theorem dX3_isGun_7 : decode cX3_isGun 7 = .ok (.isub, 1) := by decide +kernel
theorem dX3_isGun_8 : decode cX3_isGun 8 = .ok (.invokestatic 35, 3) := by decide +kernel
theorem dX3_isGun_11 : decode cX3_isGun 11 = .ok (.ireturn, 1) := by decide +kernel
theorem dX3_keep_0 : decode cX3_keep 0 = .ok (.aload_n 0, 1) := by decide +kernel
theorem dX3_keep_1 : decode cX3_keep 1 = .ok (.getfield 22, 3) := by decide +kernel
theorem dX3_keep_4 : decode cX3_keep 4 = .ok (.iconst 0, 1) := by decide +kernel
theorem dX3_keep_5 : decode cX3_keep 5 = .ok (.aload_n 0, 1) := by decide +kernel
theorem dX3_keep_6 : decode cX3_keep 6 = .ok (.getfield 25, 3) := by decide +kernel
theorem dX3_keep_9 : decode cX3_keep 9 = .ok (.iconst 0, 1) := by decide +kernel
theorem dX3_keep_10 : decode cX3_keep 10 = .ok (.bipush 25, 2) := by decide +kernel
theorem dX3_keep_12 : decode cX3_keep 12 = .ok (.invokestatic 39, 3) := by decide +kernel
theorem dX3_keep_15 : decode cX3_keep 15 = .ok (.return_, 1) := by decide +kernel
theorem dX3_bringBack_0 : decode cX3_bringBack 0 = .ok (.aload_n 0, 1) := by decide +kernel
theorem dX3_bringBack_1 : decode cX3_bringBack 1 = .ok (.getfield 25, 3) := by decide +kernel
theorem dX3_bringBack_4 : decode cX3_bringBack 4 = .ok (.iconst 0, 1) := by decide +kernel
theorem dX3_bringBack_5 : decode cX3_bringBack 5 = .ok (.aload_n 0, 1) := by decide +kernel
theorem dX3_bringBack_6 : decode cX3_bringBack 6 = .ok (.getfield 22, 3) := by decide +kernel
theorem dX3_bringBack_9 : decode cX3_bringBack 9 = .ok (.iconst 0, 1) := by decide +kernel
theorem dX3_bringBack_10 : decode cX3_bringBack 10 = .ok (.bipush 25, 2) := by decide +kernel
theorem dX3_bringBack_12 : decode cX3_bringBack 12 = .ok (.invokestatic 39, 3) := by decide +kernel
theorem dX3_bringBack_15 : decode cX3_bringBack 15 = .ok (.return_, 1) := by decide +kernel
theorem dX3_at_0 : decode cX3_at 0 = .ok (.aload_n 0, 1) := by decide +kernel
theorem dX3_at_1 : decode cX3_at 1 = .ok (.getfield 16, 3) := by decide +kernel
theorem dX3_at_4 : decode cX3_at 4 = .ok (.iload_n 1, 1) := by decide +kernel
theorem dX3_at_5 : decode cX3_at 5 = .ok (.iaload, 1) := by decide +kernel
theorem dX3_at_6 : decode cX3_at 6 = .ok (.aload_n 0, 1) := by decide +kernel
theorem dX3_at_7 : decode cX3_at 7 = .ok (.getfield 19, 3) := by decide +kernel
theorem dX3_at_10 : decode cX3_at 10 = .ok (.iload_n 1, 1) := by decide +kernel
theorem dX3_at_11 : decode cX3_at 11 = .ok (.iaload, 1) := by decide +kernel
theorem dX3_at_12 : decode cX3_at 12 = .ok (.iload_n 2, 1) := by decide +kernel
theorem dX3_at_13 : decode cX3_at 13 = .ok (.iconst 2, 1) := by decide +kernel
theorem dX3_at_14 : decode cX3_at 14 = .ok (.isub, 1) := by decide +kernel
theorem dX3_at_15 : decode cX3_at 15 = .ok (.imul, 1) := by decide +kernel
theorem dX3_at_16 : decode cX3_at 16 = .ok (.iconst 2, 1) := by decide +kernel
theorem dX3_at_17 : decode cX3_at 17 = .ok (.idiv, 1) := by decide +kernel
theorem dX3_at_18 : decode cX3_at 18 = .ok (.iadd, 1) := by decide +kernel
theorem dX3_at_19 : decode cX3_at 19 = .ok (.ireturn, 1) := by decide +kernel
theorem dX3_clay_0 : decode cX3_clay 0 = .ok (.aload_n 0, 1) := by decide +kernel
theorem dX3_clay_1 : decode cX3_clay 1 = .ok (.getfield 22, 3) := by decide +kernel
theorem dX3_clay_4 : decode cX3_clay 4 = .ok (.iconst 0, 1) := by decide +kernel
theorem dX3_clay_5 : decode cX3_clay 5 = .ok (.iaload, 1) := by decide +kernel
theorem dX3_clay_6 : decode cX3_clay 6 = .ok (.iconst 5, 1) := by decide +kernel
theorem dX3_clay_7 : decode cX3_clay 7 = .ok (.irem, 1) := by decide +kernel
theorem dX3_clay_8 : decode cX3_clay 8 = .ok (.ireturn, 1) := by decide +kernel
theorem dX3_stand_0 : decode cX3_stand 0 = .ok (.iload_n 1, 1) := by decide +kernel
theorem dX3_stand_1 : decode cX3_stand 1 = .ok (.aload_n 0, 1) := by decide +kernel
theorem dX3_stand_2 : decode cX3_stand 2 = .ok (.getfield 22, 3) := by decide +kernel
theorem dX3_stand_5 : decode cX3_stand 5 = .ok (.iconst 0, 1) := by decide +kernel
theorem dX3_stand_6 : decode cX3_stand 6 = .ok (.iaload, 1) := by decide +kernel
theorem dX3_stand_7 : decode cX3_stand 7 = .ok (.iconst 5, 1) := by decide +kernel
theorem dX3_stand_8 : decode cX3_stand 8 = .ok (.idiv, 1) := by decide +kernel
theorem dX3_stand_9 : decode cX3_stand 9 = .ok (.iadd, 1) := by decide +kernel
theorem dX3_stand_10 : decode cX3_stand 10 = .ok (.iconst 5, 1) := by decide +kernel
theorem dX3_stand_11 : decode cX3_stand 11 = .ok (.irem, 1) := by decide +kernel
theorem dX3_stand_12 : decode cX3_stand 12 = .ok (.ireturn, 1) := by decide +kernel
theorem dX3_far_0 : decode cX3_far 0 = .ok (.aload_n 0, 1) := by decide +kernel
theorem dX3_far_1 : decode cX3_far 1 = .ok (.aload_n 0, 1) := by decide +kernel
theorem dX3_far_2 : decode cX3_far 2 = .ok (.iload_n 1, 1) := by decide +kernel
theorem dX3_far_3 : decode cX3_far 3 = .ok (.invokevirtual 45, 3) := by decide +kernel
theorem dX3_far_6 : decode cX3_far 6 = .ok (.aload_n 0, 1) := by decide +kernel
theorem dX3_far_7 : decode cX3_far 7 = .ok (.invokevirtual 49, 3) := by decide +kernel
theorem dX3_far_10 : decode cX3_far 10 = .ok (.invokevirtual 53, 3) := by decide +kernel
theorem dX3_far_13 : decode cX3_far 13 = .ok (.invokestatic 57, 3) := by decide +kernel
theorem dX3_far_16 : decode cX3_far 16 = .ok (.ireturn, 1) := by decide +kernel
theorem dX3_hit_0 : decode cX3_hit 0 = .ok (.aload_n 0, 1) := by decide +kernel
theorem dX3_hit_1 : decode cX3_hit 1 = .ok (.iload_n 1, 1) := by decide +kernel
theorem dX3_hit_2 : decode cX3_hit 2 = .ok (.invokevirtual 62, 3) := by decide +kernel
theorem dX3_hit_5 : decode cX3_hit 5 = .ok (.aload_n 0, 1) := by decide +kernel
theorem dX3_hit_6 : decode cX3_hit 6 = .ok (.getfield 22, 3) := by decide +kernel
theorem dX3_hit_9 : decode cX3_hit 9 = .ok (.bipush 19, 2) := by decide +kernel
theorem dX3_hit_11 : decode cX3_hit 11 = .ok (.iload_n 1, 1) := by decide +kernel
theorem dX3_hit_12 : decode cX3_hit 12 = .ok (.iadd, 1) := by decide +kernel
theorem dX3_hit_13 : decode cX3_hit 13 = .ok (.iaload, 1) := by decide +kernel
theorem dX3_hit_14 : decode cX3_hit 14 = .ok (.aload_n 0, 1) := by decide +kernel
theorem dX3_hit_15 : decode cX3_hit 15 = .ok (.getfield 13, 3) := by decide +kernel
theorem dX3_hit_18 : decode cX3_hit 18 = .ok (.iload_n 1, 1) := by decide +kernel
theorem dX3_hit_19 : decode cX3_hit 19 = .ok (.iaload, 1) := by decide +kernel
theorem dX3_hit_20 : decode cX3_hit 20 = .ok (.idiv, 1) := by decide +kernel
theorem dX3_hit_21 : decode cX3_hit 21 = .ok (.iadd, 1) := by decide +kernel
theorem dX3_hit_22 : decode cX3_hit 22 = .ok (.aload_n 0, 1) := by decide +kernel
theorem dX3_hit_23 : decode cX3_hit 23 = .ok (.getfield 9, 3) := by decide +kernel
theorem dX3_hit_26 : decode cX3_hit 26 = .ok (.iload_n 1, 1) := by decide +kernel
theorem dX3_hit_27 : decode cX3_hit 27 = .ok (.iaload, 1) := by decide +kernel
theorem dX3_hit_28 : decode cX3_hit 28 = .ok (.if_icmp .gt 5, 3) := by decide +kernel
theorem dX3_hit_31 : decode cX3_hit 31 = .ok (.iconst 2, 1) := by decide +kernel
theorem dX3_hit_32 : decode cX3_hit 32 = .ok (.ireturn, 1) := by decide +kernel
theorem dX3_hit_33 : decode cX3_hit 33 = .ok (.aload_n 0, 1) := by decide +kernel
theorem dX3_hit_34 : decode cX3_hit 34 = .ok (.iload_n 1, 1) := by decide +kernel
theorem dX3_hit_35 : decode cX3_hit 35 = .ok (.invokevirtual 62, 3) := by decide +kernel
theorem dX3_hit_38 : decode cX3_hit 38 = .ok (.aload_n 0, 1) := by decide +kernel
theorem dX3_hit_39 : decode cX3_hit 39 = .ok (.getfield 9, 3) := by decide +kernel
theorem dX3_hit_42 : decode cX3_hit 42 = .ok (.iload_n 1, 1) := by decide +kernel
theorem dX3_hit_43 : decode cX3_hit 43 = .ok (.iaload, 1) := by decide +kernel
theorem dX3_hit_44 : decode cX3_hit 44 = .ok (.if_icmp .gt 7, 3) := by decide +kernel
theorem dX3_hit_47 : decode cX3_hit 47 = .ok (.iconst 1, 1) := by decide +kernel
theorem dX3_hit_48 : decode cX3_hit 48 = .ok (.goto 4, 3) := by decide +kernel
theorem dX3_hit_51 : decode cX3_hit 51 = .ok (.iconst 0, 1) := by decide +kernel
theorem dX3_hit_52 : decode cX3_hit 52 = .ok (.ireturn, 1) := by decide +kernel
theorem dX3_shoot_0 : decode cX3_shoot 0 = .ok (.aload_n 0, 1) := by decide +kernel
theorem dX3_shoot_1 : decode cX3_shoot 1 = .ok (.iload_n 1, 1) := by decide +kernel
theorem dX3_shoot_2 : decode cX3_shoot 2 = .ok (.invokevirtual 65, 3) := by decide +kernel
theorem dX3_shoot_5 : decode cX3_shoot 5 = .ok (.istore_n 2, 1) := by decide +kernel
theorem dX3_shoot_6 : decode cX3_shoot 6 = .ok (.aload_n 0, 1) := by decide +kernel
theorem dX3_shoot_7 : decode cX3_shoot 7 = .ok (.getfield 22, 3) := by decide +kernel
theorem dX3_shoot_10 : decode cX3_shoot 10 = .ok (.iconst 1, 1) := by decide +kernel
theorem dX3_shoot_11 : decode cX3_shoot 11 = .ok (.iload_n 1, 1) := by decide +kernel
theorem dX3_shoot_12 : decode cX3_shoot 12 = .ok (.iadd, 1) := by decide +kernel
theorem dX3_shoot_13 : decode cX3_shoot 13 = .ok (.dup2, 1) := by decide +kernel
theorem dX3_shoot_14 : decode cX3_shoot 14 = .ok (.iaload, 1) := by decide +kernel
theorem dX3_shoot_15 : decode cX3_shoot 15 = .ok (.iload_n 2, 1) := by decide +kernel
theorem dX3_shoot_16 : decode cX3_shoot 16 = .ok (.iadd, 1) := by decide +kernel
theorem dX3_shoot_17 : decode cX3_shoot 17 = .ok (.iastore, 1) := by decide +kernel
theorem dX3_shoot_18 : decode cX3_shoot 18 = .ok (.aload_n 0, 1) := by decide +kernel
theorem dX3_shoot_19 : decode cX3_shoot 19 = .ok (.getfield 22, 3) := by decide +kernel
theorem dX3_shoot_22 : decode cX3_shoot 22 = .ok (.bipush 7, 2) := by decide +kernel
theorem dX3_shoot_24 : decode cX3_shoot 24 = .ok (.iload_n 1, 1) := by decide +kernel
theorem dX3_shoot_25 : decode cX3_shoot 25 = .ok (.iadd, 1) := by decide +kernel
theorem dX3_shoot_26 : decode cX3_shoot 26 = .ok (.dup2, 1) := by decide +kernel
theorem dX3_shoot_27 : decode cX3_shoot 27 = .ok (.iaload, 1) := by decide +kernel
theorem dX3_shoot_28 : decode cX3_shoot 28 = .ok (.iload_n 2, 1) := by decide +kernel
theorem dX3_shoot_29 : decode cX3_shoot 29 = .ok (.iconst 2, 1) := by decide +kernel
theorem dX3_shoot_30 : decode cX3_shoot 30 = .ok (.if_icmp .ne 7, 3) := by decide +kernel
theorem dX3_shoot_33 : decode cX3_shoot 33 = .ok (.iconst 1, 1) := by decide +kernel
theorem dX3_shoot_34 : decode cX3_shoot 34 = .ok (.goto 4, 3) := by decide +kernel
theorem dX3_shoot_37 : decode cX3_shoot 37 = .ok (.iconst 0, 1) := by decide +kernel
theorem dX3_shoot_38 : decode cX3_shoot 38 = .ok (.iadd, 1) := by decide +kernel
theorem dX3_shoot_39 : decode cX3_shoot 39 = .ok (.iastore, 1) := by decide +kernel
theorem dX3_shoot_40 : decode cX3_shoot 40 = .ok (.aload_n 0, 1) := by decide +kernel
theorem dX3_shoot_41 : decode cX3_shoot 41 = .ok (.getfield 22, 3) := by decide +kernel
theorem dX3_shoot_44 : decode cX3_shoot 44 = .ok (.bipush 13, 2) := by decide +kernel
theorem dX3_shoot_46 : decode cX3_shoot 46 = .ok (.iload_n 1, 1) := by decide +kernel
theorem dX3_shoot_47 : decode cX3_shoot 47 = .ok (.iadd, 1) := by decide +kernel
theorem dX3_shoot_48 : decode cX3_shoot 48 = .ok (.dup2, 1) := by decide +kernel
theorem dX3_shoot_49 : decode cX3_shoot 49 = .ok (.iaload, 1) := by decide +kernel
theorem dX3_shoot_50 : decode cX3_shoot 50 = .ok (.iload_n 2, 1) := by decide +kernel
theorem dX3_shoot_51 : decode cX3_shoot 51 = .ok (.ifCond .ne 7, 3) := by decide +kernel
theorem dX3_shoot_54 : decode cX3_shoot 54 = .ok (.iconst 1, 1) := by decide +kernel
theorem dX3_shoot_55 : decode cX3_shoot 55 = .ok (.goto 4, 3) := by decide +kernel
theorem dX3_shoot_58 : decode cX3_shoot 58 = .ok (.iconst 0, 1) := by decide +kernel
theorem dX3_shoot_59 : decode cX3_shoot 59 = .ok (.iadd, 1) := by decide +kernel
theorem dX3_shoot_60 : decode cX3_shoot 60 = .ok (.iastore, 1) := by decide +kernel
theorem dX3_shoot_61 : decode cX3_shoot 61 = .ok (.aload_n 0, 1) := by decide +kernel
theorem dX3_shoot_62 : decode cX3_shoot 62 = .ok (.getfield 22, 3) := by decide +kernel
theorem dX3_shoot_65 : decode cX3_shoot 65 = .ok (.bipush 19, 2) := by decide +kernel
theorem dX3_shoot_67 : decode cX3_shoot 67 = .ok (.iload_n 1, 1) := by decide +kernel
theorem dX3_shoot_68 : decode cX3_shoot 68 = .ok (.iadd, 1) := by decide +kernel
theorem dX3_shoot_69 : decode cX3_shoot 69 = .ok (.dup2, 1) := by decide +kernel
theorem dX3_shoot_70 : decode cX3_shoot 70 = .ok (.iaload, 1) := by decide +kernel
theorem dX3_shoot_71 : decode cX3_shoot 71 = .ok (.iload_n 2, 1) := by decide +kernel
theorem dX3_shoot_72 : decode cX3_shoot 72 = .ok (.iconst 2, 1) := by decide +kernel
theorem dX3_shoot_73 : decode cX3_shoot 73 = .ok (.if_icmp .ne 7, 3) := by decide +kernel
theorem dX3_shoot_76 : decode cX3_shoot 76 = .ok (.iconst 1, 1) := by decide +kernel
theorem dX3_shoot_77 : decode cX3_shoot 77 = .ok (.goto 4, 3) := by decide +kernel
theorem dX3_shoot_80 : decode cX3_shoot 80 = .ok (.iconst 2, 1) := by decide +kernel
theorem dX3_shoot_81 : decode cX3_shoot 81 = .ok (.iadd, 1) := by decide +kernel
theorem dX3_shoot_82 : decode cX3_shoot 82 = .ok (.iastore, 1) := by decide +kernel
theorem dX3_shoot_83 : decode cX3_shoot 83 = .ok (.return_, 1) := by decide +kernel
theorem dX3_turnOn_0 : decode cX3_turnOn 0 = .ok (.iconst 0, 1) := by decide +kernel
theorem dX3_turnOn_1 : decode cX3_turnOn 1 = .ok (.istore_n 1, 1) := by decide +kernel
theorem dX3_turnOn_2 : decode cX3_turnOn 2 = .ok (.iload_n 1, 1) := by decide +kernel
theorem dX3_turnOn_3 : decode cX3_turnOn 3 = .ok (.aload_n 0, 1) := by decide +kernel
theorem dX3_turnOn_4 : decode cX3_turnOn 4 = .ok (.getfield 32, 3) := by decide +kernel
theorem dX3_turnOn_7 : decode cX3_turnOn 7 = .ok (.if_icmp .ge 14, 3) := by decide +kernel
theorem dX3_turnOn_10 : decode cX3_turnOn 10 = .ok (.aload_n 0, 1) := by decide +kernel
theorem dX3_turnOn_11 : decode cX3_turnOn 11 = .ok (.iload_n 1, 1) := by decide +kernel
theorem dX3_turnOn_12 : decode cX3_turnOn 12 = .ok (.invokevirtual 68, 3) := by decide +kernel
theorem dX3_turnOn_15 : decode cX3_turnOn 15 = .ok (.iinc 1 1, 3) := by decide +kernel
theorem dX3_turnOn_18 : decode cX3_turnOn 18 = .ok (.goto (-16), 3) := by decide +kernel
theorem dX3_turnOn_21 : decode cX3_turnOn 21 = .ok (.aload_n 0, 1) := by decide +kernel
theorem dX3_turnOn_22 : decode cX3_turnOn 22 = .ok (.invokevirtual 49, 3) := by decide +kernel
theorem dX3_turnOn_25 : decode cX3_turnOn 25 = .ok (.iconst 4, 1) := by decide +kernel
theorem dX3_turnOn_26 : decode cX3_turnOn 26 = .ok (.if_icmp .ne 43, 3) := by decide +kernel
theorem dX3_turnOn_29 : decode cX3_turnOn 29 = .ok (.iconst 0, 1) := by decide +kernel
theorem dX3_turnOn_30 : decode cX3_turnOn 30 = .ok (.istore_n 1, 1) := by decide +kernel
theorem dX3_turnOn_31 : decode cX3_turnOn 31 = .ok (.iload_n 1, 1) := by decide +kernel
theorem dX3_turnOn_32 : decode cX3_turnOn 32 = .ok (.aload_n 0, 1) := by decide +kernel
theorem dX3_turnOn_33 : decode cX3_turnOn 33 = .ok (.getfield 32, 3) := by decide +kernel
theorem dX3_turnOn_36 : decode cX3_turnOn 36 = .ok (.if_icmp .ge 33, 3) := by decide +kernel
theorem dX3_turnOn_39 : decode cX3_turnOn 39 = .ok (.aload_n 0, 1) := by decide +kernel
theorem dX3_turnOn_40 : decode cX3_turnOn 40 = .ok (.getfield 22, 3) := by decide +kernel
theorem dX3_turnOn_43 : decode cX3_turnOn 43 = .ok (.bipush 19, 2) := by decide +kernel
theorem dX3_turnOn_45 : decode cX3_turnOn 45 = .ok (.iload_n 1, 1) := by decide +kernel
theorem dX3_turnOn_46 : decode cX3_turnOn 46 = .ok (.iadd, 1) := by decide +kernel
theorem dX3_turnOn_47 : decode cX3_turnOn 47 = .ok (.iconst 0, 1) := by decide +kernel
theorem dX3_turnOn_48 : decode cX3_turnOn 48 = .ok (.aload_n 0, 1) := by decide +kernel
theorem dX3_turnOn_49 : decode cX3_turnOn 49 = .ok (.getfield 22, 3) := by decide +kernel
theorem dX3_turnOn_52 : decode cX3_turnOn 52 = .ok (.bipush 19, 2) := by decide +kernel
theorem dX3_turnOn_54 : decode cX3_turnOn 54 = .ok (.iload_n 1, 1) := by decide +kernel
theorem dX3_turnOn_55 : decode cX3_turnOn 55 = .ok (.iadd, 1) := by decide +kernel
theorem dX3_turnOn_56 : decode cX3_turnOn 56 = .ok (.iaload, 1) := by decide +kernel
theorem dX3_turnOn_57 : decode cX3_turnOn 57 = .ok (.iconst 3, 1) := by decide +kernel
theorem dX3_turnOn_58 : decode cX3_turnOn 58 = .ok (.isub, 1) := by decide +kernel
theorem dX3_turnOn_59 : decode cX3_turnOn 59 = .ok (.invokestatic 72, 3) := by decide +kernel
theorem dX3_turnOn_62 : decode cX3_turnOn 62 = .ok (.iastore, 1) := by decide +kernel
theorem dX3_turnOn_63 : decode cX3_turnOn 63 = .ok (.iinc 1 1, 3) := by decide +kernel
theorem dX3_turnOn_66 : decode cX3_turnOn 66 = .ok (.goto (-35), 3) := by decide +kernel
theorem dX3_turnOn_69 : decode cX3_turnOn 69 = .ok (.aload_n 0, 1) := by decide +kernel
theorem dX3_turnOn_70 : decode cX3_turnOn 70 = .ok (.getfield 22, 3) := by decide +kernel
theorem dX3_turnOn_73 : decode cX3_turnOn 73 = .ok (.iconst 0, 1) := by decide +kernel
theorem dX3_turnOn_74 : decode cX3_turnOn 74 = .ok (.dup2, 1) := by decide +kernel
theorem dX3_turnOn_75 : decode cX3_turnOn 75 = .ok (.iaload, 1) := by decide +kernel
theorem dX3_turnOn_76 : decode cX3_turnOn 76 = .ok (.iconst 1, 1) := by decide +kernel
theorem dX3_turnOn_77 : decode cX3_turnOn 77 = .ok (.iadd, 1) := by decide +kernel
theorem dX3_turnOn_78 : decode cX3_turnOn 78 = .ok (.iastore, 1) := by decide +kernel
theorem dX3_turnOn_79 : decode cX3_turnOn 79 = .ok (.return_, 1) := by decide +kernel
theorem dX3_turnsOn_0 : decode cX3_turnsOn 0 = .ok (.iconst 0, 1) := by decide +kernel
theorem dX3_turnsOn_1 : decode cX3_turnsOn 1 = .ok (.istore_n 2, 1) := by decide +kernel
theorem dX3_turnsOn_2 : decode cX3_turnsOn 2 = .ok (.iload_n 2, 1) := by decide +kernel
theorem dX3_turnsOn_3 : decode cX3_turnsOn 3 = .ok (.iload_n 1, 1) := by decide +kernel
theorem dX3_turnsOn_4 : decode cX3_turnsOn 4 = .ok (.if_icmp .ge 13, 3) := by decide +kernel
theorem dX3_turnsOn_7 : decode cX3_turnsOn 7 = .ok (.aload_n 0, 1) := by decide +kernel
theorem dX3_turnsOn_8 : decode cX3_turnsOn 8 = .ok (.invokevirtual 75, 3) := by decide +kernel
theorem dX3_turnsOn_11 : decode cX3_turnsOn 11 = .ok (.iinc 2 1, 3) := by decide +kernel
theorem dX3_turnsOn_14 : decode cX3_turnsOn 14 = .ok (.goto (-12), 3) := by decide +kernel
theorem dX3_turnsOn_17 : decode cX3_turnsOn 17 = .ok (.return_, 1) := by decide +kernel
theorem dX3_missed_0 : decode cX3_missed 0 = .ok (.iconst 0, 1) := by decide +kernel
theorem dX3_missed_1 : decode cX3_missed 1 = .ok (.istore_n 1, 1) := by decide +kernel
theorem dX3_missed_2 : decode cX3_missed 2 = .ok (.iconst 0, 1) := by decide +kernel
theorem dX3_missed_3 : decode cX3_missed 3 = .ok (.istore_n 2, 1) := by decide +kernel
theorem dX3_missed_4 : decode cX3_missed 4 = .ok (.iload_n 2, 1) := by decide +kernel
theorem dX3_missed_5 : decode cX3_missed 5 = .ok (.aload_n 0, 1) := by decide +kernel
theorem dX3_missed_6 : decode cX3_missed 6 = .ok (.getfield 32, 3) := by decide +kernel
theorem dX3_missed_9 : decode cX3_missed 9 = .ok (.if_icmp .ge 21, 3) := by decide +kernel
theorem dX3_missed_12 : decode cX3_missed 12 = .ok (.iload_n 1, 1) := by decide +kernel
theorem dX3_missed_13 : decode cX3_missed 13 = .ok (.aload_n 0, 1) := by decide +kernel
theorem dX3_missed_14 : decode cX3_missed 14 = .ok (.getfield 22, 3) := by decide +kernel
theorem dX3_missed_17 : decode cX3_missed 17 = .ok (.bipush 13, 2) := by decide +kernel
theorem dX3_missed_19 : decode cX3_missed 19 = .ok (.iload_n 2, 1) := by decide +kernel
theorem dX3_missed_20 : decode cX3_missed 20 = .ok (.iadd, 1) := by decide +kernel
theorem dX3_missed_21 : decode cX3_missed 21 = .ok (.iaload, 1) := by decide +kernel
theorem dX3_missed_22 : decode cX3_missed 22 = .ok (.iadd, 1) := by decide +kernel
theorem dX3_missed_23 : decode cX3_missed 23 = .ok (.istore_n 1, 1) := by decide +kernel
theorem dX3_missed_24 : decode cX3_missed 24 = .ok (.iinc 2 1, 3) := by decide +kernel
theorem dX3_missed_27 : decode cX3_missed 27 = .ok (.goto (-23), 3) := by decide +kernel
theorem dX3_missed_30 : decode cX3_missed 30 = .ok (.iload_n 1, 1) := by decide +kernel
theorem dX3_missed_31 : decode cX3_missed 31 = .ok (.ireturn, 1) := by decide +kernel
theorem dX3_first_0 : decode cX3_first 0 = .ok (.iconst (-1), 1) := by decide +kernel
theorem dX3_first_1 : decode cX3_first 1 = .ok (.istore_n 1, 1) := by decide +kernel
theorem dX3_first_2 : decode cX3_first 2 = .ok (.iconst 0, 1) := by decide +kernel
theorem dX3_first_3 : decode cX3_first 3 = .ok (.istore_n 2, 1) := by decide +kernel
theorem dX3_first_4 : decode cX3_first 4 = .ok (.iload_n 2, 1) := by decide +kernel
theorem dX3_first_5 : decode cX3_first 5 = .ok (.aload_n 0, 1) := by decide +kernel
theorem dX3_first_6 : decode cX3_first 6 = .ok (.getfield 32, 3) := by decide +kernel
theorem dX3_first_9 : decode cX3_first 9 = .ok (.if_icmp .ge 35, 3) := by decide +kernel
theorem dX3_first_12 : decode cX3_first 12 = .ok (.iload_n 1, 1) := by decide +kernel
theorem dX3_first_13 : decode cX3_first 13 = .ok (.iconst (-1), 1) := by decide +kernel
theorem dX3_first_14 : decode cX3_first 14 = .ok (.if_icmp .eq 22, 3) := by decide +kernel
theorem dX3_first_17 : decode cX3_first 17 = .ok (.aload_n 0, 1) := by decide +kernel
theorem dX3_first_18 : decode cX3_first 18 = .ok (.getfield 22, 3) := by decide +kernel
theorem dX3_first_21 : decode cX3_first 21 = .ok (.iconst 1, 1) := by decide +kernel
theorem dX3_first_22 : decode cX3_first 22 = .ok (.iload_n 2, 1) := by decide +kernel
theorem dX3_first_23 : decode cX3_first 23 = .ok (.iadd, 1) := by decide +kernel
theorem dX3_first_24 : decode cX3_first 24 = .ok (.iaload, 1) := by decide +kernel
theorem dX3_first_25 : decode cX3_first 25 = .ok (.aload_n 0, 1) := by decide +kernel
theorem dX3_first_26 : decode cX3_first 26 = .ok (.getfield 22, 3) := by decide +kernel
theorem dX3_first_29 : decode cX3_first 29 = .ok (.iconst 1, 1) := by decide +kernel
theorem dX3_first_30 : decode cX3_first 30 = .ok (.iload_n 1, 1) := by decide +kernel
theorem dX3_first_31 : decode cX3_first 31 = .ok (.iadd, 1) := by decide +kernel
theorem dX3_first_32 : decode cX3_first 32 = .ok (.iaload, 1) := by decide +kernel
theorem dX3_first_33 : decode cX3_first 33 = .ok (.if_icmp .le 5, 3) := by decide +kernel
theorem dX3_first_36 : decode cX3_first 36 = .ok (.iload_n 2, 1) := by decide +kernel
theorem dX3_first_37 : decode cX3_first 37 = .ok (.istore_n 1, 1) := by decide +kernel
theorem dX3_first_38 : decode cX3_first 38 = .ok (.iinc 2 1, 3) := by decide +kernel
theorem dX3_first_41 : decode cX3_first 41 = .ok (.goto (-37), 3) := by decide +kernel
theorem dX3_first_44 : decode cX3_first 44 = .ok (.iload_n 1, 1) := by decide +kernel
theorem dX3_first_45 : decode cX3_first 45 = .ok (.ireturn, 1) := by decide +kernel
theorem dX3_best_0 : decode cX3_best 0 = .ok (.iconst 0, 1) := by decide +kernel
theorem dX3_best_1 : decode cX3_best 1 = .ok (.istore_n 1, 1) := by decide +kernel
theorem dX3_best_2 : decode cX3_best 2 = .ok (.iconst 0, 1) := by decide +kernel
theorem dX3_best_3 : decode cX3_best 3 = .ok (.istore_n 2, 1) := by decide +kernel
theorem dX3_best_4 : decode cX3_best 4 = .ok (.iload_n 2, 1) := by decide +kernel
theorem dX3_best_5 : decode cX3_best 5 = .ok (.aload_n 0, 1) := by decide +kernel
theorem dX3_best_6 : decode cX3_best 6 = .ok (.getfield 32, 3) := by decide +kernel
theorem dX3_best_9 : decode cX3_best 9 = .ok (.if_icmp .ge 37, 3) := by decide +kernel
theorem dX3_best_12 : decode cX3_best 12 = .ok (.aload_n 0, 1) := by decide +kernel
theorem dX3_best_13 : decode cX3_best 13 = .ok (.getfield 22, 3) := by decide +kernel
theorem dX3_best_16 : decode cX3_best 16 = .ok (.iconst 1, 1) := by decide +kernel
theorem dX3_best_17 : decode cX3_best 17 = .ok (.iload_n 2, 1) := by decide +kernel
theorem dX3_best_18 : decode cX3_best 18 = .ok (.iadd, 1) := by decide +kernel
theorem dX3_best_19 : decode cX3_best 19 = .ok (.iaload, 1) := by decide +kernel
theorem dX3_best_20 : decode cX3_best 20 = .ok (.aload_n 0, 1) := by decide +kernel
theorem dX3_best_21 : decode cX3_best 21 = .ok (.getfield 22, 3) := by decide +kernel
theorem dX3_best_24 : decode cX3_best 24 = .ok (.iconst 1, 1) := by decide +kernel
theorem dX3_best_25 : decode cX3_best 25 = .ok (.aload_n 0, 1) := by decide +kernel
theorem dX3_best_26 : decode cX3_best 26 = .ok (.invokevirtual 78, 3) := by decide +kernel
theorem dX3_best_29 : decode cX3_best 29 = .ok (.iadd, 1) := by decide +kernel
theorem dX3_best_30 : decode cX3_best 30 = .ok (.iaload, 1) := by decide +kernel
theorem dX3_best_31 : decode cX3_best 31 = .ok (.if_icmp .ne 9, 3) := by decide +kernel
theorem dX3_best_34 : decode cX3_best 34 = .ok (.iload_n 1, 1) := by decide +kernel
theorem dX3_best_35 : decode cX3_best 35 = .ok (.iconst 1, 1) := by decide +kernel
theorem dX3_best_36 : decode cX3_best 36 = .ok (.iload_n 2, 1) := by decide +kernel
theorem dX3_best_37 : decode cX3_best 37 = .ok (.ishl, 1) := by decide +kernel
theorem dX3_best_38 : decode cX3_best 38 = .ok (.ior, 1) := by decide +kernel
theorem dX3_best_39 : decode cX3_best 39 = .ok (.istore_n 1, 1) := by decide +kernel
theorem dX3_best_40 : decode cX3_best 40 = .ok (.iinc 2 1, 3) := by decide +kernel
theorem dX3_best_43 : decode cX3_best 43 = .ok (.goto (-39), 3) := by decide +kernel
theorem dX3_best_46 : decode cX3_best 46 = .ok (.iload_n 1, 1) := by decide +kernel
theorem dX3_best_47 : decode cX3_best 47 = .ok (.ireturn, 1) := by decide +kernel
theorem dX3_win_0 : decode cX3_win 0 = .ok (.aload_n 0, 1) := by decide +kernel
theorem dX3_win_1 : decode cX3_win 1 = .ok (.invokevirtual 81, 3) := by decide +kernel
theorem dX3_win_4 : decode cX3_win 4 = .ok (.istore_n 1, 1) := by decide +kernel
theorem dX3_win_5 : decode cX3_win 5 = .ok (.iconst 1, 1) := by decide +kernel
theorem dX3_win_6 : decode cX3_win 6 = .ok (.istore_n 2, 1) := by decide +kernel
theorem dX3_win_7 : decode cX3_win 7 = .ok (.iload_n 2, 1) := by decide +kernel
theorem dX3_win_8 : decode cX3_win 8 = .ok (.bipush 9, 2) := by decide +kernel
theorem dX3_win_10 : decode cX3_win 10 = .ok (.if_icmp .gt 113, 3) := by decide +kernel
theorem dX3_win_13 : decode cX3_win 13 = .ok (.iload_n 1, 1) := by decide +kernel
theorem dX3_win_14 : decode cX3_win 14 = .ok (.invokestatic 84, 3) := by decide +kernel
theorem dX3_win_17 : decode cX3_win 17 = .ok (.iconst 1, 1) := by decide +kernel
theorem dX3_win_18 : decode cX3_win 18 = .ok (.if_icmp .le 105, 3) := by decide +kernel
theorem dX3_win_21 : decode cX3_win 21 = .ok (.iconst 0, 1) := by decide +kernel
theorem dX3_win_22 : decode cX3_win 22 = .ok (.istore_n 3, 1) := by decide +kernel
theorem dX3_win_23 : decode cX3_win 23 = .ok (.iconst 0, 1) := by decide +kernel
theorem dX3_win_24 : decode cX3_win 24 = .ok (.istore 4, 2) := by decide +kernel
theorem dX3_win_26 : decode cX3_win 26 = .ok (.iload 4, 2) := by decide +kernel
theorem dX3_win_28 : decode cX3_win 28 = .ok (.aload_n 0, 1) := by decide +kernel
theorem dX3_win_29 : decode cX3_win 29 = .ok (.getfield 32, 3) := by decide +kernel
theorem dX3_win_32 : decode cX3_win 32 = .ok (.if_icmp .ge 75, 3) := by decide +kernel
theorem dX3_win_35 : decode cX3_win 35 = .ok (.iload_n 1, 1) := by decide +kernel
theorem dX3_win_36 : decode cX3_win 36 = .ok (.iload 4, 2) := by decide +kernel
theorem dX3_win_38 : decode cX3_win 38 = .ok (.ishr, 1) := by decide +kernel
theorem dX3_win_39 : decode cX3_win 39 = .ok (.iconst 1, 1) := by decide +kernel
theorem dX3_win_40 : decode cX3_win 40 = .ok (.iand, 1) := by decide +kernel
theorem dX3_win_41 : decode cX3_win 41 = .ok (.ifCond .ne 6, 3) := by decide +kernel
theorem dX3_win_44 : decode cX3_win 44 = .ok (.goto 57, 3) := by decide +kernel
theorem dX3_win_47 : decode cX3_win 47 = .ok (.bipush 6, 2) := by decide +kernel
theorem dX3_win_49 : decode cX3_win 49 = .ok (.iload_n 2, 1) := by decide +kernel
theorem dX3_win_50 : decode cX3_win 50 = .ok (.imul, 1) := by decide +kernel
theorem dX3_win_51 : decode cX3_win 51 = .ok (.aload_n 0, 1) := by decide +kernel
theorem dX3_win_52 : decode cX3_win 52 = .ok (.getfield 22, 3) := by decide +kernel
theorem dX3_win_55 : decode cX3_win 55 = .ok (.bipush 19, 2) := by decide +kernel
theorem dX3_win_57 : decode cX3_win 57 = .ok (.iload 4, 2) := by decide +kernel
theorem dX3_win_59 : decode cX3_win 59 = .ok (.iadd, 1) := by decide +kernel
theorem dX3_win_60 : decode cX3_win 60 = .ok (.iaload, 1) := by decide +kernel
theorem dX3_win_61 : decode cX3_win 61 = .ok (.aload_n 0, 1) := by decide +kernel
theorem dX3_win_62 : decode cX3_win 62 = .ok (.getfield 13, 3) := by decide +kernel
theorem dX3_win_65 : decode cX3_win 65 = .ok (.iload 4, 2) := by decide +kernel
theorem dX3_win_67 : decode cX3_win 67 = .ok (.iaload, 1) := by decide +kernel
theorem dX3_win_68 : decode cX3_win 68 = .ok (.idiv, 1) := by decide +kernel
theorem dX3_win_69 : decode cX3_win 69 = .ok (.iadd, 1) := by decide +kernel
theorem dX3_win_70 : decode cX3_win 70 = .ok (.aload_n 0, 1) := by decide +kernel
theorem dX3_win_71 : decode cX3_win 71 = .ok (.getfield 9, 3) := by decide +kernel
theorem dX3_win_74 : decode cX3_win 74 = .ok (.iload 4, 2) := by decide +kernel
theorem dX3_win_76 : decode cX3_win 76 = .ok (.iaload, 1) := by decide +kernel
theorem dX3_win_77 : decode cX3_win 77 = .ok (.if_icmp .gt 10, 3) := by decide +kernel
theorem dX3_win_80 : decode cX3_win 80 = .ok (.iload_n 3, 1) := by decide +kernel
theorem dX3_win_81 : decode cX3_win 81 = .ok (.iconst 1, 1) := by decide +kernel
theorem dX3_win_82 : decode cX3_win 82 = .ok (.iload 4, 2) := by decide +kernel
theorem dX3_win_84 : decode cX3_win 84 = .ok (.ishl, 1) := by decide +kernel
theorem dX3_win_85 : decode cX3_win 85 = .ok (.ior, 1) := by decide +kernel
theorem dX3_win_86 : decode cX3_win 86 = .ok (.istore_n 3, 1) := by decide +kernel
theorem dX3_win_87 : decode cX3_win 87 = .ok (.aload_n 0, 1) := by decide +kernel
theorem dX3_win_88 : decode cX3_win 88 = .ok (.getfield 22, 3) := by decide +kernel
theorem dX3_win_91 : decode cX3_win 91 = .ok (.bipush 19, 2) := by decide +kernel
theorem dX3_win_93 : decode cX3_win 93 = .ok (.iload 4, 2) := by decide +kernel
theorem dX3_win_95 : decode cX3_win 95 = .ok (.iadd, 1) := by decide +kernel
theorem dX3_win_96 : decode cX3_win 96 = .ok (.dup2, 1) := by decide +kernel
theorem dX3_win_97 : decode cX3_win 97 = .ok (.iaload, 1) := by decide +kernel
theorem dX3_win_98 : decode cX3_win 98 = .ok (.iconst 1, 1) := by decide +kernel
theorem dX3_win_99 : decode cX3_win 99 = .ok (.iadd, 1) := by decide +kernel
theorem dX3_win_100 : decode cX3_win 100 = .ok (.iastore, 1) := by decide +kernel
theorem dX3_win_101 : decode cX3_win 101 = .ok (.iinc 4 1, 3) := by decide +kernel
theorem dX3_win_104 : decode cX3_win 104 = .ok (.goto (-78), 3) := by decide +kernel
theorem dX3_win_107 : decode cX3_win 107 = .ok (.iload_n 3, 1) := by decide +kernel
theorem dX3_win_108 : decode cX3_win 108 = .ok (.ifCond .ne 7, 3) := by decide +kernel
theorem dX3_win_111 : decode cX3_win 111 = .ok (.iload_n 1, 1) := by decide +kernel
theorem dX3_win_112 : decode cX3_win 112 = .ok (.goto 4, 3) := by decide +kernel
theorem dX3_win_115 : decode cX3_win 115 = .ok (.iload_n 3, 1) := by decide +kernel
theorem dX3_win_116 : decode cX3_win 116 = .ok (.istore_n 1, 1) := by decide +kernel
theorem dX3_win_117 : decode cX3_win 117 = .ok (.iinc 2 1, 3) := by decide +kernel
theorem dX3_win_120 : decode cX3_win 120 = .ok (.goto (-113), 3) := by decide +kernel
theorem dX3_win_123 : decode cX3_win 123 = .ok (.iload_n 1, 1) := by decide +kernel
theorem dX3_win_124 : decode cX3_win 124 = .ok (.invokestatic 89, 3) := by decide +kernel
theorem dX3_win_127 : decode cX3_win 127 = .ok (.ireturn, 1) := by decide +kernel
theorem dX3_addGun_0 : decode cX3_addGun 0 = .ok (.aload_n 0, 1) := by decide +kernel
theorem dX3_addGun_1 : decode cX3_addGun 1 = .ok (.iconst 0, 1) := by decide +kernel
theorem dX3_addGun_2 : decode cX3_addGun 2 = .ok (.putfield 28, 3) := by decide +kernel
theorem dX3_addGun_5 : decode cX3_addGun 5 = .ok (.iload_n 1, 1) := by decide +kernel
theorem dX3_addGun_6 : decode cX3_addGun 6 = .ok (.iconst 5, 1) := by decide +kernel
theorem dX3_addGun_7 : decode cX3_addGun 7 = .ok (.bipush 60, 2) := by decide +kernel
theorem dX3_addGun_9 : decode cX3_addGun 9 = .ok (.invokestatic 35, 3) := by decide +kernel
theorem dX3_addGun_12 : decode cX3_addGun 12 = .ok (.ifCond .eq 13, 3) := by decide +kernel
theorem dX3_addGun_15 : decode cX3_addGun 15 = .ok (.iload_n 2, 1) := by decide +kernel
theorem dX3_addGun_16 : decode cX3_addGun 16 = .ok (.iconst 1, 1) := by decide +kernel
theorem dX3_addGun_17 : decode cX3_addGun 17 = .ok (.bipush 9, 2) := by decide +kernel
theorem dX3_addGun_19 : decode cX3_addGun 19 = .ok (.invokestatic 35, 3) := by decide +kernel
theorem dX3_addGun_22 : decode cX3_addGun 22 = .ok (.ifCond .ne 9, 3) := by decide +kernel
theorem dX3_addGun_25 : decode cX3_addGun 25 = .ok (.aload_n 0, 1) := by decide +kernel
theorem dX3_addGun_26 : decode cX3_addGun 26 = .ok (.iconst 1, 1) := by decide +kernel
theorem dX3_addGun_27 : decode cX3_addGun 27 = .ok (.invokevirtual 92, 3) := by decide +kernel
theorem dX3_addGun_30 : decode cX3_addGun 30 = .ok (.ireturn, 1) := by decide +kernel
theorem dX3_addGun_31 : decode cX3_addGun 31 = .ok (.aload_n 0, 1) := by decide +kernel
theorem dX3_addGun_32 : decode cX3_addGun 32 = .ok (.getfield 32, 3) := by decide +kernel
theorem dX3_addGun_35 : decode cX3_addGun 35 = .ok (.bipush 6, 2) := by decide +kernel
theorem dX3_addGun_37 : decode cX3_addGun 37 = .ok (.if_icmp .ne 9, 3) := by decide +kernel
theorem dX3_addGun_40 : decode cX3_addGun 40 = .ok (.aload_n 0, 1) := by decide +kernel
theorem dX3_addGun_41 : decode cX3_addGun 41 = .ok (.iconst 2, 1) := by decide +kernel
theorem dX3_addGun_42 : decode cX3_addGun 42 = .ok (.invokevirtual 92, 3) := by decide +kernel
theorem dX3_addGun_45 : decode cX3_addGun 45 = .ok (.ireturn, 1) := by decide +kernel
theorem dX3_addGun_46 : decode cX3_addGun 46 = .ok (.aload_n 0, 1) := by decide +kernel
theorem dX3_addGun_47 : decode cX3_addGun 47 = .ok (.getfield 9, 3) := by decide +kernel
theorem dX3_addGun_50 : decode cX3_addGun 50 = .ok (.aload_n 0, 1) := by decide +kernel
theorem dX3_addGun_51 : decode cX3_addGun 51 = .ok (.getfield 32, 3) := by decide +kernel
theorem dX3_addGun_54 : decode cX3_addGun 54 = .ok (.iload_n 1, 1) := by decide +kernel
theorem dX3_addGun_55 : decode cX3_addGun 55 = .ok (.iastore, 1) := by decide +kernel
theorem dX3_addGun_56 : decode cX3_addGun 56 = .ok (.aload_n 0, 1) := by decide +kernel
theorem dX3_addGun_57 : decode cX3_addGun 57 = .ok (.getfield 13, 3) := by decide +kernel
theorem dX3_addGun_60 : decode cX3_addGun 60 = .ok (.aload_n 0, 1) := by decide +kernel
theorem dX3_addGun_61 : decode cX3_addGun 61 = .ok (.getfield 32, 3) := by decide +kernel
theorem dX3_addGun_64 : decode cX3_addGun 64 = .ok (.iload_n 2, 1) := by decide +kernel
theorem dX3_addGun_65 : decode cX3_addGun 65 = .ok (.iastore, 1) := by decide +kernel
theorem dX3_addGun_66 : decode cX3_addGun 66 = .ok (.aload_n 0, 1) := by decide +kernel
theorem dX3_addGun_67 : decode cX3_addGun 67 = .ok (.dup, 1) := by decide +kernel
theorem dX3_addGun_68 : decode cX3_addGun 68 = .ok (.getfield 32, 3) := by decide +kernel
theorem dX3_addGun_71 : decode cX3_addGun 71 = .ok (.iconst 1, 1) := by decide +kernel
theorem dX3_addGun_72 : decode cX3_addGun 72 = .ok (.iadd, 1) := by decide +kernel
theorem dX3_addGun_73 : decode cX3_addGun 73 = .ok (.putfield 32, 3) := by decide +kernel
theorem dX3_addGun_76 : decode cX3_addGun 76 = .ok (.aload_n 0, 1) := by decide +kernel
theorem dX3_addGun_77 : decode cX3_addGun 77 = .ok (.getfield 32, 3) := by decide +kernel
theorem dX3_addGun_80 : decode cX3_addGun 80 = .ok (.iconst 1, 1) := by decide +kernel
theorem dX3_addGun_81 : decode cX3_addGun 81 = .ok (.isub, 1) := by decide +kernel
theorem dX3_addGun_82 : decode cX3_addGun 82 = .ok (.ireturn, 1) := by decide +kernel
theorem dX3_setTrap_0 : decode cX3_setTrap 0 = .ok (.aload_n 0, 1) := by decide +kernel
theorem dX3_setTrap_1 : decode cX3_setTrap 1 = .ok (.iconst 0, 1) := by decide +kernel
theorem dX3_setTrap_2 : decode cX3_setTrap 2 = .ok (.putfield 28, 3) := by decide +kernel
theorem dX3_setTrap_5 : decode cX3_setTrap 5 = .ok (.iload_n 1, 1) := by decide +kernel
theorem dX3_setTrap_6 : decode cX3_setTrap 6 = .ok (.iconst 0, 1) := by decide +kernel
theorem dX3_setTrap_7 : decode cX3_setTrap 7 = .ok (.iconst 4, 1) := by decide +kernel
theorem dX3_setTrap_8 : decode cX3_setTrap 8 = .ok (.invokestatic 35, 3) := by decide +kernel
theorem dX3_setTrap_11 : decode cX3_setTrap 11 = .ok (.ifCond .ne 9, 3) := by decide +kernel
theorem dX3_setTrap_14 : decode cX3_setTrap 14 = .ok (.aload_n 0, 1) := by decide +kernel
theorem dX3_setTrap_15 : decode cX3_setTrap 15 = .ok (.iconst 1, 1) := by decide +kernel
theorem dX3_setTrap_16 : decode cX3_setTrap 16 = .ok (.invokevirtual 92, 3) := by decide +kernel
theorem dX3_setTrap_19 : decode cX3_setTrap 19 = .ok (.ireturn, 1) := by decide +kernel
theorem dX3_setTrap_20 : decode cX3_setTrap 20 = .ok (.iload_n 2, 1) := by decide +kernel
theorem dX3_setTrap_21 : decode cX3_setTrap 21 = .ok (.bipush (-45), 2) := by decide +kernel
theorem dX3_setTrap_23 : decode cX3_setTrap 23 = .ok (.bipush 45, 2) := by decide +kernel
theorem dX3_setTrap_25 : decode cX3_setTrap 25 = .ok (.invokestatic 35, 3) := by decide +kernel
theorem dX3_setTrap_28 : decode cX3_setTrap 28 = .ok (.ifCond .eq 13, 3) := by decide +kernel
theorem dX3_setTrap_31 : decode cX3_setTrap 31 = .ok (.iload_n 3, 1) := by decide +kernel
theorem dX3_setTrap_32 : decode cX3_setTrap 32 = .ok (.iconst 0, 1) := by decide +kernel
theorem dX3_setTrap_33 : decode cX3_setTrap 33 = .ok (.bipush 45, 2) := by decide +kernel
theorem dX3_setTrap_35 : decode cX3_setTrap 35 = .ok (.invokestatic 35, 3) := by decide +kernel
theorem dX3_setTrap_38 : decode cX3_setTrap 38 = .ok (.ifCond .ne 9, 3) := by decide +kernel
theorem dX3_setTrap_41 : decode cX3_setTrap 41 = .ok (.aload_n 0, 1) := by decide +kernel
theorem dX3_setTrap_42 : decode cX3_setTrap 42 = .ok (.iconst 2, 1) := by decide +kernel
theorem dX3_setTrap_43 : decode cX3_setTrap 43 = .ok (.invokevirtual 92, 3) := by decide +kernel
theorem dX3_setTrap_46 : decode cX3_setTrap 46 = .ok (.ireturn, 1) := by decide +kernel
theorem dX3_setTrap_47 : decode cX3_setTrap 47 = .ok (.aload_n 0, 1) := by decide +kernel
theorem dX3_setTrap_48 : decode cX3_setTrap 48 = .ok (.getfield 16, 3) := by decide +kernel
theorem dX3_setTrap_51 : decode cX3_setTrap 51 = .ok (.iload_n 1, 1) := by decide +kernel
theorem dX3_setTrap_52 : decode cX3_setTrap 52 = .ok (.iaload, 1) := by decide +kernel
theorem dX3_setTrap_53 : decode cX3_setTrap 53 = .ok (.istore 4, 2) := by decide +kernel
theorem dX3_setTrap_55 : decode cX3_setTrap 55 = .ok (.aload_n 0, 1) := by decide +kernel
theorem dX3_setTrap_56 : decode cX3_setTrap 56 = .ok (.getfield 16, 3) := by decide +kernel
theorem dX3_setTrap_59 : decode cX3_setTrap 59 = .ok (.iload_n 1, 1) := by decide +kernel
theorem dX3_setTrap_60 : decode cX3_setTrap 60 = .ok (.iload_n 2, 1) := by decide +kernel
theorem dX3_setTrap_61 : decode cX3_setTrap 61 = .ok (.iastore, 1) := by decide +kernel
theorem dX3_setTrap_62 : decode cX3_setTrap 62 = .ok (.aload_n 0, 1) := by decide +kernel
theorem dX3_setTrap_63 : decode cX3_setTrap 63 = .ok (.getfield 19, 3) := by decide +kernel
theorem dX3_setTrap_66 : decode cX3_setTrap 66 = .ok (.iload_n 1, 1) := by decide +kernel
theorem dX3_setTrap_67 : decode cX3_setTrap 67 = .ok (.iload_n 3, 1) := by decide +kernel
theorem dX3_setTrap_68 : decode cX3_setTrap 68 = .ok (.iastore, 1) := by decide +kernel
theorem dX3_setTrap_69 : decode cX3_setTrap 69 = .ok (.iload 4, 2) := by decide +kernel
theorem dX3_setTrap_71 : decode cX3_setTrap 71 = .ok (.ireturn, 1) := by decide +kernel
theorem dX3_rest_0 : decode cX3_rest 0 = .ok (.aload_n 0, 1) := by decide +kernel
theorem dX3_rest_1 : decode cX3_rest 1 = .ok (.iconst 0, 1) := by decide +kernel
theorem dX3_rest_2 : decode cX3_rest 2 = .ok (.putfield 28, 3) := by decide +kernel
theorem dX3_rest_5 : decode cX3_rest 5 = .ok (.aload_n 0, 1) := by decide +kernel
theorem dX3_rest_6 : decode cX3_rest 6 = .ok (.iload_n 1, 1) := by decide +kernel
theorem dX3_rest_7 : decode cX3_rest 7 = .ok (.invokevirtual 95, 3) := by decide +kernel
theorem dX3_rest_10 : decode cX3_rest 10 = .ok (.ifCond .ne 9, 3) := by decide +kernel
theorem dX3_rest_13 : decode cX3_rest 13 = .ok (.aload_n 0, 1) := by decide +kernel
theorem dX3_rest_14 : decode cX3_rest 14 = .ok (.iconst 1, 1) := by decide +kernel
theorem dX3_rest_15 : decode cX3_rest 15 = .ok (.invokevirtual 92, 3) := by decide +kernel
theorem dX3_rest_18 : decode cX3_rest 18 = .ok (.ireturn, 1) := by decide +kernel
theorem dX3_rest_19 : decode cX3_rest 19 = .ok (.aload_n 0, 1) := by decide +kernel
theorem dX3_rest_20 : decode cX3_rest 20 = .ok (.getfield 22, 3) := by decide +kernel
theorem dX3_rest_23 : decode cX3_rest 23 = .ok (.bipush 19, 2) := by decide +kernel
theorem dX3_rest_25 : decode cX3_rest 25 = .ok (.iload_n 1, 1) := by decide +kernel
theorem dX3_rest_26 : decode cX3_rest 26 = .ok (.iadd, 1) := by decide +kernel
theorem dX3_rest_27 : decode cX3_rest 27 = .ok (.iaload, 1) := by decide +kernel
theorem dX3_rest_28 : decode cX3_rest 28 = .ok (.istore_n 2, 1) := by decide +kernel
theorem dX3_rest_29 : decode cX3_rest 29 = .ok (.aload_n 0, 1) := by decide +kernel
theorem dX3_rest_30 : decode cX3_rest 30 = .ok (.getfield 22, 3) := by decide +kernel
theorem dX3_rest_33 : decode cX3_rest 33 = .ok (.bipush 19, 2) := by decide +kernel
theorem dX3_rest_35 : decode cX3_rest 35 = .ok (.iload_n 1, 1) := by decide +kernel
theorem dX3_rest_36 : decode cX3_rest 36 = .ok (.iadd, 1) := by decide +kernel
theorem dX3_rest_37 : decode cX3_rest 37 = .ok (.iconst 0, 1) := by decide +kernel
theorem dX3_rest_38 : decode cX3_rest 38 = .ok (.iastore, 1) := by decide +kernel
theorem dX3_rest_39 : decode cX3_rest 39 = .ok (.iload_n 2, 1) := by decide +kernel
theorem dX3_rest_40 : decode cX3_rest 40 = .ok (.ireturn, 1) := by decide +kernel
theorem dX3_pass_0 : decode cX3_pass 0 = .ok (.aload_n 0, 1) := by decide +kernel
theorem dX3_pass_1 : decode cX3_pass 1 = .ok (.iconst 0, 1) := by decide +kernel
theorem dX3_pass_2 : decode cX3_pass 2 = .ok (.putfield 28, 3) := by decide +kernel
theorem dX3_pass_5 : decode cX3_pass 5 = .ok (.iload_n 1, 1) := by decide +kernel
theorem dX3_pass_6 : decode cX3_pass 6 = .ok (.iconst 1, 1) := by decide +kernel
theorem dX3_pass_7 : decode cX3_pass 7 = .ok (.bipush 50, 2) := by decide +kernel
theorem dX3_pass_9 : decode cX3_pass 9 = .ok (.invokestatic 35, 3) := by decide +kernel
theorem dX3_pass_12 : decode cX3_pass 12 = .ok (.ifCond .ne 9, 3) := by decide +kernel
theorem dX3_pass_15 : decode cX3_pass 15 = .ok (.aload_n 0, 1) := by decide +kernel
theorem dX3_pass_16 : decode cX3_pass 16 = .ok (.iconst 1, 1) := by decide +kernel
theorem dX3_pass_17 : decode cX3_pass 17 = .ok (.invokevirtual 92, 3) := by decide +kernel
theorem dX3_pass_20 : decode cX3_pass 20 = .ok (.ireturn, 1) := by decide +kernel
theorem dX3_pass_21 : decode cX3_pass 21 = .ok (.aload_n 0, 1) := by decide +kernel
theorem dX3_pass_22 : decode cX3_pass 22 = .ok (.invokevirtual 99, 3) := by decide +kernel
theorem dX3_pass_25 : decode cX3_pass 25 = .ok (.istore_n 2, 1) := by decide +kernel
theorem dX3_pass_26 : decode cX3_pass 26 = .ok (.aload_n 0, 1) := by decide +kernel
theorem dX3_pass_27 : decode cX3_pass 27 = .ok (.iload_n 1, 1) := by decide +kernel
theorem dX3_pass_28 : decode cX3_pass 28 = .ok (.invokevirtual 102, 3) := by decide +kernel
theorem dX3_pass_31 : decode cX3_pass 31 = .ok (.aload_n 0, 1) := by decide +kernel
theorem dX3_pass_32 : decode cX3_pass 32 = .ok (.invokevirtual 99, 3) := by decide +kernel
theorem dX3_pass_35 : decode cX3_pass 35 = .ok (.iload_n 2, 1) := by decide +kernel
theorem dX3_pass_36 : decode cX3_pass 36 = .ok (.isub, 1) := by decide +kernel
theorem dX3_pass_37 : decode cX3_pass 37 = .ok (.ireturn, 1) := by decide +kernel
theorem dX3_shootOff_0 : decode cX3_shootOff 0 = .ok (.aload_n 0, 1) := by decide +kernel
theorem dX3_shootOff_1 : decode cX3_shootOff 1 = .ok (.getfield 32, 3) := by decide +kernel
theorem dX3_shootOff_4 : decode cX3_shootOff 4 = .ok (.ifCond .ne 9, 3) := by decide +kernel
theorem dX3_shootOff_7 : decode cX3_shootOff 7 = .ok (.aload_n 0, 1) := by decide +kernel
theorem dX3_shootOff_8 : decode cX3_shootOff 8 = .ok (.iconst 1, 1) := by decide +kernel
theorem dX3_shootOff_9 : decode cX3_shootOff 9 = .ok (.invokevirtual 92, 3) := by decide +kernel
theorem dX3_shootOff_12 : decode cX3_shootOff 12 = .ok (.ireturn, 1) := by decide +kernel
theorem dX3_shootOff_13 : decode cX3_shootOff 13 = .ok (.aload_n 0, 1) := by decide +kernel
theorem dX3_shootOff_14 : decode cX3_shootOff 14 = .ok (.invokevirtual 105, 3) := by decide +kernel
theorem dX3_shootOff_17 : decode cX3_shootOff 17 = .ok (.istore_n 1, 1) := by decide +kernel
theorem dX3_shootOff_18 : decode cX3_shootOff 18 = .ok (.aload_n 0, 1) := by decide +kernel
theorem dX3_shootOff_19 : decode cX3_shootOff 19 = .ok (.getfield 22, 3) := by decide +kernel
theorem dX3_shootOff_22 : decode cX3_shootOff 22 = .ok (.iconst 1, 1) := by decide +kernel
theorem dX3_shootOff_23 : decode cX3_shootOff 23 = .ok (.iload_n 1, 1) := by decide +kernel
theorem dX3_shootOff_24 : decode cX3_shootOff 24 = .ok (.iadd, 1) := by decide +kernel
theorem dX3_shootOff_25 : decode cX3_shootOff 25 = .ok (.dup2, 1) := by decide +kernel
theorem dX3_shootOff_26 : decode cX3_shootOff 26 = .ok (.iaload, 1) := by decide +kernel
theorem dX3_shootOff_27 : decode cX3_shootOff 27 = .ok (.iconst 1, 1) := by decide +kernel
theorem dX3_shootOff_28 : decode cX3_shootOff 28 = .ok (.iadd, 1) := by decide +kernel
theorem dX3_shootOff_29 : decode cX3_shootOff 29 = .ok (.iastore, 1) := by decide +kernel
theorem dX3_shootOff_30 : decode cX3_shootOff 30 = .ok (.aload_n 0, 1) := by decide +kernel
theorem dX3_shootOff_31 : decode cX3_shootOff 31 = .ok (.iload_n 1, 1) := by decide +kernel
theorem dX3_shootOff_32 : decode cX3_shootOff 32 = .ok (.invokevirtual 108, 3) := by decide +kernel
theorem dX3_shootOff_35 : decode cX3_shootOff 35 = .ok (.ireturn, 1) := by decide +kernel
theorem dX3_turn_0 : decode cX3_turn 0 = .ok (.aload_n 0, 1) := by decide +kernel
theorem dX3_turn_1 : decode cX3_turn 1 = .ok (.aload_n 0, 1) := by decide +kernel
theorem dX3_turn_2 : decode cX3_turn 2 = .ok (.getfield 22, 3) := by decide +kernel
theorem dX3_turn_5 : decode cX3_turn 5 = .ok (.iconst 0, 1) := by decide +kernel
theorem dX3_turn_6 : decode cX3_turn 6 = .ok (.iaload, 1) := by decide +kernel
theorem dX3_turn_7 : decode cX3_turn 7 = .ok (.invokevirtual 108, 3) := by decide +kernel
theorem dX3_turn_10 : decode cX3_turn 10 = .ok (.ireturn, 1) := by decide +kernel
theorem dX3_angle_0 : decode cX3_angle 0 = .ok (.aload_n 0, 1) := by decide +kernel
theorem dX3_angle_1 : decode cX3_angle 1 = .ok (.iconst 0, 1) := by decide +kernel
theorem dX3_angle_2 : decode cX3_angle 2 = .ok (.putfield 28, 3) := by decide +kernel
theorem dX3_angle_5 : decode cX3_angle 5 = .ok (.iload_n 1, 1) := by decide +kernel
theorem dX3_angle_6 : decode cX3_angle 6 = .ok (.iconst 0, 1) := by decide +kernel
theorem dX3_angle_7 : decode cX3_angle 7 = .ok (.iconst 4, 1) := by decide +kernel
theorem dX3_angle_8 : decode cX3_angle 8 = .ok (.invokestatic 35, 3) := by decide +kernel
theorem dX3_angle_11 : decode cX3_angle 11 = .ok (.ifCond .eq 21, 3) := by decide +kernel
theorem dX3_angle_14 : decode cX3_angle 14 = .ok (.iload_n 2, 1) := by decide +kernel
theorem dX3_angle_15 : decode cX3_angle 15 = .ok (.iconst 0, 1) := by decide +kernel
theorem dX3_angle_16 : decode cX3_angle 16 = .ok (.iconst 4, 1) := by decide +kernel
theorem dX3_angle_17 : decode cX3_angle 17 = .ok (.invokestatic 35, 3) := by decide +kernel
theorem dX3_angle_20 : decode cX3_angle 20 = .ok (.ifCond .eq 12, 3) := by decide +kernel
theorem dX3_angle_23 : decode cX3_angle 23 = .ok (.aload_n 0, 1) := by decide +kernel
theorem dX3_angle_24 : decode cX3_angle 24 = .ok (.iload_n 1, 1) := by decide +kernel
theorem dX3_angle_25 : decode cX3_angle 25 = .ok (.iload_n 2, 1) := by decide +kernel
theorem dX3_angle_26 : decode cX3_angle 26 = .ok (.invokevirtual 53, 3) := by decide +kernel
theorem dX3_angle_29 : decode cX3_angle 29 = .ok (.goto 8, 3) := by decide +kernel
theorem dX3_angle_32 : decode cX3_angle 32 = .ok (.aload_n 0, 1) := by decide +kernel
theorem dX3_angle_33 : decode cX3_angle 33 = .ok (.iconst 1, 1) := by decide +kernel
theorem dX3_angle_34 : decode cX3_angle 34 = .ok (.invokevirtual 92, 3) := by decide +kernel
theorem dX3_angle_37 : decode cX3_angle 37 = .ok (.ireturn, 1) := by decide +kernel
theorem dX3_hardest_0 : decode cX3_hardest 0 = .ok (.iconst 0, 1) := by decide +kernel
theorem dX3_hardest_1 : decode cX3_hardest 1 = .ok (.istore_n 2, 1) := by decide +kernel
theorem dX3_hardest_2 : decode cX3_hardest 2 = .ok (.iconst 1, 1) := by decide +kernel
theorem dX3_hardest_3 : decode cX3_hardest 3 = .ok (.istore_n 3, 1) := by decide +kernel
theorem dX3_hardest_4 : decode cX3_hardest 4 = .ok (.iload_n 3, 1) := by decide +kernel
theorem dX3_hardest_5 : decode cX3_hardest 5 = .ok (.iconst 5, 1) := by decide +kernel
theorem dX3_hardest_6 : decode cX3_hardest 6 = .ok (.if_icmp .ge 32, 3) := by decide +kernel
theorem dX3_hardest_9 : decode cX3_hardest 9 = .ok (.aload_n 0, 1) := by decide +kernel
theorem dX3_hardest_10 : decode cX3_hardest 10 = .ok (.iload_n 1, 1) := by decide +kernel
theorem dX3_hardest_11 : decode cX3_hardest 11 = .ok (.iload_n 3, 1) := by decide +kernel
theorem dX3_hardest_12 : decode cX3_hardest 12 = .ok (.invokevirtual 53, 3) := by decide +kernel
theorem dX3_hardest_15 : decode cX3_hardest 15 = .ok (.invokestatic 57, 3) := by decide +kernel
theorem dX3_hardest_18 : decode cX3_hardest 18 = .ok (.aload_n 0, 1) := by decide +kernel
theorem dX3_hardest_19 : decode cX3_hardest 19 = .ok (.iload_n 1, 1) := by decide +kernel
theorem dX3_hardest_20 : decode cX3_hardest 20 = .ok (.iload_n 2, 1) := by decide +kernel
theorem dX3_hardest_21 : decode cX3_hardest 21 = .ok (.invokevirtual 53, 3) := by decide +kernel
theorem dX3_hardest_24 : decode cX3_hardest 24 = .ok (.invokestatic 57, 3) := by decide +kernel
theorem dX3_hardest_27 : decode cX3_hardest 27 = .ok (.if_icmp .le 5, 3) := by decide +kernel
theorem dX3_hardest_30 : decode cX3_hardest 30 = .ok (.iload_n 3, 1) := by decide +kernel
theorem dX3_hardest_31 : decode cX3_hardest 31 = .ok (.istore_n 2, 1) := by decide +kernel
theorem dX3_hardest_32 : decode cX3_hardest 32 = .ok (.iinc 3 1, 3) := by decide +kernel
theorem dX3_hardest_35 : decode cX3_hardest 35 = .ok (.goto (-31), 3) := by decide +kernel
theorem dX3_hardest_38 : decode cX3_hardest 38 = .ok (.iload_n 2, 1) := by decide +kernel
theorem dX3_hardest_39 : decode cX3_hardest 39 = .ok (.ireturn, 1) := by decide +kernel
theorem dX3_hardestClay_0 : decode cX3_hardestClay 0 = .ok (.aload_n 0, 1) := by decide +kernel
theorem dX3_hardestClay_1 : decode cX3_hardestClay 1 = .ok (.iconst 0, 1) := by decide +kernel
theorem dX3_hardestClay_2 : decode cX3_hardestClay 2 = .ok (.putfield 28, 3) := by decide +kernel
theorem dX3_hardestClay_5 : decode cX3_hardestClay 5 = .ok (.iload_n 1, 1) := by decide +kernel
theorem dX3_hardestClay_6 : decode cX3_hardestClay 6 = .ok (.iconst 0, 1) := by decide +kernel
theorem dX3_hardestClay_7 : decode cX3_hardestClay 7 = .ok (.iconst 4, 1) := by decide +kernel
theorem dX3_hardestClay_8 : decode cX3_hardestClay 8 = .ok (.invokestatic 35, 3) := by decide +kernel
theorem dX3_hardestClay_11 : decode cX3_hardestClay 11 = .ok (.ifCond .eq 11, 3) := by decide +kernel
theorem dX3_hardestClay_14 : decode cX3_hardestClay 14 = .ok (.aload_n 0, 1) := by decide +kernel
theorem dX3_hardestClay_15 : decode cX3_hardestClay 15 = .ok (.iload_n 1, 1) := by decide +kernel
theorem dX3_hardestClay_16 : decode cX3_hardestClay 16 = .ok (.invokevirtual 111, 3) := by decide +kernel
theorem dX3_hardestClay_19 : decode cX3_hardestClay 19 = .ok (.goto 8, 3) := by decide +kernel
theorem dX3_hardestClay_22 : decode cX3_hardestClay 22 = .ok (.aload_n 0, 1) := by decide +kernel
theorem dX3_hardestClay_23 : decode cX3_hardestClay 23 = .ok (.iconst 1, 1) := by decide +kernel
theorem dX3_hardestClay_24 : decode cX3_hardestClay 24 = .ok (.invokevirtual 92, 3) := by decide +kernel
theorem dX3_hardestClay_27 : decode cX3_hardestClay 27 = .ok (.ireturn, 1) := by decide +kernel
theorem dX3_standOf_0 : decode cX3_standOf 0 = .ok (.aload_n 0, 1) := by decide +kernel
theorem dX3_standOf_1 : decode cX3_standOf 1 = .ok (.iconst 0, 1) := by decide +kernel
theorem dX3_standOf_2 : decode cX3_standOf 2 = .ok (.putfield 28, 3) := by decide +kernel
theorem dX3_standOf_5 : decode cX3_standOf 5 = .ok (.aload_n 0, 1) := by decide +kernel
theorem dX3_standOf_6 : decode cX3_standOf 6 = .ok (.iload_n 1, 1) := by decide +kernel
theorem dX3_standOf_7 : decode cX3_standOf 7 = .ok (.invokevirtual 95, 3) := by decide +kernel
theorem dX3_standOf_10 : decode cX3_standOf 10 = .ok (.ifCond .eq 11, 3) := by decide +kernel
theorem dX3_standOf_13 : decode cX3_standOf 13 = .ok (.aload_n 0, 1) := by decide +kernel
theorem dX3_standOf_14 : decode cX3_standOf 14 = .ok (.iload_n 1, 1) := by decide +kernel
theorem dX3_standOf_15 : decode cX3_standOf 15 = .ok (.invokevirtual 45, 3) := by decide +kernel
theorem dX3_standOf_18 : decode cX3_standOf 18 = .ok (.goto 8, 3) := by decide +kernel
theorem dX3_standOf_21 : decode cX3_standOf 21 = .ok (.aload_n 0, 1) := by decide +kernel
theorem dX3_standOf_22 : decode cX3_standOf 22 = .ok (.iconst 1, 1) := by decide +kernel
theorem dX3_standOf_23 : decode cX3_standOf 23 = .ok (.invokevirtual 92, 3) := by decide +kernel
theorem dX3_standOf_26 : decode cX3_standOf 26 = .ok (.ireturn, 1) := by decide +kernel
theorem dX3_angleFor_0 : decode cX3_angleFor 0 = .ok (.aload_n 0, 1) := by decide +kernel
theorem dX3_angleFor_1 : decode cX3_angleFor 1 = .ok (.iconst 0, 1) := by decide +kernel
theorem dX3_angleFor_2 : decode cX3_angleFor 2 = .ok (.putfield 28, 3) := by decide +kernel
theorem dX3_angleFor_5 : decode cX3_angleFor 5 = .ok (.aload_n 0, 1) := by decide +kernel
theorem dX3_angleFor_6 : decode cX3_angleFor 6 = .ok (.iload_n 1, 1) := by decide +kernel
theorem dX3_angleFor_7 : decode cX3_angleFor 7 = .ok (.invokevirtual 95, 3) := by decide +kernel
theorem dX3_angleFor_10 : decode cX3_angleFor 10 = .ok (.ifCond .eq 19, 3) := by decide +kernel
theorem dX3_angleFor_13 : decode cX3_angleFor 13 = .ok (.aload_n 0, 1) := by decide +kernel
theorem dX3_angleFor_14 : decode cX3_angleFor 14 = .ok (.aload_n 0, 1) := by decide +kernel
theorem dX3_angleFor_15 : decode cX3_angleFor 15 = .ok (.iload_n 1, 1) := by decide +kernel
theorem dX3_angleFor_16 : decode cX3_angleFor 16 = .ok (.invokevirtual 45, 3) := by decide +kernel
theorem dX3_angleFor_19 : decode cX3_angleFor 19 = .ok (.aload_n 0, 1) := by decide +kernel
theorem dX3_angleFor_20 : decode cX3_angleFor 20 = .ok (.invokevirtual 49, 3) := by decide +kernel
theorem dX3_angleFor_23 : decode cX3_angleFor 23 = .ok (.invokevirtual 53, 3) := by decide +kernel
theorem dX3_angleFor_26 : decode cX3_angleFor 26 = .ok (.goto 8, 3) := by decide +kernel
theorem dX3_angleFor_29 : decode cX3_angleFor 29 = .ok (.aload_n 0, 1) := by decide +kernel
theorem dX3_angleFor_30 : decode cX3_angleFor 30 = .ok (.iconst 1, 1) := by decide +kernel
theorem dX3_angleFor_31 : decode cX3_angleFor 31 = .ok (.invokevirtual 92, 3) := by decide +kernel
theorem dX3_angleFor_34 : decode cX3_angleFor 34 = .ok (.ireturn, 1) := by decide +kernel
theorem dX3_guns_0 : decode cX3_guns 0 = .ok (.aload_n 0, 1) := by decide +kernel
theorem dX3_guns_1 : decode cX3_guns 1 = .ok (.aload_n 0, 1) := by decide +kernel
theorem dX3_guns_2 : decode cX3_guns 2 = .ok (.getfield 32, 3) := by decide +kernel
theorem dX3_guns_5 : decode cX3_guns 5 = .ok (.invokevirtual 108, 3) := by decide +kernel
theorem dX3_guns_8 : decode cX3_guns 8 = .ok (.ireturn, 1) := by decide +kernel
theorem dX3_ofGun_0 : decode cX3_ofGun 0 = .ok (.aload_n 0, 1) := by decide +kernel
theorem dX3_ofGun_1 : decode cX3_ofGun 1 = .ok (.iconst 0, 1) := by decide +kernel
theorem dX3_ofGun_2 : decode cX3_ofGun 2 = .ok (.putfield 28, 3) := by decide +kernel
theorem dX3_ofGun_5 : decode cX3_ofGun 5 = .ok (.aload_n 0, 1) := by decide +kernel
theorem dX3_ofGun_6 : decode cX3_ofGun 6 = .ok (.iload_n 1, 1) := by decide +kernel
theorem dX3_ofGun_7 : decode cX3_ofGun 7 = .ok (.invokevirtual 95, 3) := by decide +kernel
theorem dX3_ofGun_10 : decode cX3_ofGun 10 = .ok (.ifCond .eq 14, 3) := by decide +kernel
theorem dX3_ofGun_13 : decode cX3_ofGun 13 = .ok (.aload_n 0, 1) := by decide +kernel
theorem dX3_ofGun_14 : decode cX3_ofGun 14 = .ok (.getfield 22, 3) := by decide +kernel
theorem dX3_ofGun_17 : decode cX3_ofGun 17 = .ok (.iload_n 2, 1) := by decide +kernel
theorem dX3_ofGun_18 : decode cX3_ofGun 18 = .ok (.iload_n 1, 1) := by decide +kernel
theorem dX3_ofGun_19 : decode cX3_ofGun 19 = .ok (.iadd, 1) := by decide +kernel
theorem dX3_ofGun_20 : decode cX3_ofGun 20 = .ok (.iaload, 1) := by decide +kernel
theorem dX3_ofGun_21 : decode cX3_ofGun 21 = .ok (.goto 8, 3) := by decide +kernel
theorem dX3_ofGun_24 : decode cX3_ofGun 24 = .ok (.aload_n 0, 1) := by decide +kernel
theorem dX3_ofGun_25 : decode cX3_ofGun 25 = .ok (.iconst 1, 1) := by decide +kernel
theorem dX3_ofGun_26 : decode cX3_ofGun 26 = .ok (.invokevirtual 92, 3) := by decide +kernel
theorem dX3_ofGun_29 : decode cX3_ofGun 29 = .ok (.ireturn, 1) := by decide +kernel
theorem dX3_scoreOf_0 : decode cX3_scoreOf 0 = .ok (.aload_n 0, 1) := by decide +kernel
theorem dX3_scoreOf_1 : decode cX3_scoreOf 1 = .ok (.iload_n 1, 1) := by decide +kernel
theorem dX3_scoreOf_2 : decode cX3_scoreOf 2 = .ok (.iconst 1, 1) := by decide +kernel
theorem dX3_scoreOf_3 : decode cX3_scoreOf 3 = .ok (.invokevirtual 114, 3) := by decide +kernel
theorem dX3_scoreOf_6 : decode cX3_scoreOf 6 = .ok (.ireturn, 1) := by decide +kernel
theorem dX3_firstsOf_0 : decode cX3_firstsOf 0 = .ok (.aload_n 0, 1) := by decide +kernel
theorem dX3_firstsOf_1 : decode cX3_firstsOf 1 = .ok (.iload_n 1, 1) := by decide +kernel
theorem dX3_firstsOf_2 : decode cX3_firstsOf 2 = .ok (.bipush 7, 2) := by decide +kernel
theorem dX3_firstsOf_4 : decode cX3_firstsOf 4 = .ok (.invokevirtual 114, 3) := by decide +kernel
theorem dX3_firstsOf_7 : decode cX3_firstsOf 7 = .ok (.ireturn, 1) := by decide +kernel
theorem dX3_missesOf_0 : decode cX3_missesOf 0 = .ok (.aload_n 0, 1) := by decide +kernel
theorem dX3_missesOf_1 : decode cX3_missesOf 1 = .ok (.iload_n 1, 1) := by decide +kernel
theorem dX3_missesOf_2 : decode cX3_missesOf 2 = .ok (.bipush 13, 2) := by decide +kernel
theorem dX3_missesOf_4 : decode cX3_missesOf 4 = .ok (.invokevirtual 114, 3) := by decide +kernel
theorem dX3_missesOf_7 : decode cX3_missesOf 7 = .ok (.ireturn, 1) := by decide +kernel
theorem dX3_fatigueOf_0 : decode cX3_fatigueOf 0 = .ok (.aload_n 0, 1) := by decide +kernel
theorem dX3_fatigueOf_1 : decode cX3_fatigueOf 1 = .ok (.iload_n 1, 1) := by decide +kernel
theorem dX3_fatigueOf_2 : decode cX3_fatigueOf 2 = .ok (.bipush 19, 2) := by decide +kernel
theorem dX3_fatigueOf_4 : decode cX3_fatigueOf 4 = .ok (.invokevirtual 114, 3) := by decide +kernel
theorem dX3_fatigueOf_7 : decode cX3_fatigueOf 7 = .ok (.ireturn, 1) := by decide +kernel
theorem dX3_wouldHit_0 : decode cX3_wouldHit 0 = .ok (.aload_n 0, 1) := by decide +kernel
theorem dX3_wouldHit_1 : decode cX3_wouldHit 1 = .ok (.iconst 0, 1) := by decide +kernel
theorem dX3_wouldHit_2 : decode cX3_wouldHit 2 = .ok (.putfield 28, 3) := by decide +kernel
theorem dX3_wouldHit_5 : decode cX3_wouldHit 5 = .ok (.aload_n 0, 1) := by decide +kernel
theorem dX3_wouldHit_6 : decode cX3_wouldHit 6 = .ok (.iload_n 1, 1) := by decide +kernel
theorem dX3_wouldHit_7 : decode cX3_wouldHit 7 = .ok (.invokevirtual 95, 3) := by decide +kernel
theorem dX3_wouldHit_10 : decode cX3_wouldHit 10 = .ok (.ifCond .eq 11, 3) := by decide +kernel
theorem dX3_wouldHit_13 : decode cX3_wouldHit 13 = .ok (.aload_n 0, 1) := by decide +kernel
theorem dX3_wouldHit_14 : decode cX3_wouldHit 14 = .ok (.iload_n 1, 1) := by decide +kernel
theorem dX3_wouldHit_15 : decode cX3_wouldHit 15 = .ok (.invokevirtual 65, 3) := by decide +kernel
theorem dX3_wouldHit_18 : decode cX3_wouldHit 18 = .ok (.goto 8, 3) := by decide +kernel
theorem dX3_wouldHit_21 : decode cX3_wouldHit 21 = .ok (.aload_n 0, 1) := by decide +kernel
theorem dX3_wouldHit_22 : decode cX3_wouldHit 22 = .ok (.iconst 1, 1) := by decide +kernel
theorem dX3_wouldHit_23 : decode cX3_wouldHit 23 = .ok (.invokevirtual 92, 3) := by decide +kernel
theorem dX3_wouldHit_26 : decode cX3_wouldHit 26 = .ok (.ireturn, 1) := by decide +kernel
theorem dX3_leader_0 : decode cX3_leader 0 = .ok (.aload_n 0, 1) := by decide +kernel
theorem dX3_leader_1 : decode cX3_leader 1 = .ok (.aload_n 0, 1) := by decide +kernel
theorem dX3_leader_2 : decode cX3_leader 2 = .ok (.invokevirtual 78, 3) := by decide +kernel
theorem dX3_leader_5 : decode cX3_leader 5 = .ok (.invokevirtual 108, 3) := by decide +kernel
theorem dX3_leader_8 : decode cX3_leader 8 = .ok (.ireturn, 1) := by decide +kernel
theorem dX3_tied_0 : decode cX3_tied 0 = .ok (.aload_n 0, 1) := by decide +kernel
theorem dX3_tied_1 : decode cX3_tied 1 = .ok (.aload_n 0, 1) := by decide +kernel
theorem dX3_tied_2 : decode cX3_tied 2 = .ok (.invokevirtual 81, 3) := by decide +kernel
theorem dX3_tied_5 : decode cX3_tied 5 = .ok (.invokestatic 84, 3) := by decide +kernel
theorem dX3_tied_8 : decode cX3_tied 8 = .ok (.invokevirtual 108, 3) := by decide +kernel
theorem dX3_tied_11 : decode cX3_tied 11 = .ok (.ireturn, 1) := by decide +kernel
theorem dX3_rank_0 : decode cX3_rank 0 = .ok (.iconst 1, 1) := by decide +kernel
theorem dX3_rank_1 : decode cX3_rank 1 = .ok (.istore_n 2, 1) := by decide +kernel
theorem dX3_rank_2 : decode cX3_rank 2 = .ok (.iconst 0, 1) := by decide +kernel
theorem dX3_rank_3 : decode cX3_rank 3 = .ok (.istore_n 3, 1) := by decide +kernel
theorem dX3_rank_4 : decode cX3_rank 4 = .ok (.iload_n 3, 1) := by decide +kernel
theorem dX3_rank_5 : decode cX3_rank 5 = .ok (.aload_n 0, 1) := by decide +kernel
theorem dX3_rank_6 : decode cX3_rank 6 = .ok (.getfield 32, 3) := by decide +kernel
theorem dX3_rank_9 : decode cX3_rank 9 = .ok (.if_icmp .ge 36, 3) := by decide +kernel
theorem dX3_rank_12 : decode cX3_rank 12 = .ok (.iload_n 2, 1) := by decide +kernel
theorem dX3_rank_13 : decode cX3_rank 13 = .ok (.aload_n 0, 1) := by decide +kernel
theorem dX3_rank_14 : decode cX3_rank 14 = .ok (.getfield 22, 3) := by decide +kernel
theorem dX3_rank_17 : decode cX3_rank 17 = .ok (.iconst 1, 1) := by decide +kernel
theorem dX3_rank_18 : decode cX3_rank 18 = .ok (.iload_n 3, 1) := by decide +kernel
theorem dX3_rank_19 : decode cX3_rank 19 = .ok (.iadd, 1) := by decide +kernel
theorem dX3_rank_20 : decode cX3_rank 20 = .ok (.iaload, 1) := by decide +kernel
theorem dX3_rank_21 : decode cX3_rank 21 = .ok (.aload_n 0, 1) := by decide +kernel
theorem dX3_rank_22 : decode cX3_rank 22 = .ok (.getfield 22, 3) := by decide +kernel
theorem dX3_rank_25 : decode cX3_rank 25 = .ok (.iconst 1, 1) := by decide +kernel
theorem dX3_rank_26 : decode cX3_rank 26 = .ok (.iload_n 1, 1) := by decide +kernel
theorem dX3_rank_27 : decode cX3_rank 27 = .ok (.iadd, 1) := by decide +kernel
theorem dX3_rank_28 : decode cX3_rank 28 = .ok (.iaload, 1) := by decide +kernel
theorem dX3_rank_29 : decode cX3_rank 29 = .ok (.if_icmp .le 7, 3) := by decide +kernel
theorem dX3_rank_32 : decode cX3_rank 32 = .ok (.iconst 1, 1) := by decide +kernel
theorem dX3_rank_33 : decode cX3_rank 33 = .ok (.goto 4, 3) := by decide +kernel
theorem dX3_rank_36 : decode cX3_rank 36 = .ok (.iconst 0, 1) := by decide +kernel
theorem dX3_rank_37 : decode cX3_rank 37 = .ok (.iadd, 1) := by decide +kernel
theorem dX3_rank_38 : decode cX3_rank 38 = .ok (.istore_n 2, 1) := by decide +kernel
theorem dX3_rank_39 : decode cX3_rank 39 = .ok (.iinc 3 1, 3) := by decide +kernel
theorem dX3_rank_42 : decode cX3_rank 42 = .ok (.goto (-38), 3) := by decide +kernel
theorem dX3_rank_45 : decode cX3_rank 45 = .ok (.iload_n 2, 1) := by decide +kernel
theorem dX3_rank_46 : decode cX3_rank 46 = .ok (.ireturn, 1) := by decide +kernel
theorem dX3_rankOf_0 : decode cX3_rankOf 0 = .ok (.aload_n 0, 1) := by decide +kernel
theorem dX3_rankOf_1 : decode cX3_rankOf 1 = .ok (.iconst 0, 1) := by decide +kernel
theorem dX3_rankOf_2 : decode cX3_rankOf 2 = .ok (.putfield 28, 3) := by decide +kernel
theorem dX3_rankOf_5 : decode cX3_rankOf 5 = .ok (.aload_n 0, 1) := by decide +kernel
theorem dX3_rankOf_6 : decode cX3_rankOf 6 = .ok (.iload_n 1, 1) := by decide +kernel
theorem dX3_rankOf_7 : decode cX3_rankOf 7 = .ok (.invokevirtual 95, 3) := by decide +kernel
theorem dX3_rankOf_10 : decode cX3_rankOf 10 = .ok (.ifCond .eq 11, 3) := by decide +kernel
theorem dX3_rankOf_13 : decode cX3_rankOf 13 = .ok (.aload_n 0, 1) := by decide +kernel
theorem dX3_rankOf_14 : decode cX3_rankOf 14 = .ok (.iload_n 1, 1) := by decide +kernel
theorem dX3_rankOf_15 : decode cX3_rankOf 15 = .ok (.invokevirtual 117, 3) := by decide +kernel
theorem dX3_rankOf_18 : decode cX3_rankOf 18 = .ok (.goto 8, 3) := by decide +kernel
theorem dX3_rankOf_21 : decode cX3_rankOf 21 = .ok (.aload_n 0, 1) := by decide +kernel
theorem dX3_rankOf_22 : decode cX3_rankOf 22 = .ok (.iconst 1, 1) := by decide +kernel
theorem dX3_rankOf_23 : decode cX3_rankOf 23 = .ok (.invokevirtual 92, 3) := by decide +kernel
theorem dX3_rankOf_26 : decode cX3_rankOf 26 = .ok (.ireturn, 1) := by decide +kernel
theorem dX3_scoreIn_0 : decode cX3_scoreIn 0 = .ok (.aload_n 0, 1) := by decide +kernel
theorem dX3_scoreIn_1 : decode cX3_scoreIn 1 = .ok (.iconst 0, 1) := by decide +kernel
theorem dX3_scoreIn_2 : decode cX3_scoreIn 2 = .ok (.putfield 28, 3) := by decide +kernel
theorem dX3_scoreIn_5 : decode cX3_scoreIn 5 = .ok (.aload_n 0, 1) := by decide +kernel
theorem dX3_scoreIn_6 : decode cX3_scoreIn 6 = .ok (.iload_n 1, 1) := by decide +kernel
theorem dX3_scoreIn_7 : decode cX3_scoreIn 7 = .ok (.invokevirtual 95, 3) := by decide +kernel
theorem dX3_scoreIn_10 : decode cX3_scoreIn 10 = .ok (.ifCond .ne 9, 3) := by decide +kernel
theorem dX3_scoreIn_13 : decode cX3_scoreIn 13 = .ok (.aload_n 0, 1) := by decide +kernel
theorem dX3_scoreIn_14 : decode cX3_scoreIn 14 = .ok (.iconst 1, 1) := by decide +kernel
theorem dX3_scoreIn_15 : decode cX3_scoreIn 15 = .ok (.invokevirtual 92, 3) := by decide +kernel
theorem dX3_scoreIn_18 : decode cX3_scoreIn 18 = .ok (.ireturn, 1) := by decide +kernel
theorem dX3_scoreIn_19 : decode cX3_scoreIn 19 = .ok (.iload_n 2, 1) := by decide +kernel
theorem dX3_scoreIn_20 : decode cX3_scoreIn 20 = .ok (.iconst 1, 1) := by decide +kernel
theorem dX3_scoreIn_21 : decode cX3_scoreIn 21 = .ok (.bipush 50, 2) := by decide +kernel
theorem dX3_scoreIn_23 : decode cX3_scoreIn 23 = .ok (.invokestatic 35, 3) := by decide +kernel
theorem dX3_scoreIn_26 : decode cX3_scoreIn 26 = .ok (.ifCond .ne 9, 3) := by decide +kernel
theorem dX3_scoreIn_29 : decode cX3_scoreIn 29 = .ok (.aload_n 0, 1) := by decide +kernel
theorem dX3_scoreIn_30 : decode cX3_scoreIn 30 = .ok (.iconst 2, 1) := by decide +kernel
theorem dX3_scoreIn_31 : decode cX3_scoreIn 31 = .ok (.invokevirtual 92, 3) := by decide +kernel
theorem dX3_scoreIn_34 : decode cX3_scoreIn 34 = .ok (.ireturn, 1) := by decide +kernel
theorem dX3_scoreIn_35 : decode cX3_scoreIn 35 = .ok (.aload_n 0, 1) := by decide +kernel
theorem dX3_scoreIn_36 : decode cX3_scoreIn 36 = .ok (.invokevirtual 120, 3) := by decide +kernel
theorem dX3_scoreIn_39 : decode cX3_scoreIn 39 = .ok (.aload_n 0, 1) := by decide +kernel
theorem dX3_scoreIn_40 : decode cX3_scoreIn 40 = .ok (.iload_n 2, 1) := by decide +kernel
theorem dX3_scoreIn_41 : decode cX3_scoreIn 41 = .ok (.invokevirtual 102, 3) := by decide +kernel
theorem dX3_scoreIn_44 : decode cX3_scoreIn 44 = .ok (.aload_n 0, 1) := by decide +kernel
theorem dX3_scoreIn_45 : decode cX3_scoreIn 45 = .ok (.getfield 22, 3) := by decide +kernel
theorem dX3_scoreIn_48 : decode cX3_scoreIn 48 = .ok (.iconst 1, 1) := by decide +kernel
theorem dX3_scoreIn_49 : decode cX3_scoreIn 49 = .ok (.iload_n 1, 1) := by decide +kernel
theorem dX3_scoreIn_50 : decode cX3_scoreIn 50 = .ok (.iadd, 1) := by decide +kernel
theorem dX3_scoreIn_51 : decode cX3_scoreIn 51 = .ok (.iaload, 1) := by decide +kernel
theorem dX3_scoreIn_52 : decode cX3_scoreIn 52 = .ok (.istore_n 3, 1) := by decide +kernel
theorem dX3_scoreIn_53 : decode cX3_scoreIn 53 = .ok (.aload_n 0, 1) := by decide +kernel
theorem dX3_scoreIn_54 : decode cX3_scoreIn 54 = .ok (.invokevirtual 123, 3) := by decide +kernel
theorem dX3_scoreIn_57 : decode cX3_scoreIn 57 = .ok (.iload_n 3, 1) := by decide +kernel
theorem dX3_scoreIn_58 : decode cX3_scoreIn 58 = .ok (.ireturn, 1) := by decide +kernel
theorem dX3_untilMiss_0 : decode cX3_untilMiss 0 = .ok (.aload_n 0, 1) := by decide +kernel
theorem dX3_untilMiss_1 : decode cX3_untilMiss 1 = .ok (.invokevirtual 120, 3) := by decide +kernel
theorem dX3_untilMiss_4 : decode cX3_untilMiss 4 = .ok (.iconst (-1), 1) := by decide +kernel
theorem dX3_untilMiss_5 : decode cX3_untilMiss 5 = .ok (.istore_n 2, 1) := by decide +kernel
theorem dX3_untilMiss_6 : decode cX3_untilMiss 6 = .ok (.iconst 1, 1) := by decide +kernel
theorem dX3_untilMiss_7 : decode cX3_untilMiss 7 = .ok (.istore_n 3, 1) := by decide +kernel
theorem dX3_untilMiss_8 : decode cX3_untilMiss 8 = .ok (.iload_n 3, 1) := by decide +kernel
theorem dX3_untilMiss_9 : decode cX3_untilMiss 9 = .ok (.bipush 100, 2) := by decide +kernel
theorem dX3_untilMiss_11 : decode cX3_untilMiss 11 = .ok (.if_icmp .gt 41, 3) := by decide +kernel
theorem dX3_untilMiss_14 : decode cX3_untilMiss 14 = .ok (.iload_n 2, 1) := by decide +kernel
theorem dX3_untilMiss_15 : decode cX3_untilMiss 15 = .ok (.iconst (-1), 1) := by decide +kernel
theorem dX3_untilMiss_16 : decode cX3_untilMiss 16 = .ok (.if_icmp .ne 36, 3) := by decide +kernel
theorem dX3_untilMiss_19 : decode cX3_untilMiss 19 = .ok (.aload_n 0, 1) := by decide +kernel
theorem dX3_untilMiss_20 : decode cX3_untilMiss 20 = .ok (.invokevirtual 75, 3) := by decide +kernel
theorem dX3_untilMiss_23 : decode cX3_untilMiss 23 = .ok (.aload_n 0, 1) := by decide +kernel
theorem dX3_untilMiss_24 : decode cX3_untilMiss 24 = .ok (.getfield 22, 3) := by decide +kernel
theorem dX3_untilMiss_27 : decode cX3_untilMiss 27 = .ok (.bipush 13, 2) := by decide +kernel
theorem dX3_untilMiss_29 : decode cX3_untilMiss 29 = .ok (.iload_n 1, 1) := by decide +kernel
theorem dX3_untilMiss_30 : decode cX3_untilMiss 30 = .ok (.iadd, 1) := by decide +kernel
theorem dX3_untilMiss_31 : decode cX3_untilMiss 31 = .ok (.iaload, 1) := by decide +kernel
theorem dX3_untilMiss_32 : decode cX3_untilMiss 32 = .ok (.aload_n 0, 1) := by decide +kernel
theorem dX3_untilMiss_33 : decode cX3_untilMiss 33 = .ok (.getfield 25, 3) := by decide +kernel
theorem dX3_untilMiss_36 : decode cX3_untilMiss 36 = .ok (.bipush 13, 2) := by decide +kernel
theorem dX3_untilMiss_38 : decode cX3_untilMiss 38 = .ok (.iload_n 1, 1) := by decide +kernel
theorem dX3_untilMiss_39 : decode cX3_untilMiss 39 = .ok (.iadd, 1) := by decide +kernel
theorem dX3_untilMiss_40 : decode cX3_untilMiss 40 = .ok (.iaload, 1) := by decide +kernel
theorem dX3_untilMiss_41 : decode cX3_untilMiss 41 = .ok (.if_icmp .le 5, 3) := by decide +kernel
theorem dX3_untilMiss_44 : decode cX3_untilMiss 44 = .ok (.iload_n 3, 1) := by decide +kernel
theorem dX3_untilMiss_45 : decode cX3_untilMiss 45 = .ok (.istore_n 2, 1) := by decide +kernel
theorem dX3_untilMiss_46 : decode cX3_untilMiss 46 = .ok (.iinc 3 1, 3) := by decide +kernel
theorem dX3_untilMiss_49 : decode cX3_untilMiss 49 = .ok (.goto (-41), 3) := by decide +kernel
theorem dX3_untilMiss_52 : decode cX3_untilMiss 52 = .ok (.aload_n 0, 1) := by decide +kernel
theorem dX3_untilMiss_53 : decode cX3_untilMiss 53 = .ok (.invokevirtual 123, 3) := by decide +kernel
theorem dX3_untilMiss_56 : decode cX3_untilMiss 56 = .ok (.iload_n 2, 1) := by decide +kernel
theorem dX3_untilMiss_57 : decode cX3_untilMiss 57 = .ok (.ireturn, 1) := by decide +kernel
theorem dX3_turnsUntilMiss_0 : decode cX3_turnsUntilMiss 0 = .ok (.aload_n 0, 1) := by decide +kernel
theorem dX3_turnsUntilMiss_1 : decode cX3_turnsUntilMiss 1 = .ok (.iconst 0, 1) := by decide +kernel
theorem dX3_turnsUntilMiss_2 : decode cX3_turnsUntilMiss 2 = .ok (.putfield 28, 3) := by decide +kernel
theorem dX3_turnsUntilMiss_5 : decode cX3_turnsUntilMiss 5 = .ok (.aload_n 0, 1) := by decide +kernel
theorem dX3_turnsUntilMiss_6 : decode cX3_turnsUntilMiss 6 = .ok (.iload_n 1, 1) := by decide +kernel
theorem dX3_turnsUntilMiss_7 : decode cX3_turnsUntilMiss 7 = .ok (.invokevirtual 95, 3) := by decide +kernel
theorem dX3_turnsUntilMiss_10 : decode cX3_turnsUntilMiss 10 = .ok (.ifCond .eq 11, 3) := by decide +kernel
theorem dX3_turnsUntilMiss_13 : decode cX3_turnsUntilMiss 13 = .ok (.aload_n 0, 1) := by decide +kernel
theorem dX3_turnsUntilMiss_14 : decode cX3_turnsUntilMiss 14 = .ok (.iload_n 1, 1) := by decide +kernel
theorem dX3_turnsUntilMiss_15 : decode cX3_turnsUntilMiss 15 = .ok (.invokevirtual 126, 3) := by decide +kernel
theorem dX3_turnsUntilMiss_18 : decode cX3_turnsUntilMiss 18 = .ok (.goto 8, 3) := by decide +kernel
theorem dX3_turnsUntilMiss_21 : decode cX3_turnsUntilMiss 21 = .ok (.aload_n 0, 1) := by decide +kernel
theorem dX3_turnsUntilMiss_22 : decode cX3_turnsUntilMiss 22 = .ok (.iconst 1, 1) := by decide +kernel
theorem dX3_turnsUntilMiss_23 : decode cX3_turnsUntilMiss 23 = .ok (.invokevirtual 92, 3) := by decide +kernel
theorem dX3_turnsUntilMiss_26 : decode cX3_turnsUntilMiss 26 = .ok (.ireturn, 1) := by decide +kernel
theorem dX3_firstIn_0 : decode cX3_firstIn 0 = .ok (.aload_n 0, 1) := by decide +kernel
theorem dX3_firstIn_1 : decode cX3_firstIn 1 = .ok (.invokevirtual 120, 3) := by decide +kernel
theorem dX3_firstIn_4 : decode cX3_firstIn 4 = .ok (.aload_n 0, 1) := by decide +kernel
theorem dX3_firstIn_5 : decode cX3_firstIn 5 = .ok (.iload_n 1, 1) := by decide +kernel
theorem dX3_firstIn_6 : decode cX3_firstIn 6 = .ok (.invokevirtual 102, 3) := by decide +kernel
theorem dX3_firstIn_9 : decode cX3_firstIn 9 = .ok (.aload_n 0, 1) := by decide +kernel
theorem dX3_firstIn_10 : decode cX3_firstIn 10 = .ok (.invokevirtual 78, 3) := by decide +kernel
theorem dX3_firstIn_13 : decode cX3_firstIn 13 = .ok (.istore_n 2, 1) := by decide +kernel
theorem dX3_firstIn_14 : decode cX3_firstIn 14 = .ok (.aload_n 0, 1) := by decide +kernel
theorem dX3_firstIn_15 : decode cX3_firstIn 15 = .ok (.invokevirtual 123, 3) := by decide +kernel
theorem dX3_firstIn_18 : decode cX3_firstIn 18 = .ok (.iload_n 2, 1) := by decide +kernel
theorem dX3_firstIn_19 : decode cX3_firstIn 19 = .ok (.ireturn, 1) := by decide +kernel
theorem dX3_leaderIn_0 : decode cX3_leaderIn 0 = .ok (.aload_n 0, 1) := by decide +kernel
theorem dX3_leaderIn_1 : decode cX3_leaderIn 1 = .ok (.iconst 0, 1) := by decide +kernel
theorem dX3_leaderIn_2 : decode cX3_leaderIn 2 = .ok (.putfield 28, 3) := by decide +kernel
theorem dX3_leaderIn_5 : decode cX3_leaderIn 5 = .ok (.iload_n 1, 1) := by decide +kernel
theorem dX3_leaderIn_6 : decode cX3_leaderIn 6 = .ok (.iconst 1, 1) := by decide +kernel
theorem dX3_leaderIn_7 : decode cX3_leaderIn 7 = .ok (.bipush 50, 2) := by decide +kernel
theorem dX3_leaderIn_9 : decode cX3_leaderIn 9 = .ok (.invokestatic 35, 3) := by decide +kernel
theorem dX3_leaderIn_12 : decode cX3_leaderIn 12 = .ok (.ifCond .eq 11, 3) := by decide +kernel
theorem dX3_leaderIn_15 : decode cX3_leaderIn 15 = .ok (.aload_n 0, 1) := by decide +kernel
theorem dX3_leaderIn_16 : decode cX3_leaderIn 16 = .ok (.iload_n 1, 1) := by decide +kernel
theorem dX3_leaderIn_17 : decode cX3_leaderIn 17 = .ok (.invokevirtual 129, 3) := by decide +kernel
theorem dX3_leaderIn_20 : decode cX3_leaderIn 20 = .ok (.goto 8, 3) := by decide +kernel
theorem dX3_leaderIn_23 : decode cX3_leaderIn 23 = .ok (.aload_n 0, 1) := by decide +kernel
theorem dX3_leaderIn_24 : decode cX3_leaderIn 24 = .ok (.iconst 1, 1) := by decide +kernel
theorem dX3_leaderIn_25 : decode cX3_leaderIn 25 = .ok (.invokevirtual 92, 3) := by decide +kernel
theorem dX3_leaderIn_28 : decode cX3_leaderIn 28 = .ok (.ireturn, 1) := by decide +kernel
theorem dX3_winner_0 : decode cX3_winner 0 = .ok (.aload_n 0, 1) := by decide +kernel
theorem dX3_winner_1 : decode cX3_winner 1 = .ok (.getfield 32, 3) := by decide +kernel
theorem dX3_winner_4 : decode cX3_winner 4 = .ok (.ifCond .ne 5, 3) := by decide +kernel
theorem dX3_winner_7 : decode cX3_winner 7 = .ok (.iconst (-1), 1) := by decide +kernel
theorem dX3_winner_8 : decode cX3_winner 8 = .ok (.ireturn, 1) := by decide +kernel
theorem dX3_winner_9 : decode cX3_winner 9 = .ok (.aload_n 0, 1) := by decide +kernel
theorem dX3_winner_10 : decode cX3_winner 10 = .ok (.invokevirtual 120, 3) := by decide +kernel
theorem dX3_winner_13 : decode cX3_winner 13 = .ok (.aload_n 0, 1) := by decide +kernel
theorem dX3_winner_14 : decode cX3_winner 14 = .ok (.invokevirtual 105, 3) := by decide +kernel
theorem dX3_winner_17 : decode cX3_winner 17 = .ok (.istore_n 1, 1) := by decide +kernel
theorem dX3_winner_18 : decode cX3_winner 18 = .ok (.aload_n 0, 1) := by decide +kernel
theorem dX3_winner_19 : decode cX3_winner 19 = .ok (.invokevirtual 123, 3) := by decide +kernel
theorem dX3_winner_22 : decode cX3_winner 22 = .ok (.iload_n 1, 1) := by decide +kernel
theorem dX3_winner_23 : decode cX3_winner 23 = .ok (.ireturn, 1) := by decide +kernel
theorem dX3_wouldWin_0 : decode cX3_wouldWin 0 = .ok (.aload_n 0, 1) := by decide +kernel
theorem dX3_wouldWin_1 : decode cX3_wouldWin 1 = .ok (.aload_n 0, 1) := by decide +kernel
theorem dX3_wouldWin_2 : decode cX3_wouldWin 2 = .ok (.invokevirtual 132, 3) := by decide +kernel
theorem dX3_wouldWin_5 : decode cX3_wouldWin 5 = .ok (.invokevirtual 108, 3) := by decide +kernel
theorem dX3_wouldWin_8 : decode cX3_wouldWin 8 = .ok (.ireturn, 1) := by decide +kernel
theorem dX3_restFor_0 : decode cX3_restFor 0 = .ok (.aload_n 0, 1) := by decide +kernel
theorem dX3_restFor_1 : decode cX3_restFor 1 = .ok (.invokevirtual 120, 3) := by decide +kernel
theorem dX3_restFor_4 : decode cX3_restFor 4 = .ok (.iconst (-1), 1) := by decide +kernel
theorem dX3_restFor_5 : decode cX3_restFor 5 = .ok (.istore_n 2, 1) := by decide +kernel
theorem dX3_restFor_6 : decode cX3_restFor 6 = .ok (.iconst 0, 1) := by decide +kernel
theorem dX3_restFor_7 : decode cX3_restFor 7 = .ok (.istore_n 3, 1) := by decide +kernel
theorem dX3_restFor_8 : decode cX3_restFor 8 = .ok (.iconst 0, 1) := by decide +kernel
theorem dX3_restFor_9 : decode cX3_restFor 9 = .ok (.istore 4, 2) := by decide +kernel
theorem dX3_restFor_11 : decode cX3_restFor 11 = .ok (.iload 4, 2) := by decide +kernel
theorem dX3_restFor_13 : decode cX3_restFor 13 = .ok (.bipush 20, 2) := by decide +kernel
theorem dX3_restFor_15 : decode cX3_restFor 15 = .ok (.if_icmp .gt 68, 3) := by decide +kernel
theorem dX3_restFor_18 : decode cX3_restFor 18 = .ok (.aload_n 0, 1) := by decide +kernel
theorem dX3_restFor_19 : decode cX3_restFor 19 = .ok (.iload 4, 2) := by decide +kernel
theorem dX3_restFor_21 : decode cX3_restFor 21 = .ok (.invokevirtual 102, 3) := by decide +kernel
theorem dX3_restFor_24 : decode cX3_restFor 24 = .ok (.aload_n 0, 1) := by decide +kernel
theorem dX3_restFor_25 : decode cX3_restFor 25 = .ok (.getfield 22, 3) := by decide +kernel
theorem dX3_restFor_28 : decode cX3_restFor 28 = .ok (.bipush 19, 2) := by decide +kernel
theorem dX3_restFor_30 : decode cX3_restFor 30 = .ok (.iload_n 1, 1) := by decide +kernel
theorem dX3_restFor_31 : decode cX3_restFor 31 = .ok (.iadd, 1) := by decide +kernel
theorem dX3_restFor_32 : decode cX3_restFor 32 = .ok (.iconst 0, 1) := by decide +kernel
theorem dX3_restFor_33 : decode cX3_restFor 33 = .ok (.iastore, 1) := by decide +kernel
theorem dX3_restFor_34 : decode cX3_restFor 34 = .ok (.aload_n 0, 1) := by decide +kernel
theorem dX3_restFor_35 : decode cX3_restFor 35 = .ok (.bipush 25, 2) := by decide +kernel
theorem dX3_restFor_37 : decode cX3_restFor 37 = .ok (.iload 4, 2) := by decide +kernel
theorem dX3_restFor_39 : decode cX3_restFor 39 = .ok (.isub, 1) := by decide +kernel
theorem dX3_restFor_40 : decode cX3_restFor 40 = .ok (.invokevirtual 102, 3) := by decide +kernel
theorem dX3_restFor_43 : decode cX3_restFor 43 = .ok (.aload_n 0, 1) := by decide +kernel
theorem dX3_restFor_44 : decode cX3_restFor 44 = .ok (.getfield 22, 3) := by decide +kernel
theorem dX3_restFor_47 : decode cX3_restFor 47 = .ok (.iconst 1, 1) := by decide +kernel
theorem dX3_restFor_48 : decode cX3_restFor 48 = .ok (.iload_n 1, 1) := by decide +kernel
theorem dX3_restFor_49 : decode cX3_restFor 49 = .ok (.iadd, 1) := by decide +kernel
theorem dX3_restFor_50 : decode cX3_restFor 50 = .ok (.iaload, 1) := by decide +kernel
theorem dX3_restFor_51 : decode cX3_restFor 51 = .ok (.istore 5, 2) := by decide +kernel
theorem dX3_restFor_53 : decode cX3_restFor 53 = .ok (.aload_n 0, 1) := by decide +kernel
theorem dX3_restFor_54 : decode cX3_restFor 54 = .ok (.invokevirtual 123, 3) := by decide +kernel
theorem dX3_restFor_57 : decode cX3_restFor 57 = .ok (.iload_n 2, 1) := by decide +kernel
theorem dX3_restFor_58 : decode cX3_restFor 58 = .ok (.iconst (-1), 1) := by decide +kernel
theorem dX3_restFor_59 : decode cX3_restFor 59 = .ok (.if_icmp .eq 12, 3) := by decide +kernel
theorem dX3_restFor_62 : decode cX3_restFor 62 = .ok (.iload 5, 2) := by decide +kernel
theorem dX3_restFor_64 : decode cX3_restFor 64 = .ok (.iload_n 3, 1) := by decide +kernel
theorem dX3_restFor_65 : decode cX3_restFor 65 = .ok (.if_icmp .gt 6, 3) := by decide +kernel
theorem dX3_restFor_68 : decode cX3_restFor 68 = .ok (.goto 9, 3) := by decide +kernel
theorem dX3_restFor_71 : decode cX3_restFor 71 = .ok (.iload 4, 2) := by decide +kernel
theorem dX3_restFor_73 : decode cX3_restFor 73 = .ok (.istore_n 2, 1) := by decide +kernel
theorem dX3_restFor_74 : decode cX3_restFor 74 = .ok (.iload 5, 2) := by decide +kernel
theorem dX3_restFor_76 : decode cX3_restFor 76 = .ok (.istore_n 3, 1) := by decide +kernel
theorem dX3_restFor_77 : decode cX3_restFor 77 = .ok (.iinc 4 1, 3) := by decide +kernel
theorem dX3_restFor_80 : decode cX3_restFor 80 = .ok (.goto (-69), 3) := by decide +kernel
theorem dX3_restFor_83 : decode cX3_restFor 83 = .ok (.iload_n 2, 1) := by decide +kernel
theorem dX3_restFor_84 : decode cX3_restFor 84 = .ok (.ireturn, 1) := by decide +kernel
theorem dX3_bestRest_0 : decode cX3_bestRest 0 = .ok (.aload_n 0, 1) := by decide +kernel
theorem dX3_bestRest_1 : decode cX3_bestRest 1 = .ok (.iconst 0, 1) := by decide +kernel
theorem dX3_bestRest_2 : decode cX3_bestRest 2 = .ok (.putfield 28, 3) := by decide +kernel
theorem dX3_bestRest_5 : decode cX3_bestRest 5 = .ok (.aload_n 0, 1) := by decide +kernel
theorem dX3_bestRest_6 : decode cX3_bestRest 6 = .ok (.iload_n 1, 1) := by decide +kernel
theorem dX3_bestRest_7 : decode cX3_bestRest 7 = .ok (.invokevirtual 95, 3) := by decide +kernel
theorem dX3_bestRest_10 : decode cX3_bestRest 10 = .ok (.ifCond .eq 11, 3) := by decide +kernel
theorem dX3_bestRest_13 : decode cX3_bestRest 13 = .ok (.aload_n 0, 1) := by decide +kernel
theorem dX3_bestRest_14 : decode cX3_bestRest 14 = .ok (.iload_n 1, 1) := by decide +kernel
theorem dX3_bestRest_15 : decode cX3_bestRest 15 = .ok (.invokevirtual 135, 3) := by decide +kernel
theorem dX3_bestRest_18 : decode cX3_bestRest 18 = .ok (.goto 8, 3) := by decide +kernel
theorem dX3_bestRest_21 : decode cX3_bestRest 21 = .ok (.aload_n 0, 1) := by decide +kernel
theorem dX3_bestRest_22 : decode cX3_bestRest 22 = .ok (.iconst 1, 1) := by decide +kernel
theorem dX3_bestRest_23 : decode cX3_bestRest 23 = .ok (.invokevirtual 92, 3) := by decide +kernel
theorem dX3_bestRest_26 : decode cX3_bestRest 26 = .ok (.ireturn, 1) := by decide +kernel
theorem dX3_swingWanted_0 : decode cX3_swingWanted 0 = .ok (.aload_n 0, 1) := by decide +kernel
theorem dX3_swingWanted_1 : decode cX3_swingWanted 1 = .ok (.iconst 0, 1) := by decide +kernel
theorem dX3_swingWanted_2 : decode cX3_swingWanted 2 = .ok (.putfield 28, 3) := by decide +kernel
theorem dX3_swingWanted_5 : decode cX3_swingWanted 5 = .ok (.aload_n 0, 1) := by decide +kernel
theorem dX3_swingWanted_6 : decode cX3_swingWanted 6 = .ok (.iload_n 1, 1) := by decide +kernel
theorem dX3_swingWanted_7 : decode cX3_swingWanted 7 = .ok (.invokevirtual 95, 3) := by decide +kernel
theorem dX3_swingWanted_10 : decode cX3_swingWanted 10 = .ok (.ifCond .ne 9, 3) := by decide +kernel
theorem dX3_swingWanted_13 : decode cX3_swingWanted 13 = .ok (.aload_n 0, 1) := by decide +kernel
theorem dX3_swingWanted_14 : decode cX3_swingWanted 14 = .ok (.iconst 1, 1) := by decide +kernel
theorem dX3_swingWanted_15 : decode cX3_swingWanted 15 = .ok (.invokevirtual 92, 3) := by decide +kernel
theorem dX3_swingWanted_18 : decode cX3_swingWanted 18 = .ok (.ireturn, 1) := by decide +kernel
theorem dX3_swingWanted_19 : decode cX3_swingWanted 19 = .ok (.iconst 5, 1) := by decide +kernel
theorem dX3_swingWanted_20 : decode cX3_swingWanted 20 = .ok (.istore_n 2, 1) := by decide +kernel
theorem dX3_swingWanted_21 : decode cX3_swingWanted 21 = .ok (.iconst 0, 1) := by decide +kernel
theorem dX3_swingWanted_22 : decode cX3_swingWanted 22 = .ok (.istore_n 3, 1) := by decide +kernel
theorem dX3_swingWanted_23 : decode cX3_swingWanted 23 = .ok (.iload_n 3, 1) := by decide +kernel
theorem dX3_swingWanted_24 : decode cX3_swingWanted 24 = .ok (.iconst 5, 1) := by decide +kernel
theorem dX3_swingWanted_25 : decode cX3_swingWanted 25 = .ok (.if_icmp .ge 27, 3) := by decide +kernel
theorem dX3_swingWanted_28 : decode cX3_swingWanted 28 = .ok (.iload_n 2, 1) := by decide +kernel
theorem dX3_swingWanted_29 : decode cX3_swingWanted 29 = .ok (.aload_n 0, 1) := by decide +kernel
theorem dX3_swingWanted_30 : decode cX3_swingWanted 30 = .ok (.iload_n 3, 1) := by decide +kernel
theorem dX3_swingWanted_31 : decode cX3_swingWanted 31 = .ok (.aload_n 0, 1) := by decide +kernel
theorem dX3_swingWanted_32 : decode cX3_swingWanted 32 = .ok (.iload_n 3, 1) := by decide +kernel
theorem dX3_swingWanted_33 : decode cX3_swingWanted 33 = .ok (.invokevirtual 111, 3) := by decide +kernel
theorem dX3_swingWanted_36 : decode cX3_swingWanted 36 = .ok (.invokevirtual 53, 3) := by decide +kernel
theorem dX3_swingWanted_39 : decode cX3_swingWanted 39 = .ok (.invokestatic 57, 3) := by decide +kernel
theorem dX3_swingWanted_42 : decode cX3_swingWanted 42 = .ok (.invokestatic 72, 3) := by decide +kernel
theorem dX3_swingWanted_45 : decode cX3_swingWanted 45 = .ok (.istore_n 2, 1) := by decide +kernel
theorem dX3_swingWanted_46 : decode cX3_swingWanted 46 = .ok (.iinc 3 1, 3) := by decide +kernel
theorem dX3_swingWanted_49 : decode cX3_swingWanted 49 = .ok (.goto (-26), 3) := by decide +kernel
theorem dX3_swingWanted_52 : decode cX3_swingWanted 52 = .ok (.iload_n 2, 1) := by decide +kernel
theorem dX3_swingWanted_53 : decode cX3_swingWanted 53 = .ok (.bipush 60, 2) := by decide +kernel
theorem dX3_swingWanted_55 : decode cX3_swingWanted 55 = .ok (.if_icmp .le 7, 3) := by decide +kernel
theorem dX3_swingWanted_58 : decode cX3_swingWanted 58 = .ok (.iconst (-1), 1) := by decide +kernel
theorem dX3_swingWanted_59 : decode cX3_swingWanted 59 = .ok (.goto 4, 3) := by decide +kernel
theorem dX3_swingWanted_62 : decode cX3_swingWanted 62 = .ok (.iload_n 2, 1) := by decide +kernel
theorem dX3_swingWanted_63 : decode cX3_swingWanted 63 = .ok (.ireturn, 1) := by decide +kernel
theorem dX3_meanScore_0 : decode cX3_meanScore 0 = .ok (.aload_n 0, 1) := by decide +kernel
theorem dX3_meanScore_1 : decode cX3_meanScore 1 = .ok (.iconst 0, 1) := by decide +kernel
theorem dX3_meanScore_2 : decode cX3_meanScore 2 = .ok (.putfield 28, 3) := by decide +kernel
theorem dX3_meanScore_5 : decode cX3_meanScore 5 = .ok (.iconst 0, 1) := by decide +kernel
theorem dX3_meanScore_6 : decode cX3_meanScore 6 = .ok (.istore_n 1, 1) := by decide +kernel
theorem dX3_meanScore_7 : decode cX3_meanScore 7 = .ok (.iconst 0, 1) := by decide +kernel
theorem dX3_meanScore_8 : decode cX3_meanScore 8 = .ok (.istore_n 2, 1) := by decide +kernel
theorem dX3_meanScore_9 : decode cX3_meanScore 9 = .ok (.iload_n 2, 1) := by decide +kernel
theorem dX3_meanScore_10 : decode cX3_meanScore 10 = .ok (.aload_n 0, 1) := by decide +kernel
theorem dX3_meanScore_11 : decode cX3_meanScore 11 = .ok (.getfield 32, 3) := by decide +kernel
theorem dX3_meanScore_14 : decode cX3_meanScore 14 = .ok (.if_icmp .ge 20, 3) := by decide +kernel
theorem dX3_meanScore_17 : decode cX3_meanScore 17 = .ok (.iload_n 1, 1) := by decide +kernel
theorem dX3_meanScore_18 : decode cX3_meanScore 18 = .ok (.aload_n 0, 1) := by decide +kernel
theorem dX3_meanScore_19 : decode cX3_meanScore 19 = .ok (.getfield 22, 3) := by decide +kernel
theorem dX3_meanScore_22 : decode cX3_meanScore 22 = .ok (.iconst 1, 1) := by decide +kernel
theorem dX3_meanScore_23 : decode cX3_meanScore 23 = .ok (.iload_n 2, 1) := by decide +kernel
theorem dX3_meanScore_24 : decode cX3_meanScore 24 = .ok (.iadd, 1) := by decide +kernel
theorem dX3_meanScore_25 : decode cX3_meanScore 25 = .ok (.iaload, 1) := by decide +kernel
theorem dX3_meanScore_26 : decode cX3_meanScore 26 = .ok (.iadd, 1) := by decide +kernel
theorem dX3_meanScore_27 : decode cX3_meanScore 27 = .ok (.istore_n 1, 1) := by decide +kernel
theorem dX3_meanScore_28 : decode cX3_meanScore 28 = .ok (.iinc 2 1, 3) := by decide +kernel
theorem dX3_meanScore_31 : decode cX3_meanScore 31 = .ok (.goto (-22), 3) := by decide +kernel
theorem dX3_meanScore_34 : decode cX3_meanScore 34 = .ok (.aload_n 0, 1) := by decide +kernel
theorem dX3_meanScore_35 : decode cX3_meanScore 35 = .ok (.getfield 32, 3) := by decide +kernel
theorem dX3_meanScore_38 : decode cX3_meanScore 38 = .ok (.ifCond .ne 7, 3) := by decide +kernel
theorem dX3_meanScore_41 : decode cX3_meanScore 41 = .ok (.dconst 0, 1) := by decide +kernel
theorem dX3_meanScore_42 : decode cX3_meanScore 42 = .ok (.goto 11, 3) := by decide +kernel
theorem dX3_meanScore_45 : decode cX3_meanScore 45 = .ok (.iload_n 1, 1) := by decide +kernel
theorem dX3_meanScore_46 : decode cX3_meanScore 46 = .ok (.i2d, 1) := by decide +kernel
theorem dX3_meanScore_47 : decode cX3_meanScore 47 = .ok (.aload_n 0, 1) := by decide +kernel
theorem dX3_meanScore_48 : decode cX3_meanScore 48 = .ok (.getfield 32, 3) := by decide +kernel
theorem dX3_meanScore_51 : decode cX3_meanScore 51 = .ok (.i2d, 1) := by decide +kernel
theorem dX3_meanScore_52 : decode cX3_meanScore 52 = .ok (.ddiv, 1) := by decide +kernel
theorem dX3_meanScore_53 : decode cX3_meanScore 53 = .ok (.dreturn, 1) := by decide +kernel
theorem dX3_digest_0 : decode cX3_digest 0 = .ok (.aload_n 0, 1) := by decide +kernel
theorem dX3_digest_1 : decode cX3_digest 1 = .ok (.iconst 0, 1) := by decide +kernel
theorem dX3_digest_2 : decode cX3_digest 2 = .ok (.putfield 28, 3) := by decide +kernel
theorem dX3_digest_5 : decode cX3_digest 5 = .ok (.bipush 6, 2) := by decide +kernel
theorem dX3_digest_7 : decode cX3_digest 7 = .ok (.newarray .int, 2) := by decide +kernel
theorem dX3_digest_9 : decode cX3_digest 9 = .ok (.dup, 1) := by decide +kernel
theorem dX3_digest_10 : decode cX3_digest 10 = .ok (.iconst 0, 1) := by decide +kernel
theorem dX3_digest_11 : decode cX3_digest 11 = .ok (.aload_n 0, 1) := by decide +kernel
theorem dX3_digest_12 : decode cX3_digest 12 = .ok (.getfield 22, 3) := by decide +kernel
theorem dX3_digest_15 : decode cX3_digest 15 = .ok (.iconst 0, 1) := by decide +kernel
theorem dX3_digest_16 : decode cX3_digest 16 = .ok (.iaload, 1) := by decide +kernel
theorem dX3_digest_17 : decode cX3_digest 17 = .ok (.iastore, 1) := by decide +kernel
theorem dX3_digest_18 : decode cX3_digest 18 = .ok (.dup, 1) := by decide +kernel
theorem dX3_digest_19 : decode cX3_digest 19 = .ok (.iconst 1, 1) := by decide +kernel
theorem dX3_digest_20 : decode cX3_digest 20 = .ok (.aload_n 0, 1) := by decide +kernel
theorem dX3_digest_21 : decode cX3_digest 21 = .ok (.getfield 32, 3) := by decide +kernel
theorem dX3_digest_24 : decode cX3_digest 24 = .ok (.iastore, 1) := by decide +kernel
theorem dX3_digest_25 : decode cX3_digest 25 = .ok (.dup, 1) := by decide +kernel
theorem dX3_digest_26 : decode cX3_digest 26 = .ok (.iconst 2, 1) := by decide +kernel
theorem dX3_digest_27 : decode cX3_digest 27 = .ok (.aload_n 0, 1) := by decide +kernel
theorem dX3_digest_28 : decode cX3_digest 28 = .ok (.invokevirtual 78, 3) := by decide +kernel
theorem dX3_digest_31 : decode cX3_digest 31 = .ok (.iastore, 1) := by decide +kernel
theorem dX3_digest_32 : decode cX3_digest 32 = .ok (.dup, 1) := by decide +kernel
theorem dX3_digest_33 : decode cX3_digest 33 = .ok (.iconst 3, 1) := by decide +kernel
theorem dX3_digest_34 : decode cX3_digest 34 = .ok (.aload_n 0, 1) := by decide +kernel
theorem dX3_digest_35 : decode cX3_digest 35 = .ok (.invokevirtual 81, 3) := by decide +kernel
theorem dX3_digest_38 : decode cX3_digest 38 = .ok (.invokestatic 84, 3) := by decide +kernel
theorem dX3_digest_41 : decode cX3_digest 41 = .ok (.iastore, 1) := by decide +kernel
theorem dX3_digest_42 : decode cX3_digest 42 = .ok (.dup, 1) := by decide +kernel
theorem dX3_digest_43 : decode cX3_digest 43 = .ok (.iconst 4, 1) := by decide +kernel
theorem dX3_digest_44 : decode cX3_digest 44 = .ok (.aload_n 0, 1) := by decide +kernel
theorem dX3_digest_45 : decode cX3_digest 45 = .ok (.invokevirtual 132, 3) := by decide +kernel
theorem dX3_digest_48 : decode cX3_digest 48 = .ok (.iastore, 1) := by decide +kernel
theorem dX3_digest_49 : decode cX3_digest 49 = .ok (.dup, 1) := by decide +kernel
theorem dX3_digest_50 : decode cX3_digest 50 = .ok (.iconst 5, 1) := by decide +kernel
theorem dX3_digest_51 : decode cX3_digest 51 = .ok (.aload_n 0, 1) := by decide +kernel
theorem dX3_digest_52 : decode cX3_digest 52 = .ok (.bipush 25, 2) := by decide +kernel
theorem dX3_digest_54 : decode cX3_digest 54 = .ok (.invokevirtual 129, 3) := by decide +kernel
theorem dX3_digest_57 : decode cX3_digest 57 = .ok (.iastore, 1) := by decide +kernel
theorem dX3_digest_58 : decode cX3_digest 58 = .ok (.astore_n 1, 1) := by decide +kernel
theorem dX3_digest_59 : decode cX3_digest 59 = .ok (.ldc2_w 138, 3) := by decide +kernel
theorem dX3_digest_62 : decode cX3_digest 62 = .ok (.lstore_n 2, 1) := by decide +kernel
theorem dX3_digest_63 : decode cX3_digest 63 = .ok (.aload_n 1, 1) := by decide +kernel
theorem dX3_digest_64 : decode cX3_digest 64 = .ok (.astore 4, 2) := by decide +kernel
theorem dX3_digest_66 : decode cX3_digest 66 = .ok (.aload 4, 2) := by decide +kernel
theorem dX3_digest_68 : decode cX3_digest 68 = .ok (.arraylength, 1) := by decide +kernel
theorem dX3_digest_69 : decode cX3_digest 69 = .ok (.istore 5, 2) := by decide +kernel
theorem dX3_digest_71 : decode cX3_digest 71 = .ok (.iconst 0, 1) := by decide +kernel
theorem dX3_digest_72 : decode cX3_digest 72 = .ok (.istore 6, 2) := by decide +kernel
theorem dX3_digest_74 : decode cX3_digest 74 = .ok (.iload 6, 2) := by decide +kernel
theorem dX3_digest_76 : decode cX3_digest 76 = .ok (.iload 5, 2) := by decide +kernel
theorem dX3_digest_78 : decode cX3_digest 78 = .ok (.if_icmp .ge 26, 3) := by decide +kernel
theorem dX3_digest_81 : decode cX3_digest 81 = .ok (.aload 4, 2) := by decide +kernel
theorem dX3_digest_83 : decode cX3_digest 83 = .ok (.iload 6, 2) := by decide +kernel
theorem dX3_digest_85 : decode cX3_digest 85 = .ok (.iaload, 1) := by decide +kernel
theorem dX3_digest_86 : decode cX3_digest 86 = .ok (.istore 7, 2) := by decide +kernel
theorem dX3_digest_88 : decode cX3_digest 88 = .ok (.lload_n 2, 1) := by decide +kernel
theorem dX3_digest_89 : decode cX3_digest 89 = .ok (.ldc2_w 140, 3) := by decide +kernel
theorem dX3_digest_92 : decode cX3_digest 92 = .ok (.lmul, 1) := by decide +kernel
theorem dX3_digest_93 : decode cX3_digest 93 = .ok (.iload 7, 2) := by decide +kernel
theorem dX3_digest_95 : decode cX3_digest 95 = .ok (.i2l, 1) := by decide +kernel
theorem dX3_digest_96 : decode cX3_digest 96 = .ok (.ladd, 1) := by decide +kernel
theorem dX3_digest_97 : decode cX3_digest 97 = .ok (.lstore_n 2, 1) := by decide +kernel
theorem dX3_digest_98 : decode cX3_digest 98 = .ok (.iinc 6 1, 3) := by decide +kernel
theorem dX3_digest_101 : decode cX3_digest 101 = .ok (.goto (-27), 3) := by decide +kernel
theorem dX3_digest_104 : decode cX3_digest 104 = .ok (.iconst 0, 1) := by decide +kernel
theorem dX3_digest_105 : decode cX3_digest 105 = .ok (.istore 4, 2) := by decide +kernel
theorem dX3_digest_107 : decode cX3_digest 107 = .ok (.iload 4, 2) := by decide +kernel
theorem dX3_digest_109 : decode cX3_digest 109 = .ok (.iconst 5, 1) := by decide +kernel
theorem dX3_digest_110 : decode cX3_digest 110 = .ok (.if_icmp .ge 54, 3) := by decide +kernel
theorem dX3_digest_113 : decode cX3_digest 113 = .ok (.iconst 0, 1) := by decide +kernel
theorem dX3_digest_114 : decode cX3_digest 114 = .ok (.istore 5, 2) := by decide +kernel
theorem dX3_digest_116 : decode cX3_digest 116 = .ok (.iload 5, 2) := by decide +kernel
theorem dX3_digest_118 : decode cX3_digest 118 = .ok (.iconst 5, 1) := by decide +kernel
theorem dX3_digest_119 : decode cX3_digest 119 = .ok (.if_icmp .ge 25, 3) := by decide +kernel
theorem dX3_digest_122 : decode cX3_digest 122 = .ok (.lload_n 2, 1) := by decide +kernel
theorem dX3_digest_123 : decode cX3_digest 123 = .ok (.ldc2_w 140, 3) := by decide +kernel
theorem dX3_digest_126 : decode cX3_digest 126 = .ok (.lmul, 1) := by decide +kernel
theorem dX3_digest_127 : decode cX3_digest 127 = .ok (.aload_n 0, 1) := by decide +kernel
theorem dX3_digest_128 : decode cX3_digest 128 = .ok (.iload 4, 2) := by decide +kernel
theorem dX3_digest_130 : decode cX3_digest 130 = .ok (.iload 5, 2) := by decide +kernel
theorem dX3_digest_132 : decode cX3_digest 132 = .ok (.invokevirtual 53, 3) := by decide +kernel
theorem dX3_digest_135 : decode cX3_digest 135 = .ok (.i2l, 1) := by decide +kernel
theorem dX3_digest_136 : decode cX3_digest 136 = .ok (.ladd, 1) := by decide +kernel
theorem dX3_digest_137 : decode cX3_digest 137 = .ok (.lstore_n 2, 1) := by decide +kernel
theorem dX3_digest_138 : decode cX3_digest 138 = .ok (.iinc 5 1, 3) := by decide +kernel
theorem dX3_digest_141 : decode cX3_digest 141 = .ok (.goto (-25), 3) := by decide +kernel
theorem dX3_digest_144 : decode cX3_digest 144 = .ok (.lload_n 2, 1) := by decide +kernel
theorem dX3_digest_145 : decode cX3_digest 145 = .ok (.ldc2_w 140, 3) := by decide +kernel
theorem dX3_digest_148 : decode cX3_digest 148 = .ok (.lmul, 1) := by decide +kernel
theorem dX3_digest_149 : decode cX3_digest 149 = .ok (.aload_n 0, 1) := by decide +kernel
theorem dX3_digest_150 : decode cX3_digest 150 = .ok (.iload 4, 2) := by decide +kernel
theorem dX3_digest_152 : decode cX3_digest 152 = .ok (.invokevirtual 111, 3) := by decide +kernel
theorem dX3_digest_155 : decode cX3_digest 155 = .ok (.i2l, 1) := by decide +kernel
theorem dX3_digest_156 : decode cX3_digest 156 = .ok (.ladd, 1) := by decide +kernel
theorem dX3_digest_157 : decode cX3_digest 157 = .ok (.lstore_n 2, 1) := by decide +kernel
theorem dX3_digest_158 : decode cX3_digest 158 = .ok (.iinc 4 1, 3) := by decide +kernel
theorem dX3_digest_161 : decode cX3_digest 161 = .ok (.goto (-54), 3) := by decide +kernel
theorem dX3_digest_164 : decode cX3_digest 164 = .ok (.iconst 0, 1) := by decide +kernel
theorem dX3_digest_165 : decode cX3_digest 165 = .ok (.istore 4, 2) := by decide +kernel
theorem dX3_digest_167 : decode cX3_digest 167 = .ok (.iload 4, 2) := by decide +kernel
theorem dX3_digest_169 : decode cX3_digest 169 = .ok (.aload_n 0, 1) := by decide +kernel
theorem dX3_digest_170 : decode cX3_digest 170 = .ok (.getfield 32, 3) := by decide +kernel
theorem dX3_digest_173 : decode cX3_digest 173 = .ok (.if_icmp .ge 174, 3) := by decide +kernel
theorem dX3_digest_176 : decode cX3_digest 176 = .ok (.bipush 10, 2) := by decide +kernel
theorem dX3_digest_178 : decode cX3_digest 178 = .ok (.newarray .int, 2) := by decide +kernel
theorem dX3_digest_180 : decode cX3_digest 180 = .ok (.dup, 1) := by decide +kernel
theorem dX3_digest_181 : decode cX3_digest 181 = .ok (.iconst 0, 1) := by decide +kernel
theorem dX3_digest_182 : decode cX3_digest 182 = .ok (.aload_n 0, 1) := by decide +kernel
theorem dX3_digest_183 : decode cX3_digest 183 = .ok (.iload 4, 2) := by decide +kernel
theorem dX3_digest_185 : decode cX3_digest 185 = .ok (.invokevirtual 45, 3) := by decide +kernel
theorem dX3_digest_188 : decode cX3_digest 188 = .ok (.iastore, 1) := by decide +kernel
theorem dX3_digest_189 : decode cX3_digest 189 = .ok (.dup, 1) := by decide +kernel
theorem dX3_digest_190 : decode cX3_digest 190 = .ok (.iconst 1, 1) := by decide +kernel
theorem dX3_digest_191 : decode cX3_digest 191 = .ok (.aload_n 0, 1) := by decide +kernel
theorem dX3_digest_192 : decode cX3_digest 192 = .ok (.aload_n 0, 1) := by decide +kernel
theorem dX3_digest_193 : decode cX3_digest 193 = .ok (.iload 4, 2) := by decide +kernel
theorem dX3_digest_195 : decode cX3_digest 195 = .ok (.invokevirtual 45, 3) := by decide +kernel
theorem dX3_digest_198 : decode cX3_digest 198 = .ok (.aload_n 0, 1) := by decide +kernel
theorem dX3_digest_199 : decode cX3_digest 199 = .ok (.invokevirtual 49, 3) := by decide +kernel
theorem dX3_digest_202 : decode cX3_digest 202 = .ok (.invokevirtual 53, 3) := by decide +kernel
theorem dX3_digest_205 : decode cX3_digest 205 = .ok (.iastore, 1) := by decide +kernel
theorem dX3_digest_206 : decode cX3_digest 206 = .ok (.dup, 1) := by decide +kernel
theorem dX3_digest_207 : decode cX3_digest 207 = .ok (.iconst 2, 1) := by decide +kernel
theorem dX3_digest_208 : decode cX3_digest 208 = .ok (.aload_n 0, 1) := by decide +kernel
theorem dX3_digest_209 : decode cX3_digest 209 = .ok (.getfield 22, 3) := by decide +kernel
theorem dX3_digest_212 : decode cX3_digest 212 = .ok (.iconst 1, 1) := by decide +kernel
theorem dX3_digest_213 : decode cX3_digest 213 = .ok (.iload 4, 2) := by decide +kernel
theorem dX3_digest_215 : decode cX3_digest 215 = .ok (.iadd, 1) := by decide +kernel
theorem dX3_digest_216 : decode cX3_digest 216 = .ok (.iaload, 1) := by decide +kernel
theorem dX3_digest_217 : decode cX3_digest 217 = .ok (.iastore, 1) := by decide +kernel
theorem dX3_digest_218 : decode cX3_digest 218 = .ok (.dup, 1) := by decide +kernel
theorem dX3_digest_219 : decode cX3_digest 219 = .ok (.iconst 3, 1) := by decide +kernel
theorem dX3_digest_220 : decode cX3_digest 220 = .ok (.aload_n 0, 1) := by decide +kernel
theorem dX3_digest_221 : decode cX3_digest 221 = .ok (.getfield 22, 3) := by decide +kernel
theorem dX3_digest_224 : decode cX3_digest 224 = .ok (.bipush 7, 2) := by decide +kernel
theorem dX3_digest_226 : decode cX3_digest 226 = .ok (.iload 4, 2) := by decide +kernel
theorem dX3_digest_228 : decode cX3_digest 228 = .ok (.iadd, 1) := by decide +kernel
theorem dX3_digest_229 : decode cX3_digest 229 = .ok (.iaload, 1) := by decide +kernel
theorem dX3_digest_230 : decode cX3_digest 230 = .ok (.iastore, 1) := by decide +kernel
theorem dX3_digest_231 : decode cX3_digest 231 = .ok (.dup, 1) := by decide +kernel
theorem dX3_digest_232 : decode cX3_digest 232 = .ok (.iconst 4, 1) := by decide +kernel
theorem dX3_digest_233 : decode cX3_digest 233 = .ok (.aload_n 0, 1) := by decide +kernel
theorem dX3_digest_234 : decode cX3_digest 234 = .ok (.getfield 22, 3) := by decide +kernel
theorem dX3_digest_237 : decode cX3_digest 237 = .ok (.bipush 13, 2) := by decide +kernel
theorem dX3_digest_239 : decode cX3_digest 239 = .ok (.iload 4, 2) := by decide +kernel
theorem dX3_digest_241 : decode cX3_digest 241 = .ok (.iadd, 1) := by decide +kernel
theorem dX3_digest_242 : decode cX3_digest 242 = .ok (.iaload, 1) := by decide +kernel
theorem dX3_digest_243 : decode cX3_digest 243 = .ok (.iastore, 1) := by decide +kernel
theorem dX3_digest_244 : decode cX3_digest 244 = .ok (.dup, 1) := by decide +kernel
theorem dX3_digest_245 : decode cX3_digest 245 = .ok (.iconst 5, 1) := by decide +kernel
theorem dX3_digest_246 : decode cX3_digest 246 = .ok (.aload_n 0, 1) := by decide +kernel
theorem dX3_digest_247 : decode cX3_digest 247 = .ok (.getfield 22, 3) := by decide +kernel
theorem dX3_digest_250 : decode cX3_digest 250 = .ok (.bipush 19, 2) := by decide +kernel
theorem dX3_digest_252 : decode cX3_digest 252 = .ok (.iload 4, 2) := by decide +kernel
theorem dX3_digest_254 : decode cX3_digest 254 = .ok (.iadd, 1) := by decide +kernel
theorem dX3_digest_255 : decode cX3_digest 255 = .ok (.iaload, 1) := by decide +kernel
theorem dX3_digest_256 : decode cX3_digest 256 = .ok (.iastore, 1) := by decide +kernel
theorem dX3_digest_257 : decode cX3_digest 257 = .ok (.dup, 1) := by decide +kernel
theorem dX3_digest_258 : decode cX3_digest 258 = .ok (.bipush 6, 2) := by decide +kernel
theorem dX3_digest_260 : decode cX3_digest 260 = .ok (.aload_n 0, 1) := by decide +kernel
theorem dX3_digest_261 : decode cX3_digest 261 = .ok (.iload 4, 2) := by decide +kernel
theorem dX3_digest_263 : decode cX3_digest 263 = .ok (.invokevirtual 65, 3) := by decide +kernel
theorem dX3_digest_266 : decode cX3_digest 266 = .ok (.iastore, 1) := by decide +kernel
theorem dX3_digest_267 : decode cX3_digest 267 = .ok (.dup, 1) := by decide +kernel
theorem dX3_digest_268 : decode cX3_digest 268 = .ok (.bipush 7, 2) := by decide +kernel
theorem dX3_digest_270 : decode cX3_digest 270 = .ok (.aload_n 0, 1) := by decide +kernel
theorem dX3_digest_271 : decode cX3_digest 271 = .ok (.iload 4, 2) := by decide +kernel
theorem dX3_digest_273 : decode cX3_digest 273 = .ok (.invokevirtual 117, 3) := by decide +kernel
theorem dX3_digest_276 : decode cX3_digest 276 = .ok (.iastore, 1) := by decide +kernel
theorem dX3_digest_277 : decode cX3_digest 277 = .ok (.dup, 1) := by decide +kernel
theorem dX3_digest_278 : decode cX3_digest 278 = .ok (.bipush 8, 2) := by decide +kernel
theorem dX3_digest_280 : decode cX3_digest 280 = .ok (.aload_n 0, 1) := by decide +kernel
theorem dX3_digest_281 : decode cX3_digest 281 = .ok (.iload 4, 2) := by decide +kernel
theorem dX3_digest_283 : decode cX3_digest 283 = .ok (.invokevirtual 126, 3) := by decide +kernel
theorem dX3_digest_286 : decode cX3_digest 286 = .ok (.iastore, 1) := by decide +kernel
theorem dX3_digest_287 : decode cX3_digest 287 = .ok (.dup, 1) := by decide +kernel
theorem dX3_digest_288 : decode cX3_digest 288 = .ok (.bipush 9, 2) := by decide +kernel
theorem dX3_digest_290 : decode cX3_digest 290 = .ok (.aload_n 0, 1) := by decide +kernel
theorem dX3_digest_291 : decode cX3_digest 291 = .ok (.iload 4, 2) := by decide +kernel
theorem dX3_digest_293 : decode cX3_digest 293 = .ok (.invokevirtual 135, 3) := by decide +kernel
theorem dX3_digest_296 : decode cX3_digest 296 = .ok (.iastore, 1) := by decide +kernel
theorem dX3_digest_297 : decode cX3_digest 297 = .ok (.astore 5, 2) := by decide +kernel
theorem dX3_digest_299 : decode cX3_digest 299 = .ok (.aload 5, 2) := by decide +kernel
theorem dX3_digest_301 : decode cX3_digest 301 = .ok (.astore 6, 2) := by decide +kernel
theorem dX3_digest_303 : decode cX3_digest 303 = .ok (.aload 6, 2) := by decide +kernel
theorem dX3_digest_305 : decode cX3_digest 305 = .ok (.arraylength, 1) := by decide +kernel
theorem dX3_digest_306 : decode cX3_digest 306 = .ok (.istore 7, 2) := by decide +kernel
theorem dX3_digest_308 : decode cX3_digest 308 = .ok (.iconst 0, 1) := by decide +kernel
theorem dX3_digest_309 : decode cX3_digest 309 = .ok (.istore 8, 2) := by decide +kernel
theorem dX3_digest_311 : decode cX3_digest 311 = .ok (.iload 8, 2) := by decide +kernel
theorem dX3_digest_313 : decode cX3_digest 313 = .ok (.iload 7, 2) := by decide +kernel
theorem dX3_digest_315 : decode cX3_digest 315 = .ok (.if_icmp .ge 26, 3) := by decide +kernel
theorem dX3_digest_318 : decode cX3_digest 318 = .ok (.aload 6, 2) := by decide +kernel
theorem dX3_digest_320 : decode cX3_digest 320 = .ok (.iload 8, 2) := by decide +kernel
theorem dX3_digest_322 : decode cX3_digest 322 = .ok (.iaload, 1) := by decide +kernel
theorem dX3_digest_323 : decode cX3_digest 323 = .ok (.istore 9, 2) := by decide +kernel
theorem dX3_digest_325 : decode cX3_digest 325 = .ok (.lload_n 2, 1) := by decide +kernel
theorem dX3_digest_326 : decode cX3_digest 326 = .ok (.ldc2_w 140, 3) := by decide +kernel
theorem dX3_digest_329 : decode cX3_digest 329 = .ok (.lmul, 1) := by decide +kernel
theorem dX3_digest_330 : decode cX3_digest 330 = .ok (.iload 9, 2) := by decide +kernel
theorem dX3_digest_332 : decode cX3_digest 332 = .ok (.i2l, 1) := by decide +kernel
theorem dX3_digest_333 : decode cX3_digest 333 = .ok (.ladd, 1) := by decide +kernel
theorem dX3_digest_334 : decode cX3_digest 334 = .ok (.lstore_n 2, 1) := by decide +kernel
theorem dX3_digest_335 : decode cX3_digest 335 = .ok (.iinc 8 1, 3) := by decide +kernel
theorem dX3_digest_338 : decode cX3_digest 338 = .ok (.goto (-27), 3) := by decide +kernel
theorem dX3_digest_341 : decode cX3_digest 341 = .ok (.iinc 4 1, 3) := by decide +kernel
theorem dX3_digest_344 : decode cX3_digest 344 = .ok (.goto (-177), 3) := by decide +kernel
theorem dX3_digest_347 : decode cX3_digest 347 = .ok (.lload_n 2, 1) := by decide +kernel
theorem dX3_digest_348 : decode cX3_digest 348 = .ok (.lreturn, 1) := by decide +kernel
theorem dJ6_numberOfTrailingZeros_0f7a4_0 : decode cJ6_numberOfTrailingZeros_0f7a4 0 = .ok (.iload_n 0, 1) := by decide +kernel
theorem dJ6_numberOfTrailingZeros_0f7a4_1 : decode cJ6_numberOfTrailingZeros_0f7a4 1 = .ok (.iconst (-1), 1) := by decide +kernel
theorem dJ6_numberOfTrailingZeros_0f7a4_2 : decode cJ6_numberOfTrailingZeros_0f7a4 2 = .ok (.ixor, 1) := by decide +kernel
theorem dJ6_numberOfTrailingZeros_0f7a4_3 : decode cJ6_numberOfTrailingZeros_0f7a4 3 = .ok (.iload_n 0, 1) := by decide +kernel
theorem dJ6_numberOfTrailingZeros_0f7a4_4 : decode cJ6_numberOfTrailingZeros_0f7a4 4 = .ok (.iconst 1, 1) := by decide +kernel
theorem dJ6_numberOfTrailingZeros_0f7a4_5 : decode cJ6_numberOfTrailingZeros_0f7a4 5 = .ok (.isub, 1) := by decide +kernel
theorem dJ6_numberOfTrailingZeros_0f7a4_6 : decode cJ6_numberOfTrailingZeros_0f7a4 6 = .ok (.iand, 1) := by decide +kernel
theorem dJ6_numberOfTrailingZeros_0f7a4_7 : decode cJ6_numberOfTrailingZeros_0f7a4 7 = .ok (.istore_n 0, 1) := by decide +kernel
theorem dJ6_numberOfTrailingZeros_0f7a4_8 : decode cJ6_numberOfTrailingZeros_0f7a4 8 = .ok (.iload_n 0, 1) := by decide +kernel
theorem dJ6_numberOfTrailingZeros_0f7a4_9 : decode cJ6_numberOfTrailingZeros_0f7a4 9 = .ok (.ifCond .gt 8, 3) := by decide +kernel
theorem dJ6_numberOfTrailingZeros_0f7a4_12 : decode cJ6_numberOfTrailingZeros_0f7a4 12 = .ok (.iload_n 0, 1) := by decide +kernel
theorem dJ6_numberOfTrailingZeros_0f7a4_13 : decode cJ6_numberOfTrailingZeros_0f7a4 13 = .ok (.bipush 32, 2) := by decide +kernel
theorem dJ6_numberOfTrailingZeros_0f7a4_15 : decode cJ6_numberOfTrailingZeros_0f7a4 15 = .ok (.iand, 1) := by decide +kernel
theorem dJ6_numberOfTrailingZeros_0f7a4_16 : decode cJ6_numberOfTrailingZeros_0f7a4 16 = .ok (.ireturn, 1) := by decide +kernel
theorem dJ6_numberOfTrailingZeros_0f7a4_17 : decode cJ6_numberOfTrailingZeros_0f7a4 17 = .ok (.iconst 1, 1) := by decide +kernel
theorem dJ6_numberOfTrailingZeros_0f7a4_18 : decode cJ6_numberOfTrailingZeros_0f7a4 18 = .ok (.istore_n 1, 1) := by decide +kernel
theorem dJ6_numberOfTrailingZeros_0f7a4_19 : decode cJ6_numberOfTrailingZeros_0f7a4 19 = .ok (.iload_n 0, 1) := by decide +kernel
theorem dJ6_numberOfTrailingZeros_0f7a4_20 : decode cJ6_numberOfTrailingZeros_0f7a4 20 = .ok (.ldc_w 264, 3) := by decide +kernel
theorem dJ6_numberOfTrailingZeros_0f7a4_23 : decode cJ6_numberOfTrailingZeros_0f7a4 23 = .ok (.if_icmp .le 11, 3) := by decide +kernel
theorem dJ6_numberOfTrailingZeros_0f7a4_26 : decode cJ6_numberOfTrailingZeros_0f7a4 26 = .ok (.iinc 1 16, 3) := by decide +kernel
theorem dJ6_numberOfTrailingZeros_0f7a4_29 : decode cJ6_numberOfTrailingZeros_0f7a4 29 = .ok (.iload_n 0, 1) := by decide +kernel
theorem dJ6_numberOfTrailingZeros_0f7a4_30 : decode cJ6_numberOfTrailingZeros_0f7a4 30 = .ok (.bipush 16, 2) := by decide +kernel
theorem dJ6_numberOfTrailingZeros_0f7a4_32 : decode cJ6_numberOfTrailingZeros_0f7a4 32 = .ok (.iushr, 1) := by decide +kernel
theorem dJ6_numberOfTrailingZeros_0f7a4_33 : decode cJ6_numberOfTrailingZeros_0f7a4 33 = .ok (.istore_n 0, 1) := by decide +kernel
theorem dJ6_numberOfTrailingZeros_0f7a4_34 : decode cJ6_numberOfTrailingZeros_0f7a4 34 = .ok (.iload_n 0, 1) := by decide +kernel
theorem dJ6_numberOfTrailingZeros_0f7a4_35 : decode cJ6_numberOfTrailingZeros_0f7a4 35 = .ok (.sipush 256, 3) := by decide +kernel
theorem dJ6_numberOfTrailingZeros_0f7a4_38 : decode cJ6_numberOfTrailingZeros_0f7a4 38 = .ok (.if_icmp .le 11, 3) := by decide +kernel
theorem dJ6_numberOfTrailingZeros_0f7a4_41 : decode cJ6_numberOfTrailingZeros_0f7a4 41 = .ok (.iinc 1 8, 3) := by decide +kernel
theorem dJ6_numberOfTrailingZeros_0f7a4_44 : decode cJ6_numberOfTrailingZeros_0f7a4 44 = .ok (.iload_n 0, 1) := by decide +kernel
theorem dJ6_numberOfTrailingZeros_0f7a4_45 : decode cJ6_numberOfTrailingZeros_0f7a4 45 = .ok (.bipush 8, 2) := by decide +kernel
theorem dJ6_numberOfTrailingZeros_0f7a4_47 : decode cJ6_numberOfTrailingZeros_0f7a4 47 = .ok (.iushr, 1) := by decide +kernel
theorem dJ6_numberOfTrailingZeros_0f7a4_48 : decode cJ6_numberOfTrailingZeros_0f7a4 48 = .ok (.istore_n 0, 1) := by decide +kernel
theorem dJ6_numberOfTrailingZeros_0f7a4_49 : decode cJ6_numberOfTrailingZeros_0f7a4 49 = .ok (.iload_n 0, 1) := by decide +kernel
theorem dJ6_numberOfTrailingZeros_0f7a4_50 : decode cJ6_numberOfTrailingZeros_0f7a4 50 = .ok (.bipush 16, 2) := by decide +kernel
theorem dJ6_numberOfTrailingZeros_0f7a4_52 : decode cJ6_numberOfTrailingZeros_0f7a4 52 = .ok (.if_icmp .le 10, 3) := by decide +kernel
theorem dJ6_numberOfTrailingZeros_0f7a4_55 : decode cJ6_numberOfTrailingZeros_0f7a4 55 = .ok (.iinc 1 4, 3) := by decide +kernel
theorem dJ6_numberOfTrailingZeros_0f7a4_58 : decode cJ6_numberOfTrailingZeros_0f7a4 58 = .ok (.iload_n 0, 1) := by decide +kernel
theorem dJ6_numberOfTrailingZeros_0f7a4_59 : decode cJ6_numberOfTrailingZeros_0f7a4 59 = .ok (.iconst 4, 1) := by decide +kernel
theorem dJ6_numberOfTrailingZeros_0f7a4_60 : decode cJ6_numberOfTrailingZeros_0f7a4 60 = .ok (.iushr, 1) := by decide +kernel
theorem dJ6_numberOfTrailingZeros_0f7a4_61 : decode cJ6_numberOfTrailingZeros_0f7a4 61 = .ok (.istore_n 0, 1) := by decide +kernel
theorem dJ6_numberOfTrailingZeros_0f7a4_62 : decode cJ6_numberOfTrailingZeros_0f7a4 62 = .ok (.iload_n 0, 1) := by decide +kernel
theorem dJ6_numberOfTrailingZeros_0f7a4_63 : decode cJ6_numberOfTrailingZeros_0f7a4 63 = .ok (.iconst 4, 1) := by decide +kernel
theorem dJ6_numberOfTrailingZeros_0f7a4_64 : decode cJ6_numberOfTrailingZeros_0f7a4 64 = .ok (.if_icmp .le 10, 3) := by decide +kernel
theorem dJ6_numberOfTrailingZeros_0f7a4_67 : decode cJ6_numberOfTrailingZeros_0f7a4 67 = .ok (.iinc 1 2, 3) := by decide +kernel
theorem dJ6_numberOfTrailingZeros_0f7a4_70 : decode cJ6_numberOfTrailingZeros_0f7a4 70 = .ok (.iload_n 0, 1) := by decide +kernel
theorem dJ6_numberOfTrailingZeros_0f7a4_71 : decode cJ6_numberOfTrailingZeros_0f7a4 71 = .ok (.iconst 2, 1) := by decide +kernel
theorem dJ6_numberOfTrailingZeros_0f7a4_72 : decode cJ6_numberOfTrailingZeros_0f7a4 72 = .ok (.iushr, 1) := by decide +kernel
theorem dJ6_numberOfTrailingZeros_0f7a4_73 : decode cJ6_numberOfTrailingZeros_0f7a4 73 = .ok (.istore_n 0, 1) := by decide +kernel
theorem dJ6_numberOfTrailingZeros_0f7a4_74 : decode cJ6_numberOfTrailingZeros_0f7a4 74 = .ok (.iload_n 1, 1) := by decide +kernel
theorem dJ6_numberOfTrailingZeros_0f7a4_75 : decode cJ6_numberOfTrailingZeros_0f7a4 75 = .ok (.iload_n 0, 1) := by decide +kernel
theorem dJ6_numberOfTrailingZeros_0f7a4_76 : decode cJ6_numberOfTrailingZeros_0f7a4 76 = .ok (.iconst 1, 1) := by decide +kernel
theorem dJ6_numberOfTrailingZeros_0f7a4_77 : decode cJ6_numberOfTrailingZeros_0f7a4 77 = .ok (.iushr, 1) := by decide +kernel
theorem dJ6_numberOfTrailingZeros_0f7a4_78 : decode cJ6_numberOfTrailingZeros_0f7a4 78 = .ok (.iadd, 1) := by decide +kernel
theorem dJ6_numberOfTrailingZeros_0f7a4_79 : decode cJ6_numberOfTrailingZeros_0f7a4 79 = .ok (.ireturn, 1) := by decide +kernel
theorem dJ6_bitCount_0f7a4_0 : decode cJ6_bitCount_0f7a4 0 = .ok (.iload_n 0, 1) := by decide +kernel
theorem dJ6_bitCount_0f7a4_1 : decode cJ6_bitCount_0f7a4 1 = .ok (.iload_n 0, 1) := by decide +kernel
theorem dJ6_bitCount_0f7a4_2 : decode cJ6_bitCount_0f7a4 2 = .ok (.iconst 1, 1) := by decide +kernel
theorem dJ6_bitCount_0f7a4_3 : decode cJ6_bitCount_0f7a4 3 = .ok (.iushr, 1) := by decide +kernel
theorem dJ6_bitCount_0f7a4_4 : decode cJ6_bitCount_0f7a4 4 = .ok (.ldc_w 265, 3) := by decide +kernel
theorem dJ6_bitCount_0f7a4_7 : decode cJ6_bitCount_0f7a4 7 = .ok (.iand, 1) := by decide +kernel
theorem dJ6_bitCount_0f7a4_8 : decode cJ6_bitCount_0f7a4 8 = .ok (.isub, 1) := by decide +kernel
theorem dJ6_bitCount_0f7a4_9 : decode cJ6_bitCount_0f7a4 9 = .ok (.istore_n 0, 1) := by decide +kernel
theorem dJ6_bitCount_0f7a4_10 : decode cJ6_bitCount_0f7a4 10 = .ok (.iload_n 0, 1) := by decide +kernel
theorem dJ6_bitCount_0f7a4_11 : decode cJ6_bitCount_0f7a4 11 = .ok (.ldc_w 266, 3) := by decide +kernel
theorem dJ6_bitCount_0f7a4_14 : decode cJ6_bitCount_0f7a4 14 = .ok (.iand, 1) := by decide +kernel
theorem dJ6_bitCount_0f7a4_15 : decode cJ6_bitCount_0f7a4 15 = .ok (.iload_n 0, 1) := by decide +kernel
theorem dJ6_bitCount_0f7a4_16 : decode cJ6_bitCount_0f7a4 16 = .ok (.iconst 2, 1) := by decide +kernel
theorem dJ6_bitCount_0f7a4_17 : decode cJ6_bitCount_0f7a4 17 = .ok (.iushr, 1) := by decide +kernel
theorem dJ6_bitCount_0f7a4_18 : decode cJ6_bitCount_0f7a4 18 = .ok (.ldc_w 266, 3) := by decide +kernel
theorem dJ6_bitCount_0f7a4_21 : decode cJ6_bitCount_0f7a4 21 = .ok (.iand, 1) := by decide +kernel
theorem dJ6_bitCount_0f7a4_22 : decode cJ6_bitCount_0f7a4 22 = .ok (.iadd, 1) := by decide +kernel
theorem dJ6_bitCount_0f7a4_23 : decode cJ6_bitCount_0f7a4 23 = .ok (.istore_n 0, 1) := by decide +kernel
theorem dJ6_bitCount_0f7a4_24 : decode cJ6_bitCount_0f7a4 24 = .ok (.iload_n 0, 1) := by decide +kernel
theorem dJ6_bitCount_0f7a4_25 : decode cJ6_bitCount_0f7a4 25 = .ok (.iload_n 0, 1) := by decide +kernel
theorem dJ6_bitCount_0f7a4_26 : decode cJ6_bitCount_0f7a4 26 = .ok (.iconst 4, 1) := by decide +kernel
theorem dJ6_bitCount_0f7a4_27 : decode cJ6_bitCount_0f7a4 27 = .ok (.iushr, 1) := by decide +kernel
theorem dJ6_bitCount_0f7a4_28 : decode cJ6_bitCount_0f7a4 28 = .ok (.iadd, 1) := by decide +kernel
theorem dJ6_bitCount_0f7a4_29 : decode cJ6_bitCount_0f7a4 29 = .ok (.ldc_w 267, 3) := by decide +kernel
theorem dJ6_bitCount_0f7a4_32 : decode cJ6_bitCount_0f7a4 32 = .ok (.iand, 1) := by decide +kernel
theorem dJ6_bitCount_0f7a4_33 : decode cJ6_bitCount_0f7a4 33 = .ok (.istore_n 0, 1) := by decide +kernel
theorem dJ6_bitCount_0f7a4_34 : decode cJ6_bitCount_0f7a4 34 = .ok (.iload_n 0, 1) := by decide +kernel
theorem dJ6_bitCount_0f7a4_35 : decode cJ6_bitCount_0f7a4 35 = .ok (.iload_n 0, 1) := by decide +kernel
theorem dJ6_bitCount_0f7a4_36 : decode cJ6_bitCount_0f7a4 36 = .ok (.bipush 8, 2) := by decide +kernel
theorem dJ6_bitCount_0f7a4_38 : decode cJ6_bitCount_0f7a4 38 = .ok (.iushr, 1) := by decide +kernel
theorem dJ6_bitCount_0f7a4_39 : decode cJ6_bitCount_0f7a4 39 = .ok (.iadd, 1) := by decide +kernel
theorem dJ6_bitCount_0f7a4_40 : decode cJ6_bitCount_0f7a4 40 = .ok (.istore_n 0, 1) := by decide +kernel
theorem dJ6_bitCount_0f7a4_41 : decode cJ6_bitCount_0f7a4 41 = .ok (.iload_n 0, 1) := by decide +kernel
theorem dJ6_bitCount_0f7a4_42 : decode cJ6_bitCount_0f7a4 42 = .ok (.iload_n 0, 1) := by decide +kernel
theorem dJ6_bitCount_0f7a4_43 : decode cJ6_bitCount_0f7a4 43 = .ok (.bipush 16, 2) := by decide +kernel
theorem dJ6_bitCount_0f7a4_45 : decode cJ6_bitCount_0f7a4 45 = .ok (.iushr, 1) := by decide +kernel
theorem dJ6_bitCount_0f7a4_46 : decode cJ6_bitCount_0f7a4 46 = .ok (.iadd, 1) := by decide +kernel
theorem dJ6_bitCount_0f7a4_47 : decode cJ6_bitCount_0f7a4 47 = .ok (.istore_n 0, 1) := by decide +kernel
theorem dJ6_bitCount_0f7a4_48 : decode cJ6_bitCount_0f7a4 48 = .ok (.iload_n 0, 1) := by decide +kernel
theorem dJ6_bitCount_0f7a4_49 : decode cJ6_bitCount_0f7a4 49 = .ok (.bipush 63, 2) := by decide +kernel
theorem dJ6_bitCount_0f7a4_51 : decode cJ6_bitCount_0f7a4 51 = .ok (.iand, 1) := by decide +kernel
theorem dJ6_bitCount_0f7a4_52 : decode cJ6_bitCount_0f7a4 52 = .ok (.ireturn, 1) := by decide +kernel
theorem dJ9_floorMod_7cf53_0 : decode cJ9_floorMod_7cf53 0 = .ok (.iload_n 0, 1) := by decide +kernel
theorem dJ9_floorMod_7cf53_1 : decode cJ9_floorMod_7cf53 1 = .ok (.iload_n 1, 1) := by decide +kernel
theorem dJ9_floorMod_7cf53_2 : decode cJ9_floorMod_7cf53 2 = .ok (.irem, 1) := by decide +kernel
theorem dJ9_floorMod_7cf53_3 : decode cJ9_floorMod_7cf53 3 = .ok (.istore_n 2, 1) := by decide +kernel
theorem dJ9_floorMod_7cf53_4 : decode cJ9_floorMod_7cf53 4 = .ok (.iload_n 0, 1) := by decide +kernel
theorem dJ9_floorMod_7cf53_5 : decode cJ9_floorMod_7cf53 5 = .ok (.iload_n 1, 1) := by decide +kernel
theorem dJ9_floorMod_7cf53_6 : decode cJ9_floorMod_7cf53 6 = .ok (.ixor, 1) := by decide +kernel
theorem dJ9_floorMod_7cf53_7 : decode cJ9_floorMod_7cf53 7 = .ok (.ifCond .ge 11, 3) := by decide +kernel
theorem dJ9_floorMod_7cf53_10 : decode cJ9_floorMod_7cf53 10 = .ok (.iload_n 2, 1) := by decide +kernel
theorem dJ9_floorMod_7cf53_11 : decode cJ9_floorMod_7cf53 11 = .ok (.ifCond .eq 7, 3) := by decide +kernel
theorem dJ9_floorMod_7cf53_14 : decode cJ9_floorMod_7cf53 14 = .ok (.iload_n 2, 1) := by decide +kernel
theorem dJ9_floorMod_7cf53_15 : decode cJ9_floorMod_7cf53 15 = .ok (.iload_n 1, 1) := by decide +kernel
theorem dJ9_floorMod_7cf53_16 : decode cJ9_floorMod_7cf53 16 = .ok (.iadd, 1) := by decide +kernel
theorem dJ9_floorMod_7cf53_17 : decode cJ9_floorMod_7cf53 17 = .ok (.ireturn, 1) := by decide +kernel
theorem dJ9_floorMod_7cf53_18 : decode cJ9_floorMod_7cf53 18 = .ok (.iload_n 2, 1) := by decide +kernel
theorem dJ9_floorMod_7cf53_19 : decode cJ9_floorMod_7cf53 19 = .ok (.ireturn, 1) := by decide +kernel
theorem dJ9_abs_0f7a4_0 : decode cJ9_abs_0f7a4 0 = .ok (.iload_n 0, 1) := by decide +kernel
theorem dJ9_abs_0f7a4_1 : decode cJ9_abs_0f7a4 1 = .ok (.ifCond .ge 8, 3) := by decide +kernel
theorem dJ9_abs_0f7a4_4 : decode cJ9_abs_0f7a4 4 = .ok (.iload_n 0, 1) := by decide +kernel
theorem dJ9_abs_0f7a4_5 : decode cJ9_abs_0f7a4 5 = .ok (.ineg, 1) := by decide +kernel
theorem dJ9_abs_0f7a4_6 : decode cJ9_abs_0f7a4 6 = .ok (.goto 4, 3) := by decide +kernel
theorem dJ9_abs_0f7a4_9 : decode cJ9_abs_0f7a4 9 = .ok (.iload_n 0, 1) := by decide +kernel
theorem dJ9_abs_0f7a4_10 : decode cJ9_abs_0f7a4 10 = .ok (.ireturn, 1) := by decide +kernel
theorem dJ9_max_7cf53_0 : decode cJ9_max_7cf53 0 = .ok (.iload_n 0, 1) := by decide +kernel
theorem dJ9_max_7cf53_1 : decode cJ9_max_7cf53 1 = .ok (.iload_n 1, 1) := by decide +kernel
theorem dJ9_max_7cf53_2 : decode cJ9_max_7cf53 2 = .ok (.if_icmp .lt 7, 3) := by decide +kernel
theorem dJ9_max_7cf53_5 : decode cJ9_max_7cf53 5 = .ok (.iload_n 0, 1) := by decide +kernel
theorem dJ9_max_7cf53_6 : decode cJ9_max_7cf53 6 = .ok (.goto 4, 3) := by decide +kernel
theorem dJ9_max_7cf53_9 : decode cJ9_max_7cf53 9 = .ok (.iload_n 1, 1) := by decide +kernel
theorem dJ9_max_7cf53_10 : decode cJ9_max_7cf53 10 = .ok (.ireturn, 1) := by decide +kernel
