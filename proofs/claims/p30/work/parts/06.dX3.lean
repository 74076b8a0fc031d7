theorem dX3_init_0 : decode cX3_init 0 = .ok (.aload_n 0, 1) := by decide +kernel
theorem dX3_init_1 : decode cX3_init 1 = .ok (.invokespecial 1, 3) := by decide +kernel
theorem dX3_init_4 : decode cX3_init 4 = .ok (.aload_n 0, 1) := by decide +kernel
theorem dX3_init_5 : decode cX3_init 5 = .ok (.iconst 5, 1) := by decide +kernel
theorem dX3_init_6 : decode cX3_init 6 = .ok (.anewarray 7, 3) := by decide +kernel
theorem dX3_init_9 : decode cX3_init 9 = .ok (.dup, 1) := by decide +kernel
theorem dX3_init_10 : decode cX3_init 10 = .ok (.iconst 0, 1) := by decide +kernel
theorem dX3_init_11 : decode cX3_init 11 = .ok (.iconst 2, 1) := by decide +kernel
theorem dX3_init_12 : decode cX3_init 12 = .ok (.newarray .int, 2) := by decide +kernel
theorem dX3_init_14 : decode cX3_init 14 = .ok (.dup, 1) := by decide +kernel
theorem dX3_init_15 : decode cX3_init 15 = .ok (.iconst 0, 1) := by decide +kernel
theorem dX3_init_16 : decode cX3_init 16 = .ok (.iconst 0, 1) := by decide +kernel
theorem dX3_init_17 : decode cX3_init 17 = .ok (.iastore, 1) := by decide +kernel
theorem dX3_init_18 : decode cX3_init 18 = .ok (.dup, 1) := by decide +kernel
theorem dX3_init_19 : decode cX3_init 19 = .ok (.iconst 1, 1) := by decide +kernel
theorem dX3_init_20 : decode cX3_init 20 = .ok (.bipush 20, 2) := by decide +kernel
theorem dX3_init_22 : decode cX3_init 22 = .ok (.iastore, 1) := by decide +kernel
theorem dX3_init_23 : decode cX3_init 23 = .ok (.aastore, 1) := by decide +kernel
theorem dX3_init_24 : decode cX3_init 24 = .ok (.dup, 1) := by decide +kernel
theorem dX3_init_25 : decode cX3_init 25 = .ok (.iconst 1, 1) := by decide +kernel
theorem dX3_init_26 : decode cX3_init 26 = .ok (.iconst 2, 1) := by decide +kernel
theorem dX3_init_27 : decode cX3_init 27 = .ok (.newarray .int, 2) := by decide +kernel
theorem dX3_init_29 : decode cX3_init 29 = .ok (.dup, 1) := by decide +kernel
theorem dX3_init_30 : decode cX3_init 30 = .ok (.iconst 0, 1) := by decide +kernel
theorem dX3_init_31 : decode cX3_init 31 = .ok (.iconst 0, 1) := by decide +kernel
theorem dX3_init_32 : decode cX3_init 32 = .ok (.iastore, 1) := by decide +kernel
theorem dX3_init_33 : decode cX3_init 33 = .ok (.dup, 1) := by decide +kernel
theorem dX3_init_34 : decode cX3_init 34 = .ok (.iconst 1, 1) := by decide +kernel
theorem dX3_init_35 : decode cX3_init 35 = .ok (.bipush 20, 2) := by decide +kernel
theorem dX3_init_37 : decode cX3_init 37 = .ok (.iastore, 1) := by decide +kernel
theorem dX3_init_38 : decode cX3_init 38 = .ok (.aastore, 1) := by decide +kernel
theorem dX3_init_39 : decode cX3_init 39 = .ok (.dup, 1) := by decide +kernel
theorem dX3_init_40 : decode cX3_init 40 = .ok (.iconst 2, 1) := by decide +kernel
theorem dX3_init_41 : decode cX3_init 41 = .ok (.iconst 2, 1) := by decide +kernel
theorem dX3_init_42 : decode cX3_init 42 = .ok (.newarray .int, 2) := by decide +kernel
theorem dX3_init_44 : decode cX3_init 44 = .ok (.dup, 1) := by decide +kernel
theorem dX3_init_45 : decode cX3_init 45 = .ok (.iconst 0, 1) := by decide +kernel
theorem dX3_init_46 : decode cX3_init 46 = .ok (.iconst 0, 1) := by decide +kernel
theorem dX3_init_47 : decode cX3_init 47 = .ok (.iastore, 1) := by decide +kernel
theorem dX3_init_48 : decode cX3_init 48 = .ok (.dup, 1) := by decide +kernel
theorem dX3_init_49 : decode cX3_init 49 = .ok (.iconst 1, 1) := by decide +kernel
theorem dX3_init_50 : decode cX3_init 50 = .ok (.bipush 20, 2) := by decide +kernel
theorem dX3_init_52 : decode cX3_init 52 = .ok (.iastore, 1) := by decide +kernel
theorem dX3_init_53 : decode cX3_init 53 = .ok (.aastore, 1) := by decide +kernel
theorem dX3_init_54 : decode cX3_init 54 = .ok (.dup, 1) := by decide +kernel
theorem dX3_init_55 : decode cX3_init 55 = .ok (.iconst 3, 1) := by decide +kernel
theorem dX3_init_56 : decode cX3_init 56 = .ok (.iconst 2, 1) := by decide +kernel
theorem dX3_init_57 : decode cX3_init 57 = .ok (.newarray .int, 2) := by decide +kernel
theorem dX3_init_59 : decode cX3_init 59 = .ok (.dup, 1) := by decide +kernel
theorem dX3_init_60 : decode cX3_init 60 = .ok (.iconst 0, 1) := by decide +kernel
theorem dX3_init_61 : decode cX3_init 61 = .ok (.iconst 0, 1) := by decide +kernel
theorem dX3_init_62 : decode cX3_init 62 = .ok (.iastore, 1) := by decide +kernel
theorem dX3_init_63 : decode cX3_init 63 = .ok (.dup, 1) := by decide +kernel
theorem dX3_init_64 : decode cX3_init 64 = .ok (.iconst 1, 1) := by decide +kernel
theorem dX3_init_65 : decode cX3_init 65 = .ok (.bipush 20, 2) := by decide +kernel
theorem dX3_init_67 : decode cX3_init 67 = .ok (.iastore, 1) := by decide +kernel
theorem dX3_init_68 : decode cX3_init 68 = .ok (.aastore, 1) := by decide +kernel
theorem dX3_init_69 : decode cX3_init 69 = .ok (.dup, 1) := by decide +kernel
theorem dX3_init_70 : decode cX3_init 70 = .ok (.iconst 4, 1) := by decide +kernel
theorem dX3_init_71 : decode cX3_init 71 = .ok (.iconst 2, 1) := by decide +kernel
theorem dX3_init_72 : decode cX3_init 72 = .ok (.newarray .int, 2) := by decide +kernel
theorem dX3_init_74 : decode cX3_init 74 = .ok (.dup, 1) := by decide +kernel
theorem dX3_init_75 : decode cX3_init 75 = .ok (.iconst 0, 1) := by decide +kernel
theorem dX3_init_76 : decode cX3_init 76 = .ok (.iconst 0, 1) := by decide +kernel
theorem dX3_init_77 : decode cX3_init 77 = .ok (.iastore, 1) := by decide +kernel
theorem dX3_init_78 : decode cX3_init 78 = .ok (.dup, 1) := by decide +kernel
theorem dX3_init_79 : decode cX3_init 79 = .ok (.iconst 1, 1) := by decide +kernel
theorem dX3_init_80 : decode cX3_init 80 = .ok (.bipush 20, 2) := by decide +kernel
theorem dX3_init_82 : decode cX3_init 82 = .ok (.iastore, 1) := by decide +kernel
theorem dX3_init_83 : decode cX3_init 83 = .ok (.aastore, 1) := by decide +kernel
theorem dX3_init_84 : decode cX3_init 84 = .ok (.putfield 9, 3) := by decide +kernel
theorem dX3_init_87 : decode cX3_init 87 = .ok (.aload_n 0, 1) := by decide +kernel
theorem dX3_init_88 : decode cX3_init 88 = .ok (.iconst 0, 1) := by decide +kernel
theorem dX3_init_89 : decode cX3_init 89 = .ok (.anewarray 7, 3) := by decide +kernel
theorem dX3_init_92 : decode cX3_init 92 = .ok (.putfield 15, 3) := by decide +kernel
theorem dX3_init_95 : decode cX3_init 95 = .ok (.return_, 1) := by decide +kernel
theorem dX3_add_0 : decode cX3_add 0 = .ok (.aload_n 0, 1) := by decide +kernel
theorem dX3_add_1 : decode cX3_add 1 = .ok (.getfield 15, 3) := by decide +kernel
theorem dX3_add_4 : decode cX3_add 4 = .ok (.arraylength, 1) := by decide +kernel
theorem dX3_add_5 : decode cX3_add 5 = .ok (.iconst 1, 1) := by decide +kernel
theorem dX3_add_6 : decode cX3_add 6 = .ok (.iadd, 1) := by decide +kernel
theorem dX3_add_7 : decode cX3_add 7 = .ok (.anewarray 7, 3) := by decide +kernel
theorem dX3_add_10 : decode cX3_add 10 = .ok (.astore_n 3, 1) := by decide +kernel
theorem dX3_add_11 : decode cX3_add 11 = .ok (.iconst 0, 1) := by decide +kernel
theorem dX3_add_12 : decode cX3_add 12 = .ok (.istore 4, 2) := by decide +kernel
theorem dX3_add_14 : decode cX3_add 14 = .ok (.iload 4, 2) := by decide +kernel
theorem dX3_add_16 : decode cX3_add 16 = .ok (.aload_n 0, 1) := by decide +kernel
theorem dX3_add_17 : decode cX3_add 17 = .ok (.getfield 15, 3) := by decide +kernel
theorem dX3_add_20 : decode cX3_add 20 = .ok (.arraylength, 1) := by decide +kernel
theorem dX3_add_21 : decode cX3_add 21 = .ok (.if_icmp .ge 20, 3) := by decide +kernel
theorem dX3_add_24 : decode cX3_add 24 = .ok (.aload_n 3, 1) := by decide +kernel
theorem dX3_add_25 : decode cX3_add 25 = .ok (.iload 4, 2) := by decide +kernel
theorem dX3_add_27 : decode cX3_add 27 = .ok (.aload_n 0, 1) := by decide +kernel
theorem dX3_add_28 : decode cX3_add 28 = .ok (.getfield 15, 3) := by decide +kernel
theorem dX3_add_31 : decode cX3_add 31 = .ok (.iload 4, 2) := by decide +kernel
theorem dX3_add_33 : decode cX3_add 33 = .ok (.aaload, 1) := by decide +kernel
theorem dX3_add_34 : decode cX3_add 34 = .ok (.aastore, 1) := by decide +kernel
theorem dX3_add_35 : decode cX3_add 35 = .ok (.iinc 4 1, 3) := by decide +kernel
theorem dX3_add_38 : decode cX3_add 38 = .ok (.goto (-24), 3) := by decide +kernel
theorem dX3_add_41 : decode cX3_add 41 = .ok (.aload_n 3, 1) := by decide +kernel
theorem dX3_add_42 : decode cX3_add 42 = .ok (.aload_n 0, 1) := by decide +kernel
theorem dX3_add_43 : decode cX3_add 43 = .ok (.getfield 15, 3) := by decide +kernel
theorem dX3_add_46 : decode cX3_add 46 = .ok (.arraylength, 1) := by decide +kernel
theorem dX3_add_47 : decode cX3_add 47 = .ok (.bipush 6, 2) := by decide +kernel
theorem dX3_add_49 : decode cX3_add 49 = .ok (.newarray .int, 2) := by decide +kernel
theorem dX3_add_51 : decode cX3_add 51 = .ok (.dup, 1) := by decide +kernel
theorem dX3_add_52 : decode cX3_add 52 = .ok (.iconst 0, 1) := by decide +kernel
theorem dX3_add_53 : decode cX3_add 53 = .ok (.iload_n 1, 1) := by decide +kernel
theorem dX3_add_54 : decode cX3_add 54 = .ok (.iastore, 1) := by decide +kernel
theorem dX3_add_55 : decode cX3_add 55 = .ok (.dup, 1) := by decide +kernel
theorem dX3_add_56 : decode cX3_add 56 = .ok (.iconst 1, 1) := by decide +kernel
theorem dX3_add_57 : decode cX3_add 57 = .ok (.iload_n 2, 1) := by decide +kernel
theorem dX3_add_58 : decode cX3_add 58 = .ok (.iastore, 1) := by decide +kernel
theorem dX3_add_59 : decode cX3_add 59 = .ok (.dup, 1) := by decide +kernel
theorem dX3_add_60 : decode cX3_add 60 = .ok (.iconst 2, 1) := by decide +kernel
theorem dX3_add_61 : decode cX3_add 61 = .ok (.iconst 0, 1) := by decide +kernel
theorem dX3_add_62 : decode cX3_add 62 = .ok (.iastore, 1) := by decide +kernel
theorem dX3_add_63 : decode cX3_add 63 = .ok (.dup, 1) := by decide +kernel
theorem dX3_add_64 : decode cX3_add 64 = .ok (.iconst 3, 1) := by decide +kernel
theorem dX3_add_65 : decode cX3_add 65 = .ok (.iconst 0, 1) := by decide +kernel
theorem dX3_add_66 : decode cX3_add 66 = .ok (.iastore, 1) := by decide +kernel
theorem dX3_add_67 : decode cX3_add 67 = .ok (.dup, 1) := by decide +kernel
theorem dX3_add_68 : decode cX3_add 68 = .ok (.iconst 4, 1) := by decide +kernel
theorem dX3_add_69 : decode cX3_add 69 = .ok (.iconst 0, 1) := by decide +kernel
theorem dX3_add_70 : decode cX3_add 70 = .ok (.iastore, 1) := by decide +kernel
theorem dX3_add_71 : decode cX3_add 71 = .ok (.dup, 1) := by decide +kernel
theorem dX3_add_72 : decode cX3_add 72 = .ok (.iconst 5, 1) := by decide +kernel
theorem dX3_add_73 : decode cX3_add 73 = .ok (.iconst 0, 1) := by decide +kernel
theorem dX3_add_74 : decode cX3_add 74 = .ok (.iastore, 1) := by decide +kernel
theorem dX3_add_75 : decode cX3_add 75 = .ok (.aastore, 1) := by decide +kernel
theorem dX3_add_76 : decode cX3_add 76 = .ok (.aload_n 0, 1) := by decide +kernel
theorem dX3_add_77 : decode cX3_add 77 = .ok (.aload_n 3, 1) := by decide +kernel
theorem dX3_add_78 : decode cX3_add 78 = .ok (.putfield 15, 3) := by decide +kernel
theorem dX3_add_81 : decode cX3_add 81 = .ok (.return_, 1) := by decide +kernel
theorem dX3_copy_0 : decode cX3_copy 0 = .ok (.new 10, 3) := by decide +kernel
theorem dX3_copy_3 : decode cX3_copy 3 = .ok (.dup, 1) := by decide +kernel
theorem dX3_copy_4 : decode cX3_copy 4 = .ok (.invokespecial 18, 3) := by decide +kernel
theorem dX3_copy_7 : decode cX3_copy 7 = .ok (.astore_n 1, 1) := by decide +kernel
theorem dX3_copy_8 : decode cX3_copy 8 = .ok (.aload_n 1, 1) := by decide +kernel
theorem dX3_copy_9 : decode cX3_copy 9 = .ok (.aload_n 0, 1) := by decide +kernel
theorem dX3_copy_10 : decode cX3_copy 10 = .ok (.getfield 19, 3) := by decide +kernel
theorem dX3_copy_13 : decode cX3_copy 13 = .ok (.putfield 19, 3) := by decide +kernel
theorem dX3_copy_16 : decode cX3_copy 16 = .ok (.aload_n 1, 1) := by decide +kernel
theorem dX3_copy_17 : decode cX3_copy 17 = .ok (.aload_n 0, 1) := by decide +kernel
theorem dX3_copy_18 : decode cX3_copy 18 = .ok (.getfield 9, 3) := by decide +kernel
theorem dX3_copy_21 : decode cX3_copy 21 = .ok (.putfield 9, 3) := by decide +kernel
theorem dX3_copy_24 : decode cX3_copy 24 = .ok (.aload_n 1, 1) := by decide +kernel
theorem dX3_copy_25 : decode cX3_copy 25 = .ok (.aload_n 0, 1) := by decide +kernel
theorem dX3_copy_26 : decode cX3_copy 26 = .ok (.getfield 15, 3) := by decide +kernel
theorem dX3_copy_29 : decode cX3_copy 29 = .ok (.arraylength, 1) := by decide +kernel
theorem dX3_copy_30 : decode cX3_copy 30 = .ok (.anewarray 7, 3) := by decide +kernel
theorem dX3_copy_33 : decode cX3_copy 33 = .ok (.putfield 15, 3) := by decide +kernel
theorem dX3_copy_36 : decode cX3_copy 36 = .ok (.iconst 0, 1) := by decide +kernel
theorem dX3_copy_37 : decode cX3_copy 37 = .ok (.istore_n 2, 1) := by decide +kernel
theorem dX3_copy_38 : decode cX3_copy 38 = .ok (.iload_n 2, 1) := by decide +kernel
theorem dX3_copy_39 : decode cX3_copy 39 = .ok (.aload_n 0, 1) := by decide +kernel
theorem dX3_copy_40 : decode cX3_copy 40 = .ok (.getfield 15, 3) := by decide +kernel
theorem dX3_copy_43 : decode cX3_copy 43 = .ok (.arraylength, 1) := by decide +kernel
theorem dX3_copy_44 : decode cX3_copy 44 = .ok (.if_icmp .ge 27, 3) := by decide +kernel
theorem dX3_copy_47 : decode cX3_copy 47 = .ok (.aload_n 1, 1) := by decide +kernel
theorem dX3_copy_48 : decode cX3_copy 48 = .ok (.getfield 15, 3) := by decide +kernel
theorem dX3_copy_51 : decode cX3_copy 51 = .ok (.iload_n 2, 1) := by decide +kernel
theorem dX3_copy_52 : decode cX3_copy 52 = .ok (.aload_n 0, 1) := by decide +kernel
theorem dX3_copy_53 : decode cX3_copy 53 = .ok (.getfield 15, 3) := by decide +kernel
theorem dX3_copy_56 : decode cX3_copy 56 = .ok (.iload_n 2, 1) := by decide +kernel
theorem dX3_copy_57 : decode cX3_copy 57 = .ok (.aaload, 1) := by decide +kernel
theorem dX3_copy_58 : decode cX3_copy 58 = .ok (.invokevirtual 23, 3) := by decide +kernel
theorem dX3_copy_61 : decode cX3_copy 61 = .ok (.checkcast 7, 3) := by decide +kernel
theorem dX3_copy_64 : decode cX3_copy 64 = .ok (.aastore, 1) := by decide +kernel
theorem dX3_copy_65 : decode cX3_copy 65 = .ok (.iinc 2 1, 3) := by decide +kernel
theorem dX3_copy_68 : decode cX3_copy 68 = .ok (.goto (-30), 3) := by decide +kernel
theorem dX3_copy_71 : decode cX3_copy 71 = .ok (.aload_n 1, 1) := by decide +kernel
theorem dX3_copy_72 : decode cX3_copy 72 = .ok (.areturn, 1) := by decide +kernel
theorem dX3_angle_0 : decode cX3_angle 0 = .ok (.aload_n 0, 1) := by decide +kernel
theorem dX3_angle_1 : decode cX3_angle 1 = .ok (.getfield 9, 3) := by decide +kernel
theorem dX3_angle_4 : decode cX3_angle 4 = .ok (.iload_n 1, 1) := by decide +kernel
theorem dX3_angle_5 : decode cX3_angle 5 = .ok (.aaload, 1) := by decide +kernel
theorem dX3_angle_6 : decode cX3_angle 6 = .ok (.iconst 1, 1) := by decide +kernel
theorem dX3_angle_7 : decode cX3_angle 7 = .ok (.iaload, 1) := by decide +kernel
theorem dX3_angle_8 : decode cX3_angle 8 = .ok (.iload_n 2, 1) := by decide +kernel
theorem dX3_angle_9 : decode cX3_angle 9 = .ok (.iconst 2, 1) := by decide +kernel
theorem dX3_angle_10 : decode cX3_angle 10 = .ok (.if_icmp .ge 9, 3) := by decide +kernel
theorem dX3_angle_13 : decode cX3_angle 13 = .ok (.iconst 2, 1) := by decide +kernel
theorem dX3_angle_14 : decode cX3_angle 14 = .ok (.iload_n 2, 1) := by decide +kernel
theorem dX3_angle_15 : decode cX3_angle 15 = .ok (.isub, 1) := by decide +kernel
theorem dX3_angle_16 : decode cX3_angle 16 = .ok (.goto 6, 3) := by decide +kernel
theorem dX3_angle_19 : decode cX3_angle 19 = .ok (.iload_n 2, 1) := by decide +kernel
theorem dX3_angle_20 : decode cX3_angle 20 = .ok (.iconst 2, 1) := by decide +kernel
theorem dX3_angle_21 : decode cX3_angle 21 = .ok (.isub, 1) := by decide +kernel
theorem dX3_angle_22 : decode cX3_angle 22 = .ok (.imul, 1) := by decide +kernel
theorem dX3_angle_23 : decode cX3_angle 23 = .ok (.iconst 2, 1) := by decide +kernel
theorem dX3_angle_24 : decode cX3_angle 24 = .ok (.idiv, 1) := by decide +kernel
theorem dX3_angle_25 : decode cX3_angle 25 = .ok (.istore_n 3, 1) := by decide +kernel
theorem dX3_angle_26 : decode cX3_angle 26 = .ok (.iload_n 2, 1) := by decide +kernel
theorem dX3_angle_27 : decode cX3_angle 27 = .ok (.iconst 2, 1) := by decide +kernel
theorem dX3_angle_28 : decode cX3_angle 28 = .ok (.if_icmp .ge 16, 3) := by decide +kernel
theorem dX3_angle_31 : decode cX3_angle 31 = .ok (.aload_n 0, 1) := by decide +kernel
theorem dX3_angle_32 : decode cX3_angle 32 = .ok (.getfield 9, 3) := by decide +kernel
theorem dX3_angle_35 : decode cX3_angle 35 = .ok (.iload_n 1, 1) := by decide +kernel
theorem dX3_angle_36 : decode cX3_angle 36 = .ok (.aaload, 1) := by decide +kernel
theorem dX3_angle_37 : decode cX3_angle 37 = .ok (.iconst 0, 1) := by decide +kernel
theorem dX3_angle_38 : decode cX3_angle 38 = .ok (.iaload, 1) := by decide +kernel
theorem dX3_angle_39 : decode cX3_angle 39 = .ok (.iload_n 3, 1) := by decide +kernel
theorem dX3_angle_40 : decode cX3_angle 40 = .ok (.isub, 1) := by decide +kernel
theorem dX3_angle_41 : decode cX3_angle 41 = .ok (.goto 13, 3) := by decide +kernel
theorem dX3_angle_44 : decode cX3_angle 44 = .ok (.aload_n 0, 1) := by decide +kernel
theorem dX3_angle_45 : decode cX3_angle 45 = .ok (.getfield 9, 3) := by decide +kernel
theorem dX3_angle_48 : decode cX3_angle 48 = .ok (.iload_n 1, 1) := by decide +kernel
theorem dX3_angle_49 : decode cX3_angle 49 = .ok (.aaload, 1) := by decide +kernel
theorem dX3_angle_50 : decode cX3_angle 50 = .ok (.iconst 0, 1) := by decide +kernel
theorem dX3_angle_51 : decode cX3_angle 51 = .ok (.iaload, 1) := by decide +kernel
theorem dX3_angle_52 : decode cX3_angle 52 = .ok (.iload_n 3, 1) := by decide +kernel
theorem dX3_angle_53 : decode cX3_angle 53 = .ok (.iadd, 1) := by decide +kernel
theorem dX3_angle_54 : decode cX3_angle 54 = .ok (.ireturn, 1) := by decide +kernel
theorem dX3_angleFor_0 : decode cX3_angleFor 0 = .ok (.aload_n 0, 1) := by decide +kernel
theorem dX3_angleFor_1 : decode cX3_angleFor 1 = .ok (.iload_n 1, 1) := by decide +kernel
theorem dX3_angleFor_2 : decode cX3_angleFor 2 = .ok (.aload_n 0, 1) := by decide +kernel
theorem dX3_angleFor_3 : decode cX3_angleFor 3 = .ok (.getfield 19, 3) := by decide +kernel
theorem dX3_angleFor_6 : decode cX3_angleFor 6 = .ok (.iconst 5, 1) := by decide +kernel
theorem dX3_angleFor_7 : decode cX3_angleFor 7 = .ok (.idiv, 1) := by decide +kernel
theorem dX3_angleFor_8 : decode cX3_angleFor 8 = .ok (.iadd, 1) := by decide +kernel
theorem dX3_angleFor_9 : decode cX3_angleFor 9 = .ok (.iconst 5, 1) := by decide +kernel
theorem dX3_angleFor_10 : decode cX3_angleFor 10 = .ok (.irem, 1) := by decide +kernel
theorem dX3_angleFor_11 : decode cX3_angleFor 11 = .ok (.aload_n 0, 1) := by decide +kernel
theorem dX3_angleFor_12 : decode cX3_angleFor 12 = .ok (.getfield 19, 3) := by decide +kernel
theorem dX3_angleFor_15 : decode cX3_angleFor 15 = .ok (.iconst 5, 1) := by decide +kernel
theorem dX3_angleFor_16 : decode cX3_angleFor 16 = .ok (.irem, 1) := by decide +kernel
theorem dX3_angleFor_17 : decode cX3_angleFor 17 = .ok (.invokevirtual 27, 3) := by decide +kernel
theorem dX3_angleFor_20 : decode cX3_angleFor 20 = .ok (.ireturn, 1) := by decide +kernel
theorem dX3_amount_0 : decode cX3_amount 0 = .ok (.iload_n 0, 1) := by decide +kernel
theorem dX3_amount_1 : decode cX3_amount 1 = .ok (.ifCond .ge 8, 3) := by decide +kernel
theorem dX3_amount_4 : decode cX3_amount 4 = .ok (.iload_n 0, 1) := by decide +kernel
theorem dX3_amount_5 : decode cX3_amount 5 = .ok (.ineg, 1) := by decide +kernel
theorem dX3_amount_6 : decode cX3_amount 6 = .ok (.goto 4, 3) := by decide +kernel
theorem dX3_amount_9 : decode cX3_amount 9 = .ok (.iload_n 0, 1) := by decide +kernel
theorem dX3_amount_10 : decode cX3_amount 10 = .ok (.ireturn, 1) := by decide +kernel
theorem dX3_hit_0 : decode cX3_hit 0 = .ok (.aload_n 0, 1) := by decide +kernel
theorem dX3_hit_1 : decode cX3_hit 1 = .ok (.getfield 15, 3) := by decide +kernel
theorem dX3_hit_4 : decode cX3_hit 4 = .ok (.iload_n 1, 1) := by decide +kernel
theorem dX3_hit_5 : decode cX3_hit 5 = .ok (.aaload, 1) := by decide +kernel
theorem dX3_hit_6 : decode cX3_hit 6 = .ok (.astore_n 2, 1) := by decide +kernel
theorem dX3_hit_7 : decode cX3_hit 7 = .ok (.aload_n 0, 1) := by decide +kernel
theorem dX3_hit_8 : decode cX3_hit 8 = .ok (.iload_n 1, 1) := by decide +kernel
theorem dX3_hit_9 : decode cX3_hit 9 = .ok (.invokevirtual 31, 3) := by decide +kernel
theorem dX3_hit_12 : decode cX3_hit 12 = .ok (.invokestatic 35, 3) := by decide +kernel
theorem dX3_hit_15 : decode cX3_hit 15 = .ok (.istore_n 3, 1) := by decide +kernel
theorem dX3_hit_16 : decode cX3_hit 16 = .ok (.iload_n 3, 1) := by decide +kernel
theorem dX3_hit_17 : decode cX3_hit 17 = .ok (.aload_n 2, 1) := by decide +kernel
theorem dX3_hit_18 : decode cX3_hit 18 = .ok (.iconst 2, 1) := by decide +kernel
theorem dX3_hit_19 : decode cX3_hit 19 = .ok (.iaload, 1) := by decide +kernel
theorem dX3_hit_20 : decode cX3_hit 20 = .ok (.aload_n 2, 1) := by decide +kernel
theorem dX3_hit_21 : decode cX3_hit 21 = .ok (.iconst 1, 1) := by decide +kernel
theorem dX3_hit_22 : decode cX3_hit 22 = .ok (.iaload, 1) := by decide +kernel
theorem dX3_hit_23 : decode cX3_hit 23 = .ok (.idiv, 1) := by decide +kernel
theorem dX3_hit_24 : decode cX3_hit 24 = .ok (.iadd, 1) := by decide +kernel
theorem dX3_hit_25 : decode cX3_hit 25 = .ok (.aload_n 2, 1) := by decide +kernel
theorem dX3_hit_26 : decode cX3_hit 26 = .ok (.iconst 0, 1) := by decide +kernel
theorem dX3_hit_27 : decode cX3_hit 27 = .ok (.iaload, 1) := by decide +kernel
theorem dX3_hit_28 : decode cX3_hit 28 = .ok (.if_icmp .gt 7, 3) := by decide +kernel
theorem dX3_hit_31 : decode cX3_hit 31 = .ok (.iconst 2, 1) := by decide +kernel
theorem dX3_hit_32 : decode cX3_hit 32 = .ok (.goto 15, 3) := by decide +kernel
theorem dX3_hit_35 : decode cX3_hit 35 = .ok (.iload_n 3, 1) := by decide +kernel
theorem dX3_hit_36 : decode cX3_hit 36 = .ok (.aload_n 2, 1) := by decide +kernel
theorem dX3_hit_37 : decode cX3_hit 37 = .ok (.iconst 0, 1) := by decide +kernel
theorem dX3_hit_38 : decode cX3_hit 38 = .ok (.iaload, 1) := by decide +kernel
theorem dX3_hit_39 : decode cX3_hit 39 = .ok (.if_icmp .gt 7, 3) := by decide +kernel
theorem dX3_hit_42 : decode cX3_hit 42 = .ok (.iconst 1, 1) := by decide +kernel
theorem dX3_hit_43 : decode cX3_hit 43 = .ok (.goto 4, 3) := by decide +kernel
theorem dX3_hit_46 : decode cX3_hit 46 = .ok (.iconst 0, 1) := by decide +kernel
theorem dX3_hit_47 : decode cX3_hit 47 = .ok (.ireturn, 1) := by decide +kernel
theorem dX3_pass_0 : decode cX3_pass 0 = .ok (.iconst 0, 1) := by decide +kernel
theorem dX3_pass_1 : decode cX3_pass 1 = .ok (.istore_n 1, 1) := by decide +kernel
theorem dX3_pass_2 : decode cX3_pass 2 = .ok (.iconst 0, 1) := by decide +kernel
theorem dX3_pass_3 : decode cX3_pass 3 = .ok (.istore_n 2, 1) := by decide +kernel
theorem dX3_pass_4 : decode cX3_pass 4 = .ok (.iload_n 2, 1) := by decide +kernel
theorem dX3_pass_5 : decode cX3_pass 5 = .ok (.aload_n 0, 1) := by decide +kernel
theorem dX3_pass_6 : decode cX3_pass 6 = .ok (.getfield 15, 3) := by decide +kernel
theorem dX3_pass_9 : decode cX3_pass 9 = .ok (.arraylength, 1) := by decide +kernel
theorem dX3_pass_10 : decode cX3_pass 10 = .ok (.if_icmp .ge 86, 3) := by decide +kernel
theorem dX3_pass_13 : decode cX3_pass 13 = .ok (.aload_n 0, 1) := by decide +kernel
theorem dX3_pass_14 : decode cX3_pass 14 = .ok (.getfield 15, 3) := by decide +kernel
theorem dX3_pass_17 : decode cX3_pass 17 = .ok (.iload_n 2, 1) := by decide +kernel
theorem dX3_pass_18 : decode cX3_pass 18 = .ok (.aaload, 1) := by decide +kernel
theorem dX3_pass_19 : decode cX3_pass 19 = .ok (.astore_n 3, 1) := by decide +kernel
theorem dX3_pass_20 : decode cX3_pass 20 = .ok (.aload_n 0, 1) := by decide +kernel
theorem dX3_pass_21 : decode cX3_pass 21 = .ok (.iload_n 2, 1) := by decide +kernel
theorem dX3_pass_22 : decode cX3_pass 22 = .ok (.invokevirtual 38, 3) := by decide +kernel
theorem dX3_pass_25 : decode cX3_pass 25 = .ok (.istore 4, 2) := by decide +kernel
theorem dX3_pass_27 : decode cX3_pass 27 = .ok (.aload_n 3, 1) := by decide +kernel
theorem dX3_pass_28 : decode cX3_pass 28 = .ok (.iconst 3, 1) := by decide +kernel
theorem dX3_pass_29 : decode cX3_pass 29 = .ok (.dup2, 1) := by decide +kernel
theorem dX3_pass_30 : decode cX3_pass 30 = .ok (.iaload, 1) := by decide +kernel
theorem dX3_pass_31 : decode cX3_pass 31 = .ok (.iload 4, 2) := by decide +kernel
theorem dX3_pass_33 : decode cX3_pass 33 = .ok (.iadd, 1) := by decide +kernel
theorem dX3_pass_34 : decode cX3_pass 34 = .ok (.iastore, 1) := by decide +kernel
theorem dX3_pass_35 : decode cX3_pass 35 = .ok (.iload 4, 2) := by decide +kernel
theorem dX3_pass_37 : decode cX3_pass 37 = .ok (.iconst 2, 1) := by decide +kernel
theorem dX3_pass_38 : decode cX3_pass 38 = .ok (.if_icmp .ne 10, 3) := by decide +kernel
theorem dX3_pass_41 : decode cX3_pass 41 = .ok (.aload_n 3, 1) := by decide +kernel
theorem dX3_pass_42 : decode cX3_pass 42 = .ok (.iconst 4, 1) := by decide +kernel
theorem dX3_pass_43 : decode cX3_pass 43 = .ok (.dup2, 1) := by decide +kernel
theorem dX3_pass_44 : decode cX3_pass 44 = .ok (.iaload, 1) := by decide +kernel
theorem dX3_pass_45 : decode cX3_pass 45 = .ok (.iconst 1, 1) := by decide +kernel
theorem dX3_pass_46 : decode cX3_pass 46 = .ok (.iadd, 1) := by decide +kernel
theorem dX3_pass_47 : decode cX3_pass 47 = .ok (.iastore, 1) := by decide +kernel
theorem dX3_pass_48 : decode cX3_pass 48 = .ok (.iload 4, 2) := by decide +kernel
theorem dX3_pass_50 : decode cX3_pass 50 = .ok (.ifCond .ne 10, 3) := by decide +kernel
theorem dX3_pass_53 : decode cX3_pass 53 = .ok (.aload_n 3, 1) := by decide +kernel
theorem dX3_pass_54 : decode cX3_pass 54 = .ok (.iconst 5, 1) := by decide +kernel
theorem dX3_pass_55 : decode cX3_pass 55 = .ok (.dup2, 1) := by decide +kernel
theorem dX3_pass_56 : decode cX3_pass 56 = .ok (.iaload, 1) := by decide +kernel
theorem dX3_pass_57 : decode cX3_pass 57 = .ok (.iconst 1, 1) := by decide +kernel
theorem dX3_pass_58 : decode cX3_pass 58 = .ok (.iadd, 1) := by decide +kernel
theorem dX3_pass_59 : decode cX3_pass 59 = .ok (.iastore, 1) := by decide +kernel
theorem dX3_pass_60 : decode cX3_pass 60 = .ok (.aload_n 3, 1) := by decide +kernel
theorem dX3_pass_61 : decode cX3_pass 61 = .ok (.iconst 2, 1) := by decide +kernel
theorem dX3_pass_62 : decode cX3_pass 62 = .ok (.dup2, 1) := by decide +kernel
theorem dX3_pass_63 : decode cX3_pass 63 = .ok (.iaload, 1) := by decide +kernel
theorem dX3_pass_64 : decode cX3_pass 64 = .ok (.iload 4, 2) := by decide +kernel
theorem dX3_pass_66 : decode cX3_pass 66 = .ok (.iconst 2, 1) := by decide +kernel
theorem dX3_pass_67 : decode cX3_pass 67 = .ok (.if_icmp .ne 7, 3) := by decide +kernel
theorem dX3_pass_70 : decode cX3_pass 70 = .ok (.iconst 1, 1) := by decide +kernel
theorem dX3_pass_71 : decode cX3_pass 71 = .ok (.goto 4, 3) := by decide +kernel
theorem dX3_pass_74 : decode cX3_pass 74 = .ok (.iconst 2, 1) := by decide +kernel
theorem dX3_pass_75 : decode cX3_pass 75 = .ok (.iadd, 1) := by decide +kernel
theorem dX3_pass_76 : decode cX3_pass 76 = .ok (.iastore, 1) := by decide +kernel
theorem dX3_pass_77 : decode cX3_pass 77 = .ok (.iload_n 1, 1) := by decide +kernel
theorem dX3_pass_78 : decode cX3_pass 78 = .ok (.iload 4, 2) := by decide +kernel
theorem dX3_pass_80 : decode cX3_pass 80 = .ok (.ifCond .ne 7, 3) := by decide +kernel
theorem dX3_pass_83 : decode cX3_pass 83 = .ok (.iconst 1, 1) := by decide +kernel
theorem dX3_pass_84 : decode cX3_pass 84 = .ok (.goto 4, 3) := by decide +kernel
theorem dX3_pass_87 : decode cX3_pass 87 = .ok (.iconst 0, 1) := by decide +kernel
theorem dX3_pass_88 : decode cX3_pass 88 = .ok (.iadd, 1) := by decide +kernel
theorem dX3_pass_89 : decode cX3_pass 89 = .ok (.istore_n 1, 1) := by decide +kernel
theorem dX3_pass_90 : decode cX3_pass 90 = .ok (.iinc 2 1, 3) := by decide +kernel
theorem dX3_pass_93 : decode cX3_pass 93 = .ok (.goto (-89), 3) := by decide +kernel
theorem dX3_pass_96 : decode cX3_pass 96 = .ok (.aload_n 0, 1) := by decide +kernel
theorem dX3_pass_97 : decode cX3_pass 97 = .ok (.getfield 15, 3) := by decide +kernel
theorem dX3_pass_100 : decode cX3_pass 100 = .ok (.astore_n 2, 1) := by decide +kernel
theorem dX3_pass_101 : decode cX3_pass 101 = .ok (.aload_n 2, 1) := by decide +kernel
theorem dX3_pass_102 : decode cX3_pass 102 = .ok (.arraylength, 1) := by decide +kernel
theorem dX3_pass_103 : decode cX3_pass 103 = .ok (.istore_n 3, 1) := by decide +kernel
theorem dX3_pass_104 : decode cX3_pass 104 = .ok (.iconst 0, 1) := by decide +kernel
theorem dX3_pass_105 : decode cX3_pass 105 = .ok (.istore 4, 2) := by decide +kernel
theorem dX3_pass_107 : decode cX3_pass 107 = .ok (.iload 4, 2) := by decide +kernel
theorem dX3_pass_109 : decode cX3_pass 109 = .ok (.iload_n 3, 1) := by decide +kernel
theorem dX3_pass_110 : decode cX3_pass 110 = .ok (.if_icmp .ge 47, 3) := by decide +kernel
theorem dX3_pass_113 : decode cX3_pass 113 = .ok (.aload_n 2, 1) := by decide +kernel
theorem dX3_pass_114 : decode cX3_pass 114 = .ok (.iload 4, 2) := by decide +kernel
theorem dX3_pass_116 : decode cX3_pass 116 = .ok (.aaload, 1) := by decide +kernel
theorem dX3_pass_117 : decode cX3_pass 117 = .ok (.astore 5, 2) := by decide +kernel
theorem dX3_pass_119 : decode cX3_pass 119 = .ok (.aload_n 0, 1) := by decide +kernel
theorem dX3_pass_120 : decode cX3_pass 120 = .ok (.getfield 19, 3) := by decide +kernel
theorem dX3_pass_123 : decode cX3_pass 123 = .ok (.iconst 5, 1) := by decide +kernel
theorem dX3_pass_124 : decode cX3_pass 124 = .ok (.irem, 1) := by decide +kernel
theorem dX3_pass_125 : decode cX3_pass 125 = .ok (.iconst 4, 1) := by decide +kernel
theorem dX3_pass_126 : decode cX3_pass 126 = .ok (.if_icmp .ne 25, 3) := by decide +kernel
theorem dX3_pass_129 : decode cX3_pass 129 = .ok (.aload 5, 2) := by decide +kernel
theorem dX3_pass_131 : decode cX3_pass 131 = .ok (.iconst 2, 1) := by decide +kernel
theorem dX3_pass_132 : decode cX3_pass 132 = .ok (.aload 5, 2) := by decide +kernel
theorem dX3_pass_134 : decode cX3_pass 134 = .ok (.iconst 2, 1) := by decide +kernel
theorem dX3_pass_135 : decode cX3_pass 135 = .ok (.iaload, 1) := by decide +kernel
theorem dX3_pass_136 : decode cX3_pass 136 = .ok (.iconst 3, 1) := by decide +kernel
theorem dX3_pass_137 : decode cX3_pass 137 = .ok (.if_icmp .ge 7, 3) := by decide +kernel
theorem dX3_pass_140 : decode cX3_pass 140 = .ok (.iconst 0, 1) := by decide +kernel
theorem dX3_pass_141 : decode cX3_pass 141 = .ok (.goto 9, 3) := by decide +kernel
theorem dX3_pass_144 : decode cX3_pass 144 = .ok (.aload 5, 2) := by decide +kernel
theorem dX3_pass_146 : decode cX3_pass 146 = .ok (.iconst 2, 1) := by decide +kernel
theorem dX3_pass_147 : decode cX3_pass 147 = .ok (.iaload, 1) := by decide +kernel
theorem dX3_pass_148 : decode cX3_pass 148 = .ok (.iconst 3, 1) := by decide +kernel
theorem dX3_pass_149 : decode cX3_pass 149 = .ok (.isub, 1) := by decide +kernel
theorem dX3_pass_150 : decode cX3_pass 150 = .ok (.iastore, 1) := by decide +kernel
theorem dX3_pass_151 : decode cX3_pass 151 = .ok (.iinc 4 1, 3) := by decide +kernel
theorem dX3_pass_154 : decode cX3_pass 154 = .ok (.goto (-47), 3) := by decide +kernel
theorem dX3_pass_157 : decode cX3_pass 157 = .ok (.aload_n 0, 1) := by decide +kernel
theorem dX3_pass_158 : decode cX3_pass 158 = .ok (.dup, 1) := by decide +kernel
theorem dX3_pass_159 : decode cX3_pass 159 = .ok (.getfield 19, 3) := by decide +kernel
theorem dX3_pass_162 : decode cX3_pass 162 = .ok (.iconst 1, 1) := by decide +kernel
theorem dX3_pass_163 : decode cX3_pass 163 = .ok (.iadd, 1) := by decide +kernel
theorem dX3_pass_164 : decode cX3_pass 164 = .ok (.putfield 19, 3) := by decide +kernel
theorem dX3_pass_167 : decode cX3_pass 167 = .ok (.iload_n 1, 1) := by decide +kernel
theorem dX3_pass_168 : decode cX3_pass 168 = .ok (.ireturn, 1) := by decide +kernel
theorem dX3_pass__0 : decode cX3_pass_ 0 = .ok (.iconst 0, 1) := by decide +kernel
theorem dX3_pass__1 : decode cX3_pass_ 1 = .ok (.istore_n 2, 1) := by decide +kernel
theorem dX3_pass__2 : decode cX3_pass_ 2 = .ok (.iconst 0, 1) := by decide +kernel
theorem dX3_pass__3 : decode cX3_pass_ 3 = .ok (.istore_n 3, 1) := by decide +kernel
theorem dX3_pass__4 : decode cX3_pass_ 4 = .ok (.iload_n 3, 1) := by decide +kernel
theorem dX3_pass__5 : decode cX3_pass_ 5 = .ok (.iload_n 1, 1) := by decide +kernel
theorem dX3_pass__6 : decode cX3_pass_ 6 = .ok (.if_icmp .ge 16, 3) := by decide +kernel
theorem dX3_pass__9 : decode cX3_pass_ 9 = .ok (.iload_n 2, 1) := by decide +kernel
theorem dX3_pass__10 : decode cX3_pass_ 10 = .ok (.aload_n 0, 1) := by decide +kernel
theorem dX3_pass__11 : decode cX3_pass_ 11 = .ok (.invokevirtual 41, 3) := by decide +kernel
theorem dX3_pass__14 : decode cX3_pass_ 14 = .ok (.iadd, 1) := by decide +kernel
theorem dX3_pass__15 : decode cX3_pass_ 15 = .ok (.istore_n 2, 1) := by decide +kernel
theorem dX3_pass__16 : decode cX3_pass_ 16 = .ok (.iinc 3 1, 3) := by decide +kernel
theorem dX3_pass__19 : decode cX3_pass_ 19 = .ok (.goto (-15), 3) := by decide +kernel
theorem dX3_pass__22 : decode cX3_pass_ 22 = .ok (.iload_n 2, 1) := by decide +kernel
theorem dX3_pass__23 : decode cX3_pass_ 23 = .ok (.ireturn, 1) := by decide +kernel
theorem dX3_leader_0 : decode cX3_leader 0 = .ok (.iconst (-1), 1) := by decide +kernel
theorem dX3_leader_1 : decode cX3_leader 1 = .ok (.istore_n 1, 1) := by decide +kernel
theorem dX3_leader_2 : decode cX3_leader 2 = .ok (.aload_n 0, 1) := by decide +kernel
theorem dX3_leader_3 : decode cX3_leader 3 = .ok (.getfield 15, 3) := by decide +kernel
theorem dX3_leader_6 : decode cX3_leader 6 = .ok (.arraylength, 1) := by decide +kernel
theorem dX3_leader_7 : decode cX3_leader 7 = .ok (.iconst 1, 1) := by decide +kernel
theorem dX3_leader_8 : decode cX3_leader 8 = .ok (.isub, 1) := by decide +kernel
theorem dX3_leader_9 : decode cX3_leader 9 = .ok (.istore_n 2, 1) := by decide +kernel
theorem dX3_leader_10 : decode cX3_leader 10 = .ok (.iload_n 2, 1) := by decide +kernel
theorem dX3_leader_11 : decode cX3_leader 11 = .ok (.ifCond .lt 34, 3) := by decide +kernel
theorem dX3_leader_14 : decode cX3_leader 14 = .ok (.iload_n 1, 1) := by decide +kernel
theorem dX3_leader_15 : decode cX3_leader 15 = .ok (.ifCond .lt 22, 3) := by decide +kernel
theorem dX3_leader_18 : decode cX3_leader 18 = .ok (.aload_n 0, 1) := by decide +kernel
theorem dX3_leader_19 : decode cX3_leader 19 = .ok (.getfield 15, 3) := by decide +kernel
theorem dX3_leader_22 : decode cX3_leader 22 = .ok (.iload_n 2, 1) := by decide +kernel
theorem dX3_leader_23 : decode cX3_leader 23 = .ok (.aaload, 1) := by decide +kernel
theorem dX3_leader_24 : decode cX3_leader 24 = .ok (.iconst 3, 1) := by decide +kernel
theorem dX3_leader_25 : decode cX3_leader 25 = .ok (.iaload, 1) := by decide +kernel
theorem dX3_leader_26 : decode cX3_leader 26 = .ok (.aload_n 0, 1) := by decide +kernel
theorem dX3_leader_27 : decode cX3_leader 27 = .ok (.getfield 15, 3) := by decide +kernel
theorem dX3_leader_30 : decode cX3_leader 30 = .ok (.iload_n 1, 1) := by decide +kernel
theorem dX3_leader_31 : decode cX3_leader 31 = .ok (.aaload, 1) := by decide +kernel
theorem dX3_leader_32 : decode cX3_leader 32 = .ok (.iconst 3, 1) := by decide +kernel
theorem dX3_leader_33 : decode cX3_leader 33 = .ok (.iaload, 1) := by decide +kernel
theorem dX3_leader_34 : decode cX3_leader 34 = .ok (.if_icmp .lt 5, 3) := by decide +kernel
theorem dX3_leader_37 : decode cX3_leader 37 = .ok (.iload_n 2, 1) := by decide +kernel
theorem dX3_leader_38 : decode cX3_leader 38 = .ok (.istore_n 1, 1) := by decide +kernel
theorem dX3_leader_39 : decode cX3_leader 39 = .ok (.iinc 2 (-1), 3) := by decide +kernel
theorem dX3_leader_42 : decode cX3_leader 42 = .ok (.goto (-32), 3) := by decide +kernel
theorem dX3_leader_45 : decode cX3_leader 45 = .ok (.iload_n 1, 1) := by decide +kernel
theorem dX3_leader_46 : decode cX3_leader 46 = .ok (.ireturn, 1) := by decide +kernel
theorem dX3_win_0 : decode cX3_win 0 = .ok (.aload_n 0, 1) := by decide +kernel
theorem dX3_win_1 : decode cX3_win 1 = .ok (.getfield 15, 3) := by decide +kernel
theorem dX3_win_4 : decode cX3_win 4 = .ok (.arraylength, 1) := by decide +kernel
theorem dX3_win_5 : decode cX3_win 5 = .ok (.newarray .boolean, 2) := by decide +kernel
theorem dX3_win_7 : decode cX3_win 7 = .ok (.astore_n 1, 1) := by decide +kernel
theorem dX3_win_8 : decode cX3_win 8 = .ok (.iconst 0, 1) := by decide +kernel
theorem dX3_win_9 : decode cX3_win 9 = .ok (.istore_n 2, 1) := by decide +kernel
theorem dX3_win_10 : decode cX3_win 10 = .ok (.iconst 0, 1) := by decide +kernel
theorem dX3_win_11 : decode cX3_win 11 = .ok (.istore_n 3, 1) := by decide +kernel
theorem dX3_win_12 : decode cX3_win 12 = .ok (.iload_n 3, 1) := by decide +kernel
theorem dX3_win_13 : decode cX3_win 13 = .ok (.aload_n 0, 1) := by decide +kernel
theorem dX3_win_14 : decode cX3_win 14 = .ok (.getfield 15, 3) := by decide +kernel
theorem dX3_win_17 : decode cX3_win 17 = .ok (.arraylength, 1) := by decide +kernel
theorem dX3_win_18 : decode cX3_win 18 = .ok (.if_icmp .ge 53, 3) := by decide +kernel
theorem dX3_win_21 : decode cX3_win 21 = .ok (.aload_n 1, 1) := by decide +kernel
theorem dX3_win_22 : decode cX3_win 22 = .ok (.iload_n 3, 1) := by decide +kernel
theorem dX3_win_23 : decode cX3_win 23 = .ok (.aload_n 0, 1) := by decide +kernel
theorem dX3_win_24 : decode cX3_win 24 = .ok (.getfield 15, 3) := by decide +kernel
theorem dX3_win_27 : decode cX3_win 27 = .ok (.iload_n 3, 1) := by decide +kernel
theorem dX3_win_28 : decode cX3_win 28 = .ok (.aaload, 1) := by decide +kernel
theorem dX3_win_29 : decode cX3_win 29 = .ok (.iconst 3, 1) := by decide +kernel
theorem dX3_win_30 : decode cX3_win 30 = .ok (.iaload, 1) := by decide +kernel
theorem dX3_win_31 : decode cX3_win 31 = .ok (.aload_n 0, 1) := by decide +kernel
theorem dX3_win_32 : decode cX3_win 32 = .ok (.getfield 15, 3) := by decide +kernel
theorem dX3_win_35 : decode cX3_win 35 = .ok (.aload_n 0, 1) := by decide +kernel
theorem dX3_win_36 : decode cX3_win 36 = .ok (.invokevirtual 45, 3) := by decide +kernel
theorem dX3_win_39 : decode cX3_win 39 = .ok (.aaload, 1) := by decide +kernel
theorem dX3_win_40 : decode cX3_win 40 = .ok (.iconst 3, 1) := by decide +kernel
theorem dX3_win_41 : decode cX3_win 41 = .ok (.iaload, 1) := by decide +kernel
theorem dX3_win_42 : decode cX3_win 42 = .ok (.if_icmp .ne 7, 3) := by decide +kernel
theorem dX3_win_45 : decode cX3_win 45 = .ok (.iconst 1, 1) := by decide +kernel
theorem dX3_win_46 : decode cX3_win 46 = .ok (.goto 4, 3) := by decide +kernel
theorem dX3_win_49 : decode cX3_win 49 = .ok (.iconst 0, 1) := by decide +kernel
theorem dX3_win_50 : decode cX3_win 50 = .ok (.bastore, 1) := by decide +kernel
theorem dX3_win_51 : decode cX3_win 51 = .ok (.iload_n 2, 1) := by decide +kernel
theorem dX3_win_52 : decode cX3_win 52 = .ok (.aload_n 1, 1) := by decide +kernel
theorem dX3_win_53 : decode cX3_win 53 = .ok (.iload_n 3, 1) := by decide +kernel
theorem dX3_win_54 : decode cX3_win 54 = .ok (.baload, 1) := by decide +kernel
theorem dX3_win_55 : decode cX3_win 55 = .ok (.ifCond .eq 7, 3) := by decide +kernel
theorem dX3_win_58 : decode cX3_win 58 = .ok (.iconst 1, 1) := by decide +kernel
theorem dX3_win_59 : decode cX3_win 59 = .ok (.goto 4, 3) := by decide +kernel
theorem dX3_win_62 : decode cX3_win 62 = .ok (.iconst 0, 1) := by decide +kernel
theorem dX3_win_63 : decode cX3_win 63 = .ok (.iadd, 1) := by decide +kernel
theorem dX3_win_64 : decode cX3_win 64 = .ok (.istore_n 2, 1) := by decide +kernel
theorem dX3_win_65 : decode cX3_win 65 = .ok (.iinc 3 1, 3) := by decide +kernel
theorem dX3_win_68 : decode cX3_win 68 = .ok (.goto (-56), 3) := by decide +kernel
theorem dX3_win_71 : decode cX3_win 71 = .ok (.iconst 1, 1) := by decide +kernel
theorem dX3_win_72 : decode cX3_win 72 = .ok (.istore_n 3, 1) := by decide +kernel
theorem dX3_win_73 : decode cX3_win 73 = .ok (.iload_n 3, 1) := by decide +kernel
theorem dX3_win_74 : decode cX3_win 74 = .ok (.bipush 10, 2) := by decide +kernel
theorem dX3_win_76 : decode cX3_win 76 = .ok (.if_icmp .ge 146, 3) := by decide +kernel
theorem dX3_win_79 : decode cX3_win 79 = .ok (.iload_n 2, 1) := by decide +kernel
theorem dX3_win_80 : decode cX3_win 80 = .ok (.iconst 1, 1) := by decide +kernel
theorem dX3_win_81 : decode cX3_win 81 = .ok (.if_icmp .le 141, 3) := by decide +kernel
theorem dX3_win_84 : decode cX3_win 84 = .ok (.aload_n 0, 1) := by decide +kernel
theorem dX3_win_85 : decode cX3_win 85 = .ok (.getfield 15, 3) := by decide +kernel
theorem dX3_win_88 : decode cX3_win 88 = .ok (.arraylength, 1) := by decide +kernel
theorem dX3_win_89 : decode cX3_win 89 = .ok (.newarray .boolean, 2) := by decide +kernel
theorem dX3_win_91 : decode cX3_win 91 = .ok (.astore 4, 2) := by decide +kernel
theorem dX3_win_93 : decode cX3_win 93 = .ok (.iconst 0, 1) := by decide +kernel
theorem dX3_win_94 : decode cX3_win 94 = .ok (.istore 5, 2) := by decide +kernel
theorem dX3_win_96 : decode cX3_win 96 = .ok (.iconst 0, 1) := by decide +kernel
theorem dX3_win_97 : decode cX3_win 97 = .ok (.istore 6, 2) := by decide +kernel
theorem dX3_win_99 : decode cX3_win 99 = .ok (.iload 6, 2) := by decide +kernel
theorem dX3_win_101 : decode cX3_win 101 = .ok (.aload_n 0, 1) := by decide +kernel
theorem dX3_win_102 : decode cX3_win 102 = .ok (.getfield 15, 3) := by decide +kernel
theorem dX3_win_105 : decode cX3_win 105 = .ok (.arraylength, 1) := by decide +kernel
theorem dX3_win_106 : decode cX3_win 106 = .ok (.if_icmp .ge 96, 3) := by decide +kernel
theorem dX3_win_109 : decode cX3_win 109 = .ok (.aload_n 1, 1) := by decide +kernel
theorem dX3_win_110 : decode cX3_win 110 = .ok (.iload 6, 2) := by decide +kernel
theorem dX3_win_112 : decode cX3_win 112 = .ok (.baload, 1) := by decide +kernel
theorem dX3_win_113 : decode cX3_win 113 = .ok (.ifCond .ne 6, 3) := by decide +kernel
theorem dX3_win_116 : decode cX3_win 116 = .ok (.goto 80, 3) := by decide +kernel
theorem dX3_win_119 : decode cX3_win 119 = .ok (.aload 4, 2) := by decide +kernel
theorem dX3_win_121 : decode cX3_win 121 = .ok (.iload 6, 2) := by decide +kernel
theorem dX3_win_123 : decode cX3_win 123 = .ok (.bipush 6, 2) := by decide +kernel
theorem dX3_win_125 : decode cX3_win 125 = .ok (.iload_n 3, 1) := by decide +kernel
theorem dX3_win_126 : decode cX3_win 126 = .ok (.imul, 1) := by decide +kernel
theorem dX3_win_127 : decode cX3_win 127 = .ok (.aload_n 0, 1) := by decide +kernel
theorem dX3_win_128 : decode cX3_win 128 = .ok (.getfield 15, 3) := by decide +kernel
theorem dX3_win_131 : decode cX3_win 131 = .ok (.iload 6, 2) := by decide +kernel
theorem dX3_win_133 : decode cX3_win 133 = .ok (.aaload, 1) := by decide +kernel
theorem dX3_win_134 : decode cX3_win 134 = .ok (.iconst 2, 1) := by decide +kernel
theorem dX3_win_135 : decode cX3_win 135 = .ok (.iaload, 1) := by decide +kernel
theorem dX3_win_136 : decode cX3_win 136 = .ok (.aload_n 0, 1) := by decide +kernel
theorem dX3_win_137 : decode cX3_win 137 = .ok (.getfield 15, 3) := by decide +kernel
theorem dX3_win_140 : decode cX3_win 140 = .ok (.iload 6, 2) := by decide +kernel
theorem dX3_win_142 : decode cX3_win 142 = .ok (.aaload, 1) := by decide +kernel
theorem dX3_win_143 : decode cX3_win 143 = .ok (.iconst 1, 1) := by decide +kernel
theorem dX3_win_144 : decode cX3_win 144 = .ok (.iaload, 1) := by decide +kernel
theorem dX3_win_145 : decode cX3_win 145 = .ok (.idiv, 1) := by decide +kernel
theorem dX3_win_146 : decode cX3_win 146 = .ok (.iadd, 1) := by decide +kernel
theorem dX3_win_147 : decode cX3_win 147 = .ok (.aload_n 0, 1) := by decide +kernel
theorem dX3_win_148 : decode cX3_win 148 = .ok (.getfield 15, 3) := by decide +kernel
theorem dX3_win_151 : decode cX3_win 151 = .ok (.iload 6, 2) := by decide +kernel
theorem dX3_win_153 : decode cX3_win 153 = .ok (.aaload, 1) := by decide +kernel
theorem dX3_win_154 : decode cX3_win 154 = .ok (.iconst 0, 1) := by decide +kernel
theorem dX3_win_155 : decode cX3_win 155 = .ok (.iaload, 1) := by decide +kernel
theorem dX3_win_156 : decode cX3_win 156 = .ok (.if_icmp .gt 7, 3) := by decide +kernel
theorem dX3_win_159 : decode cX3_win 159 = .ok (.iconst 1, 1) := by decide +kernel
theorem dX3_win_160 : decode cX3_win 160 = .ok (.goto 4, 3) := by decide +kernel
theorem dX3_win_163 : decode cX3_win 163 = .ok (.iconst 0, 1) := by decide +kernel
theorem dX3_win_164 : decode cX3_win 164 = .ok (.bastore, 1) := by decide +kernel
theorem dX3_win_165 : decode cX3_win 165 = .ok (.iload 5, 2) := by decide +kernel
theorem dX3_win_167 : decode cX3_win 167 = .ok (.aload 4, 2) := by decide +kernel
theorem dX3_win_169 : decode cX3_win 169 = .ok (.iload 6, 2) := by decide +kernel
theorem dX3_win_171 : decode cX3_win 171 = .ok (.baload, 1) := by decide +kernel
theorem dX3_win_172 : decode cX3_win 172 = .ok (.ifCond .eq 7, 3) := by decide +kernel
theorem dX3_win_175 : decode cX3_win 175 = .ok (.iconst 1, 1) := by decide +kernel
theorem dX3_win_176 : decode cX3_win 176 = .ok (.goto 4, 3) := by decide +kernel
theorem dX3_win_179 : decode cX3_win 179 = .ok (.iconst 0, 1) := by decide +kernel
theorem dX3_win_180 : decode cX3_win 180 = .ok (.iadd, 1) := by decide +kernel
theorem dX3_win_181 : decode cX3_win 181 = .ok (.istore 5, 2) := by decide +kernel
theorem dX3_win_183 : decode cX3_win 183 = .ok (.aload_n 0, 1) := by decide +kernel
theorem dX3_win_184 : decode cX3_win 184 = .ok (.getfield 15, 3) := by decide +kernel
theorem dX3_win_187 : decode cX3_win 187 = .ok (.iload 6, 2) := by decide +kernel
theorem dX3_win_189 : decode cX3_win 189 = .ok (.aaload, 1) := by decide +kernel
theorem dX3_win_190 : decode cX3_win 190 = .ok (.iconst 2, 1) := by decide +kernel
theorem dX3_win_191 : decode cX3_win 191 = .ok (.dup2, 1) := by decide +kernel
theorem dX3_win_192 : decode cX3_win 192 = .ok (.iaload, 1) := by decide +kernel
theorem dX3_win_193 : decode cX3_win 193 = .ok (.iconst 1, 1) := by decide +kernel
theorem dX3_win_194 : decode cX3_win 194 = .ok (.iadd, 1) := by decide +kernel
theorem dX3_win_195 : decode cX3_win 195 = .ok (.iastore, 1) := by decide +kernel
theorem dX3_win_196 : decode cX3_win 196 = .ok (.iinc 6 1, 3) := by decide +kernel
theorem dX3_win_199 : decode cX3_win 199 = .ok (.goto (-100), 3) := by decide +kernel
theorem dX3_win_202 : decode cX3_win 202 = .ok (.iload 5, 2) := by decide +kernel
theorem dX3_win_204 : decode cX3_win 204 = .ok (.ifCond .ne 6, 3) := by decide +kernel
theorem dX3_win_207 : decode cX3_win 207 = .ok (.goto 9, 3) := by decide +kernel
theorem dX3_win_210 : decode cX3_win 210 = .ok (.aload 4, 2) := by decide +kernel
theorem dX3_win_212 : decode cX3_win 212 = .ok (.astore_n 1, 1) := by decide +kernel
theorem dX3_win_213 : decode cX3_win 213 = .ok (.iload 5, 2) := by decide +kernel
theorem dX3_win_215 : decode cX3_win 215 = .ok (.istore_n 2, 1) := by decide +kernel
theorem dX3_win_216 : decode cX3_win 216 = .ok (.iinc 3 1, 3) := by decide +kernel
theorem dX3_win_219 : decode cX3_win 219 = .ok (.goto (-146), 3) := by decide +kernel
theorem dX3_win_222 : decode cX3_win 222 = .ok (.iconst 0, 1) := by decide +kernel
theorem dX3_win_223 : decode cX3_win 223 = .ok (.istore_n 3, 1) := by decide +kernel
theorem dX3_win_224 : decode cX3_win 224 = .ok (.aload_n 1, 1) := by decide +kernel
theorem dX3_win_225 : decode cX3_win 225 = .ok (.iload_n 3, 1) := by decide +kernel
theorem dX3_win_226 : decode cX3_win 226 = .ok (.baload, 1) := by decide +kernel
theorem dX3_win_227 : decode cX3_win 227 = .ok (.ifCond .ne 9, 3) := by decide +kernel
theorem dX3_win_230 : decode cX3_win 230 = .ok (.iinc 3 1, 3) := by decide +kernel
theorem dX3_win_233 : decode cX3_win 233 = .ok (.goto (-9), 3) := by decide +kernel
theorem dX3_win_236 : decode cX3_win 236 = .ok (.iload_n 3, 1) := by decide +kernel
theorem dX3_win_237 : decode cX3_win 237 = .ok (.ireturn, 1) := by decide +kernel
theorem dX3_isSame_0 : decode cX3_isSame 0 = .ok (.iconst 0, 1) := by decide +kernel
theorem dX3_isSame_1 : decode cX3_isSame 1 = .ok (.istore_n 2, 1) := by decide +kernel
theorem dX3_isSame_2 : decode cX3_isSame 2 = .ok (.iload_n 2, 1) := by decide +kernel
theorem dX3_isSame_3 : decode cX3_isSame 3 = .ok (.iconst 5, 1) := by decide +kernel
theorem dX3_isSame_4 : decode cX3_isSame 4 = .ok (.if_icmp .ge 81, 3) := by decide +kernel
theorem dX3_isSame_7 : decode cX3_isSame 7 = .ok (.iconst 0, 1) := by decide +kernel
theorem dX3_isSame_8 : decode cX3_isSame 8 = .ok (.istore_n 3, 1) := by decide +kernel
theorem dX3_isSame_9 : decode cX3_isSame 9 = .ok (.iconst 0, 1) := by decide +kernel
theorem dX3_isSame_10 : decode cX3_isSame 10 = .ok (.istore 4, 2) := by decide +kernel
theorem dX3_isSame_12 : decode cX3_isSame 12 = .ok (.iload 4, 2) := by decide +kernel
theorem dX3_isSame_14 : decode cX3_isSame 14 = .ok (.iconst 5, 1) := by decide +kernel
theorem dX3_isSame_15 : decode cX3_isSame 15 = .ok (.if_icmp .ge 53, 3) := by decide +kernel
theorem dX3_isSame_18 : decode cX3_isSame 18 = .ok (.aload_n 1, 1) := by decide +kernel
theorem dX3_isSame_19 : decode cX3_isSame 19 = .ok (.iload_n 2, 1) := by decide +kernel
theorem dX3_isSame_20 : decode cX3_isSame 20 = .ok (.iload 4, 2) := by decide +kernel
theorem dX3_isSame_22 : decode cX3_isSame 22 = .ok (.invokevirtual 48, 3) := by decide +kernel
theorem dX3_isSame_25 : decode cX3_isSame 25 = .ok (.aload_n 0, 1) := by decide +kernel
theorem dX3_isSame_26 : decode cX3_isSame 26 = .ok (.iload_n 2, 1) := by decide +kernel
theorem dX3_isSame_27 : decode cX3_isSame 27 = .ok (.iload 4, 2) := by decide +kernel
theorem dX3_isSame_29 : decode cX3_isSame 29 = .ok (.invokevirtual 27, 3) := by decide +kernel
theorem dX3_isSame_32 : decode cX3_isSame 32 = .ok (.if_icmp .eq 5, 3) := by decide +kernel
theorem dX3_isSame_35 : decode cX3_isSame 35 = .ok (.iconst 0, 1) := by decide +kernel
theorem dX3_isSame_36 : decode cX3_isSame 36 = .ok (.ireturn, 1) := by decide +kernel
theorem dX3_isSame_37 : decode cX3_isSame 37 = .ok (.aload_n 0, 1) := by decide +kernel
theorem dX3_isSame_38 : decode cX3_isSame 38 = .ok (.iload_n 2, 1) := by decide +kernel
theorem dX3_isSame_39 : decode cX3_isSame 39 = .ok (.iload 4, 2) := by decide +kernel
theorem dX3_isSame_41 : decode cX3_isSame 41 = .ok (.invokevirtual 27, 3) := by decide +kernel
theorem dX3_isSame_44 : decode cX3_isSame 44 = .ok (.invokestatic 35, 3) := by decide +kernel
theorem dX3_isSame_47 : decode cX3_isSame 47 = .ok (.aload_n 0, 1) := by decide +kernel
theorem dX3_isSame_48 : decode cX3_isSame 48 = .ok (.iload_n 2, 1) := by decide +kernel
theorem dX3_isSame_49 : decode cX3_isSame 49 = .ok (.iload_n 3, 1) := by decide +kernel
theorem dX3_isSame_50 : decode cX3_isSame 50 = .ok (.invokevirtual 27, 3) := by decide +kernel
theorem dX3_isSame_53 : decode cX3_isSame 53 = .ok (.invokestatic 35, 3) := by decide +kernel
theorem dX3_isSame_56 : decode cX3_isSame 56 = .ok (.if_icmp .le 6, 3) := by decide +kernel
theorem dX3_isSame_59 : decode cX3_isSame 59 = .ok (.iload 4, 2) := by decide +kernel
theorem dX3_isSame_61 : decode cX3_isSame 61 = .ok (.istore_n 3, 1) := by decide +kernel
theorem dX3_isSame_62 : decode cX3_isSame 62 = .ok (.iinc 4 1, 3) := by decide +kernel
theorem dX3_isSame_65 : decode cX3_isSame 65 = .ok (.goto (-53), 3) := by decide +kernel
theorem dX3_isSame_68 : decode cX3_isSame 68 = .ok (.aload_n 1, 1) := by decide +kernel
theorem dX3_isSame_69 : decode cX3_isSame 69 = .ok (.iload_n 2, 1) := by decide +kernel
theorem dX3_isSame_70 : decode cX3_isSame 70 = .ok (.invokevirtual 51, 3) := by decide +kernel
theorem dX3_isSame_73 : decode cX3_isSame 73 = .ok (.iload_n 3, 1) := by decide +kernel
theorem dX3_isSame_74 : decode cX3_isSame 74 = .ok (.if_icmp .eq 5, 3) := by decide +kernel
theorem dX3_isSame_77 : decode cX3_isSame 77 = .ok (.iconst 0, 1) := by decide +kernel
theorem dX3_isSame_78 : decode cX3_isSame 78 = .ok (.ireturn, 1) := by decide +kernel
theorem dX3_isSame_79 : decode cX3_isSame 79 = .ok (.iinc 2 1, 3) := by decide +kernel
theorem dX3_isSame_82 : decode cX3_isSame 82 = .ok (.goto (-80), 3) := by decide +kernel
theorem dX3_isSame_85 : decode cX3_isSame 85 = .ok (.iconst 0, 1) := by decide +kernel
theorem dX3_isSame_86 : decode cX3_isSame 86 = .ok (.istore_n 2, 1) := by decide +kernel
theorem dX3_isSame_87 : decode cX3_isSame 87 = .ok (.iconst 0, 1) := by decide +kernel
theorem dX3_isSame_88 : decode cX3_isSame 88 = .ok (.istore_n 3, 1) := by decide +kernel
theorem dX3_isSame_89 : decode cX3_isSame 89 = .ok (.iconst 0, 1) := by decide +kernel
theorem dX3_isSame_90 : decode cX3_isSame 90 = .ok (.istore 4, 2) := by decide +kernel
theorem dX3_isSame_92 : decode cX3_isSame 92 = .ok (.iload 4, 2) := by decide +kernel
theorem dX3_isSame_94 : decode cX3_isSame 94 = .ok (.aload_n 0, 1) := by decide +kernel
theorem dX3_isSame_95 : decode cX3_isSame 95 = .ok (.getfield 15, 3) := by decide +kernel
theorem dX3_isSame_98 : decode cX3_isSame 98 = .ok (.arraylength, 1) := by decide +kernel
theorem dX3_isSame_99 : decode cX3_isSame 99 = .ok (.if_icmp .ge 212, 3) := by decide +kernel
theorem dX3_isSame_102 : decode cX3_isSame 102 = .ok (.aload_n 0, 1) := by decide +kernel
theorem dX3_isSame_103 : decode cX3_isSame 103 = .ok (.getfield 15, 3) := by decide +kernel
theorem dX3_isSame_106 : decode cX3_isSame 106 = .ok (.iload 4, 2) := by decide +kernel
theorem dX3_isSame_108 : decode cX3_isSame 108 = .ok (.aaload, 1) := by decide +kernel
theorem dX3_isSame_109 : decode cX3_isSame 109 = .ok (.astore 5, 2) := by decide +kernel
theorem dX3_isSame_111 : decode cX3_isSame 111 = .ok (.iconst 1, 1) := by decide +kernel
theorem dX3_isSame_112 : decode cX3_isSame 112 = .ok (.istore 6, 2) := by decide +kernel
theorem dX3_isSame_114 : decode cX3_isSame 114 = .ok (.aload_n 0, 1) := by decide +kernel
theorem dX3_isSame_115 : decode cX3_isSame 115 = .ok (.getfield 15, 3) := by decide +kernel
theorem dX3_isSame_118 : decode cX3_isSame 118 = .ok (.astore 7, 2) := by decide +kernel
theorem dX3_isSame_120 : decode cX3_isSame 120 = .ok (.aload 7, 2) := by decide +kernel
theorem dX3_isSame_122 : decode cX3_isSame 122 = .ok (.arraylength, 1) := by decide +kernel
theorem dX3_isSame_123 : decode cX3_isSame 123 = .ok (.istore 8, 2) := by decide +kernel
theorem dX3_isSame_125 : decode cX3_isSame 125 = .ok (.iconst 0, 1) := by decide +kernel
theorem dX3_isSame_126 : decode cX3_isSame 126 = .ok (.istore 9, 2) := by decide +kernel
theorem dX3_isSame_128 : decode cX3_isSame 128 = .ok (.iload 9, 2) := by decide +kernel
theorem dX3_isSame_130 : decode cX3_isSame 130 = .ok (.iload 8, 2) := by decide +kernel
theorem dX3_isSame_132 : decode cX3_isSame 132 = .ok (.if_icmp .ge 37, 3) := by decide +kernel
theorem dX3_isSame_135 : decode cX3_isSame 135 = .ok (.aload 7, 2) := by decide +kernel
theorem dX3_isSame_137 : decode cX3_isSame 137 = .ok (.iload 9, 2) := by decide +kernel
theorem dX3_isSame_139 : decode cX3_isSame 139 = .ok (.aaload, 1) := by decide +kernel
theorem dX3_isSame_140 : decode cX3_isSame 140 = .ok (.astore 10, 2) := by decide +kernel
theorem dX3_isSame_142 : decode cX3_isSame 142 = .ok (.iload 6, 2) := by decide +kernel
theorem dX3_isSame_144 : decode cX3_isSame 144 = .ok (.aload 10, 2) := by decide +kernel
theorem dX3_isSame_146 : decode cX3_isSame 146 = .ok (.iconst 3, 1) := by decide +kernel
theorem dX3_isSame_147 : decode cX3_isSame 147 = .ok (.iaload, 1) := by decide +kernel
theorem dX3_isSame_148 : decode cX3_isSame 148 = .ok (.aload 5, 2) := by decide +kernel
theorem dX3_isSame_150 : decode cX3_isSame 150 = .ok (.iconst 3, 1) := by decide +kernel
theorem dX3_isSame_151 : decode cX3_isSame 151 = .ok (.iaload, 1) := by decide +kernel
theorem dX3_isSame_152 : decode cX3_isSame 152 = .ok (.if_icmp .le 7, 3) := by decide +kernel
theorem dX3_isSame_155 : decode cX3_isSame 155 = .ok (.iconst 1, 1) := by decide +kernel
theorem dX3_isSame_156 : decode cX3_isSame 156 = .ok (.goto 4, 3) := by decide +kernel
theorem dX3_isSame_159 : decode cX3_isSame 159 = .ok (.iconst 0, 1) := by decide +kernel
theorem dX3_isSame_160 : decode cX3_isSame 160 = .ok (.iadd, 1) := by decide +kernel
theorem dX3_isSame_161 : decode cX3_isSame 161 = .ok (.istore 6, 2) := by decide +kernel
theorem dX3_isSame_163 : decode cX3_isSame 163 = .ok (.iinc 9 1, 3) := by decide +kernel
theorem dX3_isSame_166 : decode cX3_isSame 166 = .ok (.goto (-38), 3) := by decide +kernel
theorem dX3_isSame_169 : decode cX3_isSame 169 = .ok (.iload_n 2, 1) := by decide +kernel
theorem dX3_isSame_170 : decode cX3_isSame 170 = .ok (.iload 6, 2) := by decide +kernel
theorem dX3_isSame_172 : decode cX3_isSame 172 = .ok (.iconst 1, 1) := by decide +kernel
theorem dX3_isSame_173 : decode cX3_isSame 173 = .ok (.if_icmp .ne 7, 3) := by decide +kernel
theorem dX3_isSame_176 : decode cX3_isSame 176 = .ok (.iconst 1, 1) := by decide +kernel
theorem dX3_isSame_177 : decode cX3_isSame 177 = .ok (.goto 4, 3) := by decide +kernel
theorem dX3_isSame_180 : decode cX3_isSame 180 = .ok (.iconst 0, 1) := by decide +kernel
theorem dX3_isSame_181 : decode cX3_isSame 181 = .ok (.iadd, 1) := by decide +kernel
theorem dX3_isSame_182 : decode cX3_isSame 182 = .ok (.istore_n 2, 1) := by decide +kernel
theorem dX3_isSame_183 : decode cX3_isSame 183 = .ok (.iload_n 3, 1) := by decide +kernel
theorem dX3_isSame_184 : decode cX3_isSame 184 = .ok (.aload 5, 2) := by decide +kernel
theorem dX3_isSame_186 : decode cX3_isSame 186 = .ok (.iconst 3, 1) := by decide +kernel
theorem dX3_isSame_187 : decode cX3_isSame 187 = .ok (.iaload, 1) := by decide +kernel
theorem dX3_isSame_188 : decode cX3_isSame 188 = .ok (.iadd, 1) := by decide +kernel
theorem dX3_isSame_189 : decode cX3_isSame 189 = .ok (.istore_n 3, 1) := by decide +kernel
theorem dX3_isSame_190 : decode cX3_isSame 190 = .ok (.aload_n 1, 1) := by decide +kernel
theorem dX3_isSame_191 : decode cX3_isSame 191 = .ok (.iload 4, 2) := by decide +kernel
theorem dX3_isSame_193 : decode cX3_isSame 193 = .ok (.invokevirtual 54, 3) := by decide +kernel
theorem dX3_isSame_196 : decode cX3_isSame 196 = .ok (.iload 4, 2) := by decide +kernel
theorem dX3_isSame_198 : decode cX3_isSame 198 = .ok (.aload_n 0, 1) := by decide +kernel
theorem dX3_isSame_199 : decode cX3_isSame 199 = .ok (.getfield 19, 3) := by decide +kernel
theorem dX3_isSame_202 : decode cX3_isSame 202 = .ok (.iconst 5, 1) := by decide +kernel
theorem dX3_isSame_203 : decode cX3_isSame 203 = .ok (.idiv, 1) := by decide +kernel
theorem dX3_isSame_204 : decode cX3_isSame 204 = .ok (.iadd, 1) := by decide +kernel
theorem dX3_isSame_205 : decode cX3_isSame 205 = .ok (.iconst 5, 1) := by decide +kernel
theorem dX3_isSame_206 : decode cX3_isSame 206 = .ok (.irem, 1) := by decide +kernel
theorem dX3_isSame_207 : decode cX3_isSame 207 = .ok (.if_icmp .ne 96, 3) := by decide +kernel
theorem dX3_isSame_210 : decode cX3_isSame 210 = .ok (.aload_n 1, 1) := by decide +kernel
theorem dX3_isSame_211 : decode cX3_isSame 211 = .ok (.iload 4, 2) := by decide +kernel
theorem dX3_isSame_213 : decode cX3_isSame 213 = .ok (.invokevirtual 57, 3) := by decide +kernel
theorem dX3_isSame_216 : decode cX3_isSame 216 = .ok (.aload_n 0, 1) := by decide +kernel
theorem dX3_isSame_217 : decode cX3_isSame 217 = .ok (.iload 4, 2) := by decide +kernel
theorem dX3_isSame_219 : decode cX3_isSame 219 = .ok (.invokevirtual 31, 3) := by decide +kernel
theorem dX3_isSame_222 : decode cX3_isSame 222 = .ok (.if_icmp .ne 81, 3) := by decide +kernel
theorem dX3_isSame_225 : decode cX3_isSame 225 = .ok (.aload_n 1, 1) := by decide +kernel
theorem dX3_isSame_226 : decode cX3_isSame 226 = .ok (.iload 4, 2) := by decide +kernel
theorem dX3_isSame_228 : decode cX3_isSame 228 = .ok (.invokevirtual 58, 3) := by decide +kernel
theorem dX3_isSame_231 : decode cX3_isSame 231 = .ok (.aload 5, 2) := by decide +kernel
theorem dX3_isSame_233 : decode cX3_isSame 233 = .ok (.iconst 3, 1) := by decide +kernel
theorem dX3_isSame_234 : decode cX3_isSame 234 = .ok (.iaload, 1) := by decide +kernel
theorem dX3_isSame_235 : decode cX3_isSame 235 = .ok (.if_icmp .ne 68, 3) := by decide +kernel
theorem dX3_isSame_238 : decode cX3_isSame 238 = .ok (.aload_n 1, 1) := by decide +kernel
theorem dX3_isSame_239 : decode cX3_isSame 239 = .ok (.iload 4, 2) := by decide +kernel
theorem dX3_isSame_241 : decode cX3_isSame 241 = .ok (.invokevirtual 61, 3) := by decide +kernel
theorem dX3_isSame_244 : decode cX3_isSame 244 = .ok (.aload 5, 2) := by decide +kernel
theorem dX3_isSame_246 : decode cX3_isSame 246 = .ok (.iconst 4, 1) := by decide +kernel
theorem dX3_isSame_247 : decode cX3_isSame 247 = .ok (.iaload, 1) := by decide +kernel
theorem dX3_isSame_248 : decode cX3_isSame 248 = .ok (.if_icmp .ne 55, 3) := by decide +kernel
theorem dX3_isSame_251 : decode cX3_isSame 251 = .ok (.aload_n 1, 1) := by decide +kernel
theorem dX3_isSame_252 : decode cX3_isSame 252 = .ok (.iload 4, 2) := by decide +kernel
theorem dX3_isSame_254 : decode cX3_isSame 254 = .ok (.invokevirtual 64, 3) := by decide +kernel
theorem dX3_isSame_257 : decode cX3_isSame 257 = .ok (.aload 5, 2) := by decide +kernel
theorem dX3_isSame_259 : decode cX3_isSame 259 = .ok (.iconst 5, 1) := by decide +kernel
theorem dX3_isSame_260 : decode cX3_isSame 260 = .ok (.iaload, 1) := by decide +kernel
theorem dX3_isSame_261 : decode cX3_isSame 261 = .ok (.if_icmp .ne 42, 3) := by decide +kernel
theorem dX3_isSame_264 : decode cX3_isSame 264 = .ok (.aload_n 1, 1) := by decide +kernel
theorem dX3_isSame_265 : decode cX3_isSame 265 = .ok (.iload 4, 2) := by decide +kernel
theorem dX3_isSame_267 : decode cX3_isSame 267 = .ok (.invokevirtual 67, 3) := by decide +kernel
theorem dX3_isSame_270 : decode cX3_isSame 270 = .ok (.aload 5, 2) := by decide +kernel
theorem dX3_isSame_272 : decode cX3_isSame 272 = .ok (.iconst 2, 1) := by decide +kernel
theorem dX3_isSame_273 : decode cX3_isSame 273 = .ok (.iaload, 1) := by decide +kernel
theorem dX3_isSame_274 : decode cX3_isSame 274 = .ok (.if_icmp .ne 29, 3) := by decide +kernel
theorem dX3_isSame_277 : decode cX3_isSame 277 = .ok (.aload_n 1, 1) := by decide +kernel
theorem dX3_isSame_278 : decode cX3_isSame 278 = .ok (.iload 4, 2) := by decide +kernel
theorem dX3_isSame_280 : decode cX3_isSame 280 = .ok (.invokevirtual 70, 3) := by decide +kernel
theorem dX3_isSame_283 : decode cX3_isSame 283 = .ok (.aload_n 0, 1) := by decide +kernel
theorem dX3_isSame_284 : decode cX3_isSame 284 = .ok (.iload 4, 2) := by decide +kernel
theorem dX3_isSame_286 : decode cX3_isSame 286 = .ok (.invokevirtual 38, 3) := by decide +kernel
theorem dX3_isSame_289 : decode cX3_isSame 289 = .ok (.if_icmp .ne 14, 3) := by decide +kernel
theorem dX3_isSame_292 : decode cX3_isSame 292 = .ok (.aload_n 1, 1) := by decide +kernel
theorem dX3_isSame_293 : decode cX3_isSame 293 = .ok (.iload 4, 2) := by decide +kernel
theorem dX3_isSame_295 : decode cX3_isSame 295 = .ok (.invokevirtual 73, 3) := by decide +kernel
theorem dX3_isSame_298 : decode cX3_isSame 298 = .ok (.iload 6, 2) := by decide +kernel
theorem dX3_isSame_300 : decode cX3_isSame 300 = .ok (.if_icmp .eq 5, 3) := by decide +kernel
theorem dX3_isSame_303 : decode cX3_isSame 303 = .ok (.iconst 0, 1) := by decide +kernel
theorem dX3_isSame_304 : decode cX3_isSame 304 = .ok (.ireturn, 1) := by decide +kernel
theorem dX3_isSame_305 : decode cX3_isSame 305 = .ok (.iinc 4 1, 3) := by decide +kernel
theorem dX3_isSame_308 : decode cX3_isSame 308 = .ok (.goto (-216), 3) := by decide +kernel
theorem dX3_isSame_311 : decode cX3_isSame 311 = .ok (.aload_n 1, 1) := by decide +kernel
theorem dX3_isSame_312 : decode cX3_isSame 312 = .ok (.invokevirtual 76, 3) := by decide +kernel
theorem dX3_isSame_315 : decode cX3_isSame 315 = .ok (.aload_n 0, 1) := by decide +kernel
theorem dX3_isSame_316 : decode cX3_isSame 316 = .ok (.getfield 19, 3) := by decide +kernel
theorem dX3_isSame_319 : decode cX3_isSame 319 = .ok (.if_icmp .ne 67, 3) := by decide +kernel
theorem dX3_isSame_322 : decode cX3_isSame 322 = .ok (.aload_n 1, 1) := by decide +kernel
theorem dX3_isSame_323 : decode cX3_isSame 323 = .ok (.invokevirtual 78, 3) := by decide +kernel
theorem dX3_isSame_326 : decode cX3_isSame 326 = .ok (.aload_n 0, 1) := by decide +kernel
theorem dX3_isSame_327 : decode cX3_isSame 327 = .ok (.getfield 15, 3) := by decide +kernel
theorem dX3_isSame_330 : decode cX3_isSame 330 = .ok (.arraylength, 1) := by decide +kernel
theorem dX3_isSame_331 : decode cX3_isSame 331 = .ok (.if_icmp .ne 55, 3) := by decide +kernel
theorem dX3_isSame_334 : decode cX3_isSame 334 = .ok (.aload_n 1, 1) := by decide +kernel
theorem dX3_isSame_335 : decode cX3_isSame 335 = .ok (.invokevirtual 80, 3) := by decide +kernel
theorem dX3_isSame_338 : decode cX3_isSame 338 = .ok (.aload_n 0, 1) := by decide +kernel
theorem dX3_isSame_339 : decode cX3_isSame 339 = .ok (.invokevirtual 45, 3) := by decide +kernel
theorem dX3_isSame_342 : decode cX3_isSame 342 = .ok (.if_icmp .ne 44, 3) := by decide +kernel
theorem dX3_isSame_345 : decode cX3_isSame 345 = .ok (.aload_n 1, 1) := by decide +kernel
theorem dX3_isSame_346 : decode cX3_isSame 346 = .ok (.invokevirtual 81, 3) := by decide +kernel
theorem dX3_isSame_349 : decode cX3_isSame 349 = .ok (.iload_n 2, 1) := by decide +kernel
theorem dX3_isSame_350 : decode cX3_isSame 350 = .ok (.if_icmp .ne 36, 3) := by decide +kernel
theorem dX3_isSame_353 : decode cX3_isSame 353 = .ok (.aload_n 1, 1) := by decide +kernel
theorem dX3_isSame_354 : decode cX3_isSame 354 = .ok (.invokevirtual 84, 3) := by decide +kernel
theorem dX3_isSame_357 : decode cX3_isSame 357 = .ok (.aload_n 0, 1) := by decide +kernel
theorem dX3_isSame_358 : decode cX3_isSame 358 = .ok (.getfield 15, 3) := by decide +kernel
theorem dX3_isSame_361 : decode cX3_isSame 361 = .ok (.arraylength, 1) := by decide +kernel
theorem dX3_isSame_362 : decode cX3_isSame 362 = .ok (.ifCond .ne 7, 3) := by decide +kernel
theorem dX3_isSame_365 : decode cX3_isSame 365 = .ok (.dconst 0, 1) := by decide +kernel
theorem dX3_isSame_366 : decode cX3_isSame 366 = .ok (.goto 12, 3) := by decide +kernel
theorem dX3_isSame_369 : decode cX3_isSame 369 = .ok (.iload_n 3, 1) := by decide +kernel
theorem dX3_isSame_370 : decode cX3_isSame 370 = .ok (.i2d, 1) := by decide +kernel
theorem dX3_isSame_371 : decode cX3_isSame 371 = .ok (.aload_n 0, 1) := by decide +kernel
theorem dX3_isSame_372 : decode cX3_isSame 372 = .ok (.getfield 15, 3) := by decide +kernel
theorem dX3_isSame_375 : decode cX3_isSame 375 = .ok (.arraylength, 1) := by decide +kernel
theorem dX3_isSame_376 : decode cX3_isSame 376 = .ok (.i2d, 1) := by decide +kernel
theorem dX3_isSame_377 : decode cX3_isSame 377 = .ok (.ddiv, 1) := by decide +kernel
theorem dX3_isSame_378 : decode cX3_isSame 378 = .ok (.dcmp .l, 1) := by decide +kernel
theorem dX3_isSame_379 : decode cX3_isSame 379 = .ok (.ifCond .ne 7, 3) := by decide +kernel
theorem dX3_isSame_382 : decode cX3_isSame 382 = .ok (.iconst 1, 1) := by decide +kernel
theorem dX3_isSame_383 : decode cX3_isSame 383 = .ok (.goto 4, 3) := by decide +kernel
theorem dX3_isSame_386 : decode cX3_isSame 386 = .ok (.iconst 0, 1) := by decide +kernel
theorem dX3_isSame_387 : decode cX3_isSame 387 = .ok (.ireturn, 1) := by decide +kernel
theorem dJ9_floorMod_7cf53_0 : decode cJ9_floorMod_7cf53 0 = .ok (.iload_n 0, 1) := by decide +kernel
theorem dJ9_floorMod_7cf53_1 : decode cJ9_floorMod_7cf53 1 = .ok (.iload_n 1, 1) := by decide +kernel
theorem dJ9_floorMod_7cf53_2 : decode cJ9_floorMod_7cf53 2 = .ok (.irem, 1) := by decide +kernel
theorem dJ9_floorMod_7cf53_3 : decode cJ9_floorMod_7cf53 3 = .ok (.istore_n 2, 1) := by decide +kernel
theorem dJ9_floorMod_7cf53_4 : decode cJ9_floorMod_7cf53 4 = .ok (.iload_n 0, 1) := by decide +kernel
theorem dJ9_floorMod_7cf53_5 : decode cJ9_floorMod_7cf53 5 = .ok (.iload_n 1, 1) := by decide +kernel
theorem dJ9_floorMod_7cf53_6 : decode cJ9_floorMod_7cf53 6 = .ok (.ixor, 1) := by decide +kernel
theorem dJ9_floorMod_7cf53_7 : decode cJ9_floorMod_7cf53 7 = .ok (.ifCond .ge 11, 3) := by decide +kernel
theorem dJ9_floorMod_7cf53_10 : decode cJ9_floorMod_7cf53 10 = .ok (.iload_n 2, 1) := by decide +kernel
theorem dJ9_floorMod_7cf53_11 : decode cJ9_floorMod_7cf53 11 = .ok (.ifCond .eq 7, 3) := by decide +kernel
theorem dJ9_floorMod_7cf53_14 : decode cJ9_floorMod_7cf53 14 = .ok (.iload_n 2, 1) := by decide +kernel
theorem dJ9_floorMod_7cf53_15 : decode cJ9_floorMod_7cf53 15 = .ok (.iload_n 1, 1) := by decide +kernel
theorem dJ9_floorMod_7cf53_16 : decode cJ9_floorMod_7cf53 16 = .ok (.iadd, 1) := by decide +kernel
theorem dJ9_floorMod_7cf53_17 : decode cJ9_floorMod_7cf53 17 = .ok (.ireturn, 1) := by decide +kernel
theorem dJ9_floorMod_7cf53_18 : decode cJ9_floorMod_7cf53 18 = .ok (.iload_n 2, 1) := by decide +kernel
theorem dJ9_floorMod_7cf53_19 : decode cJ9_floorMod_7cf53 19 = .ok (.ireturn, 1) := by decide +kernel
theorem dJ9_abs_0f7a4_0 : decode cJ9_abs_0f7a4 0 = .ok (.iload_n 0, 1) := by decide +kernel
theorem dJ9_abs_0f7a4_1 : decode cJ9_abs_0f7a4 1 = .ok (.ifCond .ge 8, 3) := by decide +kernel
theorem dJ9_abs_0f7a4_4 : decode cJ9_abs_0f7a4 4 = .ok (.iload_n 0, 1) := by decide +kernel
theorem dJ9_abs_0f7a4_5 : decode cJ9_abs_0f7a4 5 = .ok (.ineg, 1) := by decide +kernel
theorem dJ9_abs_0f7a4_6 : decode cJ9_abs_0f7a4 6 = .ok (.goto 4, 3) := by decide +kernel
theorem dJ9_abs_0f7a4_9 : decode cJ9_abs_0f7a4 9 = .ok (.iload_n 0, 1) := by decide +kernel
theorem dJ9_abs_0f7a4_10 : decode cJ9_abs_0f7a4 10 = .ok (.ireturn, 1) := by decide +kernel
theorem dJ9_max_7cf53_0 : decode cJ9_max_7cf53 0 = .ok (.iload_n 0, 1) := by decide +kernel
theorem dJ9_max_7cf53_1 : decode cJ9_max_7cf53 1 = .ok (.iload_n 1, 1) := by decide +kernel
theorem dJ9_max_7cf53_2 : decode cJ9_max_7cf53 2 = .ok (.if_icmp .lt 7, 3) := by decide +kernel
theorem dJ9_max_7cf53_5 : decode cJ9_max_7cf53 5 = .ok (.iload_n 0, 1) := by decide +kernel
theorem dJ9_max_7cf53_6 : decode cJ9_max_7cf53 6 = .ok (.goto 4, 3) := by decide +kernel
theorem dJ9_max_7cf53_9 : decode cJ9_max_7cf53 9 = .ok (.iload_n 1, 1) := by decide +kernel
theorem dJ9_max_7cf53_10 : decode cJ9_max_7cf53 10 = .ok (.ireturn, 1) := by decide +kernel
